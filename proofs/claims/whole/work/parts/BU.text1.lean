/-! text of a taste -/
theorem ty_spk {w : Nat} (h : sw_spk w) : w < 30000 := by
  unfold sw_spk sw_sg at h
  rcases h with h | h | h | h | ⟨s, h1, h2⟩ <;> omega
/-- one taste more -/
def ty_U (U : sw_T) (l : List Nat) : sw_T := fun a b c => if a = 0 ∧ b = 0 ∧ c = 0 then 0 else if a = 2 ∧ b = 0 ∧ c = 0 then U 2 0 0 + 1 else if a = 4 ∧ b = U 2 0 0 ∧ c = 0 then l.length else if a = 5 ∧ b = U 2 0 0 then l.getD c 0 else if a = 6 ∧ b = U 2 0 0 ∧ c = 0 then U 0 0 0 else if a = 7 ∧ b = U 2 0 0 then U 1 c 0 else U a b c
section SDBU
variable {L : Nat} {xs : Nat → Int32} {fm : Option Nat} {A W : sw_T} {B T : Nat} {V : Nat → sw_T} {im : Nat} {I U : sw_T} {σ σ' : sd_Mem} {c : Nat} {l : List Nat} {t i : Nat}
theorem ty_U0 : ty_U U l 0 0 0 = 0 := if_pos ⟨rfl, rfl, rfl⟩
theorem ty_U1 : ty_U U l 1 i 0 = U 1 i 0 := by
  unfold ty_U
  rw [if_neg (by omega), if_neg (by omega), if_neg (by omega), if_neg (by omega), if_neg (by omega), if_neg (by omega)]
theorem ty_U2 : ty_U U l 2 0 0 = U 2 0 0 + 1 := by
  unfold ty_U
  rw [if_neg (by omega), if_pos ⟨rfl, rfl, rfl⟩]
theorem ty_U3 : ty_U U l 3 0 0 = U 3 0 0 := by
  unfold ty_U
  rw [if_neg (by omega), if_neg (by omega), if_neg (by omega), if_neg (by omega), if_neg (by omega), if_neg (by omega)]
theorem ty_U4 : ty_U U l 4 t 0 = if t = U 2 0 0 then l.length else U 4 t 0 := by
  unfold ty_U
  rw [if_neg (by omega), if_neg (by omega)]
  by_cases q : t = U 2 0 0
  · rw [if_pos ⟨rfl, q, rfl⟩, if_pos q]
  · rw [if_neg (by omega), if_neg (by omega), if_neg (by omega), if_neg (by omega), if_neg q]
theorem ty_U5 : ty_U U l 5 t i = if t = U 2 0 0 then l.getD i 0 else U 5 t i := by
  unfold ty_U
  rw [if_neg (by omega), if_neg (by omega), if_neg (by omega)]
  by_cases q : t = U 2 0 0
  · rw [if_pos ⟨rfl, q⟩, if_pos q]
  · rw [if_neg (by omega), if_neg (by omega), if_neg (by omega), if_neg q]
theorem ty_U6 : ty_U U l 6 t 0 = if t = U 2 0 0 then U 0 0 0 else U 6 t 0 := by
  unfold ty_U
  rw [if_neg (by omega), if_neg (by omega), if_neg (by omega), if_neg (by omega)]
  by_cases q : t = U 2 0 0
  · rw [if_pos ⟨rfl, q, rfl⟩, if_pos q]
  · rw [if_neg (by omega), if_neg (by omega), if_neg q]
theorem ty_U7 : ty_U U l 7 t i = if t = U 2 0 0 then U 1 i 0 else U 7 t i := by
  unfold ty_U
  rw [if_neg (by omega), if_neg (by omega), if_neg (by omega), if_neg (by omega), if_neg (by omega)]
  by_cases q : t = U 2 0 0
  · rw [if_pos ⟨rfl, q⟩, if_pos q]
  · rw [if_neg (by omega), if_neg q]
/-- the reference's copy of the tape -/
theorem ty_copy {n R : Nat} {b : Nat → Nat} (hR : R < 4) (hn : n ≤ 240) {y : Value} : ∀ f k (σ : sd_Mem), f + k = n → σ.1 271 7 = nI R → (∀ i, i < n → σ.1 272 i = sw_by (b i)) → ∃ σ', (∀ e j, ¬ (e = 273 ∧ 240 * R + k ≤ j ∧ j < 240 * R + n) → σ'.1 e j = σ.1 e j) ∧ σ'.2 = σ.2 ∧ (∀ j, k ≤ j → j < n → σ'.1 273 (240 * R + j) = sw_by (b j)) ∧ ∀ D Q, sd_Go (sd_E1 L xs fm) D y_M_text 104 [.ref 271, .int (nI 1), .int (nI n), .int (nI n), y] [] σ' Q → sd_Go (sd_E1 L xs fm) D y_M_text 72 [.ref 271, .int (nI 1), .int (nI n), .int (nI k), y] [] σ Q := by
  intro f
  induction f with
  | zero =>
    intro k σ hk h7 hb
    obtain rfl : k = n := by omega
    refine ⟨σ, fun _ _ _ => rfl, rfl, fun j h1 h2 => by omega, fun D Q hq => ?_⟩
    have c0 : k ≤ k := Nat.le_refl _
    simp (disch := first | exact sd_cr | exact sd_ci | exact sd_cu | exact sd_cl9 | assumption | omega | exact t_285 | exact t_283 | exact t_278 | exact t_281 | exact t_276 | exact t_274 | exact t_275 | exact t_277 | exact t_279 | exact t_280 | exact t_282 | exact t_284 | exact t_286 | exact t_287 | exact t_288 | exact t_289 | exact t_290 | exact t_291 | exact t_292 | exact t_293 | exact t_294 | exact t_295 | exact t_296 | exact t_297 | exact t_298 | exact t_299 | exact t_300) only [z_M_text_72, z_M_text_73, z_M_text_74, false_and, and_false, if_true, if_false, Decidable.not_not, sd_ci, sd_cr, sd_cl9, sd_cu, sd_cat0, sd_cat1, sd_rfS, sd_n01, sd_n11, sd_n1, sd_n10, sd_n00, sd_b01, sd_b0, true_and, and_true, and_self, not_true_eq_false, not_false_eq_true, false_implies, true_implies, implies_true, or_true, true_or, or_false, false_or, Option.toList_some, Option.toList_none, List.cons_append, List.nil_append, Nat.reduceAdd, Nat.reduceLeDiff, nz_sub, nz_lt0, nz_ge0, nz_le0, nz_gt0, nz_eq0, nz_eq1, nz_lt, nz_le, nz_eq, nz_cl, nz_in, nz_add, nz_mul, nz_m1, nz_m1', Nat.reduceMul, Nat.reduceSub, Nat.reduceLT, Nat.reduceEqDiff, not_false_eq_true, false_implies, true_implies, true_and, and_true, c0]
    exact hq
  | succ f ih =>
    intro k σ hk h7 hb
    have hbk := hb k (by omega)
    have hnar : vp_nar .byte (sw_by (b k)) = sw_by (b k) := sw_nar _
    obtain ⟨σ', s1, s2, s3, s4⟩ := ih (k + 1) (sd_wI σ 273 (240 * R + k) (sw_by (b k))) (by omega) (by rw [wI_c (by decide)]; exact h7) (fun i hi => by rw [wI_c (by decide)]; exact hb i hi)
    refine ⟨σ', fun e j hj => ?_, s2, fun j h1 h2 => ?_, fun D Q hq => ?_⟩
    · rw [s1 e j (fun q => hj ⟨q.1, by omega, q.2.2⟩), wI_1, if_neg (fun q => hj ⟨q.1, by omega, by omega⟩)]
    · by_cases q : j = k
      · subst q
        rw [s1 273 (240 * R + j) (fun q => by omega), wI_k]
      · exact s3 j (by omega) h2
    · have nx := s4 D Q hq
      have c0 : ¬ n ≤ k := by omega
      have c1 : 240 * R + k < 960 := by omega
      have c2 : k < 240 := by omega
      have u2 := t_272
      have u3 := t_273
      rw [z_M_text_72]
      simp (disch := first | exact sd_cr | exact sd_ci | exact sd_cu | exact sd_cl9 | assumption | omega | exact t_285 | exact t_283 | exact t_278 | exact t_281 | exact t_276 | exact t_274 | exact t_275 | exact t_277 | exact t_279 | exact t_280 | exact t_282 | exact t_284 | exact t_286 | exact t_287 | exact t_288 | exact t_289 | exact t_290 | exact t_291 | exact t_292 | exact t_293 | exact t_294 | exact t_295 | exact t_296 | exact t_297 | exact t_298 | exact t_299 | exact t_300) only [z_M_text_73, z_M_text_74, z_M_text_77, z_M_text_78, z_M_text_81, z_M_text_84, z_M_text_85, z_M_text_88, z_M_text_89, z_M_text_90, z_M_text_91, z_M_text_92, z_M_text_95, z_M_text_96, z_M_text_97, z_M_text_98, z_M_text_101, false_and, and_false, if_true, if_false, Decidable.not_not, sd_ci, sd_cr, sd_cl9, sd_cu, sd_cat0, sd_cat1, sd_rfS, sd_n01, sd_n11, sd_n1, sd_n10, sd_n00, sd_b01, sd_b0, true_and, and_true, and_self, not_true_eq_false, not_false_eq_true, false_implies, true_implies, implies_true, or_true, true_or, or_false, false_or, Option.toList_some, Option.toList_none, List.cons_append, List.nil_append, Nat.reduceAdd, Nat.reduceLeDiff, nz_sub, nz_lt0, nz_ge0, nz_le0, nz_gt0, nz_eq0, nz_eq1, nz_lt, nz_le, nz_eq, nz_cl, nz_in, nz_add, nz_mul, nz_m1, nz_m1', Nat.reduceMul, Nat.reduceSub, Nat.reduceLT, Nat.reduceEqDiff, not_false_eq_true, false_implies, true_implies, true_and, and_true, h_271, t_272, n_272, t_273, n_273, t_274, n_274, t_275, n_275, t_276, n_276, t_277, n_277, t_278, n_278, t_279, n_279, t_280, n_280, t_281, n_281, t_282, n_282, t_283, n_283, t_284, n_284, t_285, n_285, t_286, n_286, t_287, n_287, t_288, n_288, t_289, n_289, t_290, n_290, t_291, n_291, t_292, n_292, t_293, n_293, t_294, n_294, t_295, n_295, t_296, n_296, t_297, n_297, t_298, n_298, t_299, n_299, t_300, n_300, t_301, n_301, r_271_1, r_271_2, r_271_3, r_271_4, r_271_15, r_271_16, r_271_18, r_271_19, r_271_20, r_271_21, r_271_22, r_271_23, r_271_24, r_271_25, r_271_26, r_271_34, r_271_35, r_271_38, r_271_39, r_271_40, r_271_42, r_271_45, r_271_46, r_271_47, r_271_48, r_271_49, r_271_50, r_271_53, r_271_54, r_271_55, r_271_57, h7, c0, c1, c2, hbk, hnar]
      exact nx
theorem s_text1 : sw_step L xs fm 60 y_X_text y_M_text [.int (nI 1)] := by
  intro B σ c A W T V im I U hB hI
  obtain ⟨hp, hs, hm, hU, htX, hvX, htM, hvM, hvT⟩ := id hI
  have hU4 := hU.2.2.1
  have hX2 := hvX.1
  have hY7 := hvM.1
  have hcc := hs.1.2.1.2.2.2.2.2.2.2.2.2.2.2
  have li : (lN 0 ≤ lN 1) ↔ True := by decide
  have li2 : (lN 1 ≤ lN 2) ↔ True := by decide
  by_cases hfull : U 2 0 0 = 4
  · refine sw_Inv_step (r := -1) (σ1 := σ) (σ2 := sd_wI σ 271 0 (nI 0)) (B' := B) (fun d Q => sd_Call.iff (fun Q hq => ?_) Q) (fun d Q => sd_Call.iff (fun Q hq => ?_) Q) (hI.p σ rfl rfl) (by omega)
    · rw [hfull] at hX2
      rw [sd_Call.start (ls := [.ref 0, .int (nI 1)]) m_X_text (by decide) (Nat.le_of_ble_eq_true rfl) rfl]
      simp (disch := first | exact sd_cr | exact sd_ci | exact sd_cu | exact sd_cl9 | assumption | omega | exact t_259 | exact t_260 | exact t_261 | exact t_262 | exact t_263 | exact t_264 | exact t_254 | exact t_255 | exact t_256 | exact t_257 | exact t_266 | exact t_267 | exact t_268 | exact t_269 | exact t_270 | exact t_252 | exact t_240 | exact t_246 | exact t_2 | exact t_4 | exact t_5 | exact t_13 | exact t_14 | exact t_15 | exact t_16 | exact Or.inl t_39 | exact Or.inr t_7) only [z_X_text_0, z_X_text_1, z_X_text_4, z_X_text_5, z_X_text_6, z_X_text_9, z_X_text_10, z_X_text_11, z_X_text_14, z_X_text_15, z_X_text_18, z_X_text_21, z_X_text_22, z_X_text_25, z_X_text_26, z_X_text_27, z_X_text_30, z_X_text_31, z_X_text_34, z_X_text_37, z_X_text_39, z_X_text_42, z_X_text_43, z_X_text_44, z_X_text_47, z_X_text_48, z_X_text_51, z_X_text_52, z_X_text_53, z_X_text_54, z_X_text_57, z_X_text_58, z_X_text_61, z_X_text_62, z_X_text_65, z_X_text_66, z_X_text_69, z_X_text_70, z_X_text_71, z_X_text_72, z_X_text_75, z_X_text_76, z_X_text_79, z_X_text_80, z_X_text_83, z_X_text_84, z_X_text_85, z_X_text_88, z_X_text_89, z_X_text_92, z_X_text_95, z_X_text_96, z_X_text_97, z_X_text_98, z_X_text_99, z_X_text_102, z_X_text_103, z_X_text_106, z_X_text_107, z_X_text_108, z_X_text_111, z_X_text_112, z_X_text_115, z_X_text_118, z_X_text_119, z_X_text_120, false_and, and_false, if_true, if_false, Decidable.not_not, sd_ci, sd_cr, sd_cl9, sd_cu, sd_cat0, sd_cat1, sd_rfS, sd_n01, sd_n11, sd_n1, sd_n10, sd_n00, sd_b01, sd_b0, true_and, and_true, and_self, not_true_eq_false, not_false_eq_true, false_implies, true_implies, implies_true, or_true, true_or, or_false, false_or, Option.toList_some, Option.toList_none, List.cons_append, List.nil_append, Nat.reduceAdd, Nat.reduceLeDiff, nz_sub, nz_lt0, nz_ge0, nz_le0, nz_gt0, nz_eq0, nz_eq1, nz_lt, nz_le, nz_eq, nz_cl, nz_in, nz_add, nz_mul, nz_m1, nz_m1', Nat.reduceMul, Nat.reduceSub, Nat.reduceLT, Nat.reduceEqDiff, not_false_eq_true, false_implies, true_implies, true_and, and_true, h_0, h_1, t_2, n_2, h_3, t_4, n_4, t_5, n_5, h_6, t_7, n_7, t_8, n_8, t_9, n_9, t_10, n_10, t_11, n_11, t_12, n_12, t_13, n_13, t_14, n_14, t_15, n_15, t_16, n_16, h_17, h_18, t_19, n_19, t_20, n_20, t_21, n_21, t_22, n_22, h_28, t_29, n_29, t_30, n_30, t_31, n_31, t_32, n_32, h_38, t_39, n_39, t_240, n_240, t_246, n_246, t_252, n_252, h_253, t_254, n_254, t_255, n_255, t_256, n_256, t_257, n_257, h_258, t_259, n_259, t_260, n_260, t_261, n_261, t_262, n_262, t_263, n_263, t_264, n_264, h_265, t_266, n_266, t_267, n_267, t_268, n_268, t_269, n_269, t_270, n_270, r_0_0, r_0_1, r_0_2, r_0_3, r_0_6, r_0_7, r_0_8, r_0_9, r_0_11, r_0_12, r_0_13, r_0_14, r_0_15, r_1_0, r_3_0, r_3_1, r_3_2, r_6_0, r_6_1, r_6_4, r_6_5, r_6_7, r_7_0, r_7_1, r_7_2, r_7_3, r_7_4, r_17_0, r_17_1, r_18_1, r_18_2, r_18_3, r_18_4, r_18_6, r_28_1, r_28_2, r_28_3, r_28_4, r_28_6, r_38_0, r_253_0, r_253_1, r_253_2, r_253_3, r_258_0, r_258_1, r_258_3, r_258_4, r_258_6, r_258_8, r_265_0, r_265_1, r_265_3, r_265_4, r_265_5, r_0_4, r_0_5, hX2]
      exact hq
    · rw [hfull] at hY7
      have e29 : (sd_wI σ 271 0 (nI 0)).1 271 7 = nI 4 := by rw [wI_o (by decide)]; exact hY7
      rw [sd_Call.start (ls := [.ref 271, .int (nI 1), sd_un, sd_un, sd_un]) m_M_text (by decide) (Nat.le_of_ble_eq_true rfl) rfl]
      simp (disch := first | exact sd_cr | exact sd_ci | exact sd_cu | exact sd_cl9 | assumption | omega | exact t_285 | exact t_283 | exact t_278 | exact t_281 | exact t_276 | exact t_274 | exact t_275 | exact t_277 | exact t_279 | exact t_280 | exact t_282 | exact t_284 | exact t_286 | exact t_287 | exact t_288 | exact t_289 | exact t_290 | exact t_291 | exact t_292 | exact t_293 | exact t_294 | exact t_295 | exact t_296 | exact t_297 | exact t_298 | exact t_299 | exact t_300) only [z_M_text_0, z_M_text_1, z_M_text_2, z_M_text_5, z_M_text_6, z_M_text_7, z_M_text_8, z_M_text_11, z_M_text_14, z_M_text_17, z_M_text_18, z_M_text_19, z_M_text_22, z_M_text_23, z_M_text_26, z_M_text_27, z_M_text_30, z_M_text_31, z_M_text_32, z_M_text_35, z_M_text_36, z_M_text_39, z_M_text_41, z_M_text_44, z_M_text_45, z_M_text_46, z_M_text_49, z_M_text_50, z_M_text_53, z_M_text_54, false_and, and_false, if_true, if_false, Decidable.not_not, sd_ci, sd_cr, sd_cl9, sd_cu, sd_cat0, sd_cat1, sd_rfS, sd_n01, sd_n11, sd_n1, sd_n10, sd_n00, sd_b01, sd_b0, true_and, and_true, and_self, not_true_eq_false, not_false_eq_true, false_implies, true_implies, implies_true, or_true, true_or, or_false, false_or, Option.toList_some, Option.toList_none, List.cons_append, List.nil_append, Nat.reduceAdd, Nat.reduceLeDiff, nz_sub, nz_lt0, nz_ge0, nz_le0, nz_gt0, nz_eq0, nz_eq1, nz_lt, nz_le, nz_eq, nz_cl, nz_in, nz_add, nz_mul, nz_m1, nz_m1', Nat.reduceMul, Nat.reduceSub, Nat.reduceLT, Nat.reduceEqDiff, not_false_eq_true, false_implies, true_implies, true_and, and_true, h_271, t_272, n_272, t_273, n_273, t_274, n_274, t_275, n_275, t_276, n_276, t_277, n_277, t_278, n_278, t_279, n_279, t_280, n_280, t_281, n_281, t_282, n_282, t_283, n_283, t_284, n_284, t_285, n_285, t_286, n_286, t_287, n_287, t_288, n_288, t_289, n_289, t_290, n_290, t_291, n_291, t_292, n_292, t_293, n_293, t_294, n_294, t_295, n_295, t_296, n_296, t_297, n_297, t_298, n_298, t_299, n_299, t_300, n_300, t_301, n_301, r_271_1, r_271_2, r_271_3, r_271_4, r_271_15, r_271_16, r_271_18, r_271_19, r_271_20, r_271_21, r_271_22, r_271_23, r_271_24, r_271_25, r_271_26, r_271_34, r_271_35, r_271_38, r_271_39, r_271_40, r_271_42, r_271_45, r_271_46, r_271_47, r_271_48, r_271_49, r_271_50, r_271_53, r_271_54, r_271_55, r_271_57, c_M_isIn, lz_i, li, li2, sd_bT trivial, e29]
      exact hq
  · have h5 : ¬ 4 ≤ U 2 0 0 := by omega
    obtain ⟨e, r, V1, t1, t2, t3, t4⟩ := ty_taste (L := L) (xs := xs) (fm := fm) (b := fun i => U 1 i 0) (n := U 0 0 0) hU.1 (fun i _ => (hU.2.1 i).2)
    have hUn := hU.1
    obtain ⟨σ1, a1, a2, a3⟩ := k_Xf1 hI t1
    have mfault : ∀ σ1 : sd_Mem, (∀ k, 271 ≤ k → σ1.1 k = σ.1 k) → _ := fun (σ1 : sd_Mem) (g : ∀ k, 271 ≤ k → σ1.1 k = σ.1 k) => k_Mf1 (L := L) (xs := xs) (fm := fm) (σ := sd_wI σ1 271 0 (nI 0)) (b := fun i => U 1 i 0) (n := U 0 0 0) (by rw [wI_o (by decide), g 271 (by decide)]; exact htM.1) hU.1 (fun i hi => by rw [wI_c (by decide), g 272 (by decide)]; exact htM.2 i hi) (fun k hk => by rw [wI_c (by decide), g 275 (by decide)]; exact hvM.2.2.2.1 k hk) t2
    cases r with
    | none =>
      have hne : ¬ (if (none : Option (List Nat)).isSome = true then (-1 : Int32) else nI e) = -1 := fun q => ((nz_m1 (by omega)).mp q).elim
      have g1 : ∀ k, 271 ≤ k → σ1.1 k = σ.1 k := fun k hk => funext fun j => a1.1 k j (by omega) (by omega) (by omega)
      obtain ⟨σ2, m1, m2, m4, m5, m7⟩ := mfault σ1 g1
      refine sw_Inv_step (r := -1) (σ1 := σ1) (σ2 := σ2) (B' := B) (fun d Q => sd_Call.iff (fun Q hq => ?_) Q) (fun d Q => sd_Call.iff (fun Q hq => ?_) Q) (hI.rg (fun k j hk q1 q2 q3 _ _ _ _ _ => ?_) (fun j h1 h2 => ?_) (fun j hj => ?_) (fun k h1 h2 _ _ _ _ _ => ?_) (fun k i hk => ?_)) (by omega)
      · have cs := fun Q => a3 (d + 59) Q (by omega)
        rw [sd_Call.start (ls := [.ref 0, .int (nI 1)]) m_X_text (by decide) (Nat.le_of_ble_eq_true rfl) rfl]
        simp (disch := first | exact sd_cr | exact sd_ci | exact sd_cu | exact sd_cl9 | assumption | omega | exact t_259 | exact t_260 | exact t_261 | exact t_262 | exact t_263 | exact t_264 | exact t_254 | exact t_255 | exact t_256 | exact t_257 | exact t_266 | exact t_267 | exact t_268 | exact t_269 | exact t_270 | exact t_252 | exact t_240 | exact t_246 | exact t_2 | exact t_4 | exact t_5 | exact t_13 | exact t_14 | exact t_15 | exact t_16 | exact Or.inl t_39 | exact Or.inr t_7) only [z_X_text_0, z_X_text_1, z_X_text_4, z_X_text_5, z_X_text_6, z_X_text_9, z_X_text_10, z_X_text_11, z_X_text_14, z_X_text_15, z_X_text_18, z_X_text_21, z_X_text_22, z_X_text_25, z_X_text_26, z_X_text_27, z_X_text_30, z_X_text_31, z_X_text_34, z_X_text_37, z_X_text_39, z_X_text_42, z_X_text_43, z_X_text_44, z_X_text_47, z_X_text_48, z_X_text_51, z_X_text_52, false_and, and_false, if_true, if_false, Decidable.not_not, sd_ci, sd_cr, sd_cl9, sd_cu, sd_cat0, sd_cat1, sd_rfS, sd_n01, sd_n11, sd_n1, sd_n10, sd_n00, sd_b01, sd_b0, true_and, and_true, and_self, not_true_eq_false, not_false_eq_true, false_implies, true_implies, implies_true, or_true, true_or, or_false, false_or, Option.toList_some, Option.toList_none, List.cons_append, List.nil_append, Nat.reduceAdd, Nat.reduceLeDiff, nz_sub, nz_lt0, nz_ge0, nz_le0, nz_gt0, nz_eq0, nz_eq1, nz_lt, nz_le, nz_eq, nz_cl, nz_in, nz_add, nz_mul, nz_m1, nz_m1', Nat.reduceMul, Nat.reduceSub, Nat.reduceLT, Nat.reduceEqDiff, not_false_eq_true, false_implies, true_implies, true_and, and_true, h_0, h_1, t_2, n_2, h_3, t_4, n_4, t_5, n_5, h_6, t_7, n_7, t_8, n_8, t_9, n_9, t_10, n_10, t_11, n_11, t_12, n_12, t_13, n_13, t_14, n_14, t_15, n_15, t_16, n_16, h_17, h_18, t_19, n_19, t_20, n_20, t_21, n_21, t_22, n_22, h_28, t_29, n_29, t_30, n_30, t_31, n_31, t_32, n_32, h_38, t_39, n_39, t_240, n_240, t_246, n_246, t_252, n_252, h_253, t_254, n_254, t_255, n_255, t_256, n_256, t_257, n_257, h_258, t_259, n_259, t_260, n_260, t_261, n_261, t_262, n_262, t_263, n_263, t_264, n_264, h_265, t_266, n_266, t_267, n_267, t_268, n_268, t_269, n_269, t_270, n_270, r_0_0, r_0_1, r_0_2, r_0_3, r_0_6, r_0_7, r_0_8, r_0_9, r_0_11, r_0_12, r_0_13, r_0_14, r_0_15, r_1_0, r_3_0, r_3_1, r_3_2, r_6_0, r_6_1, r_6_4, r_6_5, r_6_7, r_7_0, r_7_1, r_7_2, r_7_3, r_7_4, r_17_0, r_17_1, r_18_1, r_18_2, r_18_3, r_18_4, r_18_6, r_28_1, r_28_2, r_28_3, r_28_4, r_28_6, r_38_0, r_253_0, r_253_1, r_253_2, r_253_3, r_258_0, r_258_1, r_258_3, r_258_4, r_258_6, r_258_8, r_265_0, r_265_1, r_265_3, r_265_4, r_265_5, r_0_4, r_0_5, hX2, h5, cs, hne]
        exact hq
      · have e29 : (sd_wI σ1 271 0 (nI 0)).1 271 7 = nI (U 2 0 0) := by rw [wI_o (by decide), g1 271 (by decide)]; exact hY7
        have hne' : ¬ U 2 0 0 = 4 := hfull
        have cs := fun Q => m7 (d + 59) Q (by omega)
        rw [sd_Call.start (ls := [.ref 271, .int (nI 1), sd_un, sd_un, sd_un]) m_M_text (by decide) (Nat.le_of_ble_eq_true rfl) rfl]
        simp (disch := first | exact sd_cr | exact sd_ci | exact sd_cu | exact sd_cl9 | assumption | omega | exact t_285 | exact t_283 | exact t_278 | exact t_281 | exact t_276 | exact t_274 | exact t_275 | exact t_277 | exact t_279 | exact t_280 | exact t_282 | exact t_284 | exact t_286 | exact t_287 | exact t_288 | exact t_289 | exact t_290 | exact t_291 | exact t_292 | exact t_293 | exact t_294 | exact t_295 | exact t_296 | exact t_297 | exact t_298 | exact t_299 | exact t_300) only [z_M_text_0, z_M_text_1, z_M_text_2, z_M_text_5, z_M_text_6, z_M_text_7, z_M_text_8, z_M_text_11, z_M_text_14, z_M_text_17, z_M_text_18, z_M_text_19, z_M_text_22, z_M_text_23, z_M_text_26, z_M_text_27, z_M_text_30, z_M_text_31, z_M_text_32, z_M_text_35, z_M_text_36, z_M_text_39, z_M_text_41, z_M_text_44, z_M_text_45, z_M_text_46, z_M_text_49, z_M_text_50, z_M_text_53, z_M_text_54, false_and, and_false, if_true, if_false, Decidable.not_not, sd_ci, sd_cr, sd_cl9, sd_cu, sd_cat0, sd_cat1, sd_rfS, sd_n01, sd_n11, sd_n1, sd_n10, sd_n00, sd_b01, sd_b0, true_and, and_true, and_self, not_true_eq_false, not_false_eq_true, false_implies, true_implies, implies_true, or_true, true_or, or_false, false_or, Option.toList_some, Option.toList_none, List.cons_append, List.nil_append, Nat.reduceAdd, Nat.reduceLeDiff, nz_sub, nz_lt0, nz_ge0, nz_le0, nz_gt0, nz_eq0, nz_eq1, nz_lt, nz_le, nz_eq, nz_cl, nz_in, nz_add, nz_mul, nz_m1, nz_m1', Nat.reduceMul, Nat.reduceSub, Nat.reduceLT, Nat.reduceEqDiff, not_false_eq_true, false_implies, true_implies, true_and, and_true, h_271, t_272, n_272, t_273, n_273, t_274, n_274, t_275, n_275, t_276, n_276, t_277, n_277, t_278, n_278, t_279, n_279, t_280, n_280, t_281, n_281, t_282, n_282, t_283, n_283, t_284, n_284, t_285, n_285, t_286, n_286, t_287, n_287, t_288, n_288, t_289, n_289, t_290, n_290, t_291, n_291, t_292, n_292, t_293, n_293, t_294, n_294, t_295, n_295, t_296, n_296, t_297, n_297, t_298, n_298, t_299, n_299, t_300, n_300, t_301, n_301, r_271_1, r_271_2, r_271_3, r_271_4, r_271_15, r_271_16, r_271_18, r_271_19, r_271_20, r_271_21, r_271_22, r_271_23, r_271_24, r_271_25, r_271_26, r_271_34, r_271_35, r_271_38, r_271_39, r_271_40, r_271_42, r_271_45, r_271_46, r_271_47, r_271_48, r_271_49, r_271_50, r_271_53, r_271_54, r_271_55, r_271_57, c_M_isIn, lz_i, li, li2, sd_bT trivial, e29, hne', cs, hne]
        exact hq
      · rw [m1 k (by omega), wI_c (by omega)]
        exact a1.1 k j q1 q2 q3
      · rw [m2 j h1 (by omega), wI_o (by omega), g1 271 (by decide)]
      · rw [m1 283 (by decide), wI_c (by decide), g1 283 (by decide)]
      · rw [m1 k (by omega), wI_c (by omega), g1 k (by omega)]
      · rw [m5 k i hk]
        show σ1.2.2 k i = _
        rw [a1.2]
    | some l =>
      obtain ⟨l1, l2, l3⟩ := t4 l rfl
      obtain ⟨b1, b2⟩ := a2 l rfl
      have m1' : (if (some l : Option (List Nat)).isSome = true then (-1 : Int32) else nI e) = -1 := rfl
      rw [m1'] at a3
      have g1 : ∀ k, 271 ≤ k → (sd_wI (sd_wI σ1 1 1 (nI 0)) 6 2 (nI (U 2 0 0 + 1))).1 k = σ.1 k := fun k hk => funext fun j => by rw [wI_c (by omega), wI_c (by omega)]; exact a1.1 k j (by omega) (by omega) (by omega)
      obtain ⟨σ2, m1, m2, m4, m5, m7⟩ := mfault _ g1
      rw [m1'] at m7
      have f7 : σ2.1 271 7 = nI (U 2 0 0) := by rw [m2 7 (by decide) (by decide), wI_o (by decide), g1 271 (by decide)]; exact hY7
      obtain ⟨σ3, p1, p2, p3, p4⟩ := ty_copy (L := L) (xs := xs) (fm := fm) (R := U 2 0 0) (n := U 0 0 0) (b := fun i => U 1 i 0) (y := sd_un) (by omega) hUn (U 0 0 0) 0 (sd_wI σ2 271 6 (nI 0)) rfl (by rw [wI_o (by decide)]; exact f7) (fun i hi => by rw [wI_c (by decide), m1 272 (by decide), wI_c (by decide), g1 272 (by decide)]; exact htM.2 i hi)
      have hσ3 : ∀ k j, ¬ (k = 271 ∧ (j ≤ 0 ∨ j = 6 ∨ (8 ≤ j ∧ j ≤ 14) ∨ j = 17)) → ¬ (k = 1 ∧ (j = 1 ∨ j = 2)) → ¬ (k = 6 ∧ j = 2) → ¬ (k = 13 ∧ j = U 2 0 0) → k ≠ 8 + U 2 0 0 → ¬ (k = 273 ∧ 240 * U 2 0 0 ≤ j) → σ3.1 k j = σ.1 k j := by
        intro k j q1 q2 q3 q4 q5 q6
        rw [p1 k j (fun r => q6 ⟨r.1, by omega⟩), wI_1, if_neg (by omega)]
        by_cases r : k = 271
        · subst r
          rw [m2 j (by omega) (by omega), wI_o (by omega), g1 271 (by decide)]
        · rw [m1 k r, wI_c r, wI_1, if_neg q3, wI_1, if_neg (by omega)]
          exact a1.1 k j (by omega) q4 q5
      have hσ32 : ∀ k i, k ≠ 271 → σ3.2.2 k i = σ.2.2 k i := fun k i hk => by
        rw [p2]
        show σ2.2.2 k i = _
        rw [m5 k i hk]
        show σ1.2.2 k i = _
        rw [a1.2]
      have hX3 : ∀ k j, k ≠ 271 → k ≠ 273 → k ≠ 1 → k ≠ 6 → σ3.1 k j = σ1.1 k j := fun k j h1 h2 h3 h4 => by rw [p1 k j (by omega), wI_c h1, m1 k h1, wI_c h1, wI_c h4, wI_c h3]
      have gld : ∀ i, l.getD i 0 < 30000 := fun i => by
        by_cases hi : i < l.length
        · refine ty_spk (l2 _ ?_)
          rw [List.getD_eq_getElem?_getD, List.getElem?_eq_getElem hi]
          exact List.getElem_mem hi
        · rw [List.getD_eq_getElem?_getD, List.getElem?_eq_none (by omega)]
          decide
      refine sw_Inv_step (r := nI (U 2 0 0)) (σ1 := sd_wI (sd_wI σ1 1 1 (nI 0)) 6 2 (nI (U 2 0 0 + 1))) (σ2 := sd_wI (sd_wI σ3 274 (U 2 0 0) (nI (U 0 0 0))) 271 7 (nI (U 2 0 0 + 1))) (c' := c) (U' := ty_U U l) (B' := B) (fun d Q => sd_Call.iff (fun Q hq => ?_) Q) (fun d Q => sd_Call.iff (fun Q hq => ?_) Q) ⟨hp, ?_, ?_, ?_, ?_, ?_, ?_, ?_, ?_⟩ (by omega)
      · have e1 : (sd_wI σ1 1 1 (nI 0)).1 6 2 = nI (U 2 0 0) := by rw [wI_c (by decide), a1.1 6 2 (by omega) (by omega) (by omega)]; exact hX2
        have cs := fun Q => a3 (d + 59) Q (by omega)
        rw [sd_Call.start (ls := [.ref 0, .int (nI 1)]) m_X_text (by decide) (Nat.le_of_ble_eq_true rfl) rfl]
        simp (disch := first | exact sd_cr | exact sd_ci | exact sd_cu | exact sd_cl9 | assumption | omega | exact t_259 | exact t_260 | exact t_261 | exact t_262 | exact t_263 | exact t_264 | exact t_254 | exact t_255 | exact t_256 | exact t_257 | exact t_266 | exact t_267 | exact t_268 | exact t_269 | exact t_270 | exact t_252 | exact t_240 | exact t_246 | exact t_2 | exact t_4 | exact t_5 | exact t_13 | exact t_14 | exact t_15 | exact t_16 | exact Or.inl t_39 | exact Or.inr t_7) only [z_X_text_0, z_X_text_1, z_X_text_4, z_X_text_5, z_X_text_6, z_X_text_9, z_X_text_10, z_X_text_11, z_X_text_14, z_X_text_15, z_X_text_18, z_X_text_21, z_X_text_22, z_X_text_25, z_X_text_26, z_X_text_27, z_X_text_30, z_X_text_31, z_X_text_34, z_X_text_37, z_X_text_39, z_X_text_42, z_X_text_43, z_X_text_44, z_X_text_47, z_X_text_48, z_X_text_51, z_X_text_52, z_X_text_53, z_X_text_54, z_X_text_57, z_X_text_58, z_X_text_61, z_X_text_62, z_X_text_65, z_X_text_66, z_X_text_69, z_X_text_70, z_X_text_71, z_X_text_72, z_X_text_75, z_X_text_76, z_X_text_79, z_X_text_80, z_X_text_83, z_X_text_84, z_X_text_85, z_X_text_88, z_X_text_89, z_X_text_92, z_X_text_95, z_X_text_96, z_X_text_97, z_X_text_98, z_X_text_99, z_X_text_102, z_X_text_103, z_X_text_106, z_X_text_107, z_X_text_108, z_X_text_111, z_X_text_112, z_X_text_115, z_X_text_118, z_X_text_119, z_X_text_120, false_and, and_false, if_true, if_false, Decidable.not_not, sd_ci, sd_cr, sd_cl9, sd_cu, sd_cat0, sd_cat1, sd_rfS, sd_n01, sd_n11, sd_n1, sd_n10, sd_n00, sd_b01, sd_b0, true_and, and_true, and_self, not_true_eq_false, not_false_eq_true, false_implies, true_implies, implies_true, or_true, true_or, or_false, false_or, Option.toList_some, Option.toList_none, List.cons_append, List.nil_append, Nat.reduceAdd, Nat.reduceLeDiff, nz_sub, nz_lt0, nz_ge0, nz_le0, nz_gt0, nz_eq0, nz_eq1, nz_lt, nz_le, nz_eq, nz_cl, nz_in, nz_add, nz_mul, nz_m1, nz_m1', Nat.reduceMul, Nat.reduceSub, Nat.reduceLT, Nat.reduceEqDiff, not_false_eq_true, false_implies, true_implies, true_and, and_true, h_0, h_1, t_2, n_2, h_3, t_4, n_4, t_5, n_5, h_6, t_7, n_7, t_8, n_8, t_9, n_9, t_10, n_10, t_11, n_11, t_12, n_12, t_13, n_13, t_14, n_14, t_15, n_15, t_16, n_16, h_17, h_18, t_19, n_19, t_20, n_20, t_21, n_21, t_22, n_22, h_28, t_29, n_29, t_30, n_30, t_31, n_31, t_32, n_32, h_38, t_39, n_39, t_240, n_240, t_246, n_246, t_252, n_252, h_253, t_254, n_254, t_255, n_255, t_256, n_256, t_257, n_257, h_258, t_259, n_259, t_260, n_260, t_261, n_261, t_262, n_262, t_263, n_263, t_264, n_264, h_265, t_266, n_266, t_267, n_267, t_268, n_268, t_269, n_269, t_270, n_270, r_0_0, r_0_1, r_0_2, r_0_3, r_0_6, r_0_7, r_0_8, r_0_9, r_0_11, r_0_12, r_0_13, r_0_14, r_0_15, r_1_0, r_3_0, r_3_1, r_3_2, r_6_0, r_6_1, r_6_4, r_6_5, r_6_7, r_7_0, r_7_1, r_7_2, r_7_3, r_7_4, r_17_0, r_17_1, r_18_1, r_18_2, r_18_3, r_18_4, r_18_6, r_28_1, r_28_2, r_28_3, r_28_4, r_28_6, r_38_0, r_253_0, r_253_1, r_253_2, r_253_3, r_258_0, r_258_1, r_258_3, r_258_4, r_258_6, r_258_8, r_265_0, r_265_1, r_265_3, r_265_4, r_265_5, r_0_4, r_0_5, hX2, h5, cs, e1, wI_k, Nat.add_sub_cancel]
        exact hq
      · have e29 : (sd_wI (sd_wI (sd_wI σ1 1 1 (nI 0)) 6 2 (nI (U 2 0 0 + 1))) 271 0 (nI 0)).1 271 7 = nI (U 2 0 0) := by rw [wI_o (by decide), g1 271 (by decide)]; exact hY7
        have hne : ¬ U 2 0 0 = 4 := hfull
        have cs := fun Q => m7 (d + 59) Q (by omega)
        have e6 : σ2.1 271 6 = nI (U 0 0 0) := by rw [m2 6 (by decide) (by decide), wI_o (by decide), g1 271 (by decide)]; exact htM.1
        have e7 : σ3.1 271 7 = nI (U 2 0 0) := by rw [p1 271 7 (by omega), wI_o (by decide)]; exact f7
        have e7' : (sd_wI σ3 274 (U 2 0 0) (nI (U 0 0 0))).1 271 7 = nI (U 2 0 0) := by rw [wI_c (by decide)]; exact e7
        have c4 : U 2 0 0 < 4 := by omega
        rw [sd_Call.start (ls := [.ref 271, .int (nI 1), sd_un, sd_un, sd_un]) m_M_text (by decide) (Nat.le_of_ble_eq_true rfl) rfl]
        have nx := p4 (d + 59) Q (by
          simp (disch := first | exact sd_cr | exact sd_ci | exact sd_cu | exact sd_cl9 | assumption | omega | exact t_285 | exact t_283 | exact t_278 | exact t_281 | exact t_276 | exact t_274 | exact t_275 | exact t_277 | exact t_279 | exact t_280 | exact t_282 | exact t_284 | exact t_286 | exact t_287 | exact t_288 | exact t_289 | exact t_290 | exact t_291 | exact t_292 | exact t_293 | exact t_294 | exact t_295 | exact t_296 | exact t_297 | exact t_298 | exact t_299 | exact t_300) only [z_M_text_104, z_M_text_105, z_M_text_108, z_M_text_109, z_M_text_112, z_M_text_113, z_M_text_114, z_M_text_115, z_M_text_116, z_M_text_119, z_M_text_120, z_M_text_121, z_M_text_124, z_M_text_125, z_M_text_128, z_M_text_129, z_M_text_130, false_and, and_false, if_true, if_false, Decidable.not_not, sd_ci, sd_cr, sd_cl9, sd_cu, sd_cat0, sd_cat1, sd_rfS, sd_n01, sd_n11, sd_n1, sd_n10, sd_n00, sd_b01, sd_b0, true_and, and_true, and_self, not_true_eq_false, not_false_eq_true, false_implies, true_implies, implies_true, or_true, true_or, or_false, false_or, Option.toList_some, Option.toList_none, List.cons_append, List.nil_append, Nat.reduceAdd, Nat.reduceLeDiff, nz_sub, nz_lt0, nz_ge0, nz_le0, nz_gt0, nz_eq0, nz_eq1, nz_lt, nz_le, nz_eq, nz_cl, nz_in, nz_add, nz_mul, nz_m1, nz_m1', Nat.reduceMul, Nat.reduceSub, Nat.reduceLT, Nat.reduceEqDiff, not_false_eq_true, false_implies, true_implies, true_and, and_true, h_271, t_272, n_272, t_273, n_273, t_274, n_274, t_275, n_275, t_276, n_276, t_277, n_277, t_278, n_278, t_279, n_279, t_280, n_280, t_281, n_281, t_282, n_282, t_283, n_283, t_284, n_284, t_285, n_285, t_286, n_286, t_287, n_287, t_288, n_288, t_289, n_289, t_290, n_290, t_291, n_291, t_292, n_292, t_293, n_293, t_294, n_294, t_295, n_295, t_296, n_296, t_297, n_297, t_298, n_298, t_299, n_299, t_300, n_300, t_301, n_301, r_271_1, r_271_2, r_271_3, r_271_4, r_271_15, r_271_16, r_271_18, r_271_19, r_271_20, r_271_21, r_271_22, r_271_23, r_271_24, r_271_25, r_271_26, r_271_34, r_271_35, r_271_38, r_271_39, r_271_40, r_271_42, r_271_45, r_271_46, r_271_47, r_271_48, r_271_49, r_271_50, r_271_53, r_271_54, r_271_55, r_271_57, e7, e7', c4, wI_k, Nat.add_sub_cancel]
          exact hq)
        simp (disch := first | exact sd_cr | exact sd_ci | exact sd_cu | exact sd_cl9 | assumption | omega | exact t_285 | exact t_283 | exact t_278 | exact t_281 | exact t_276 | exact t_274 | exact t_275 | exact t_277 | exact t_279 | exact t_280 | exact t_282 | exact t_284 | exact t_286 | exact t_287 | exact t_288 | exact t_289 | exact t_290 | exact t_291 | exact t_292 | exact t_293 | exact t_294 | exact t_295 | exact t_296 | exact t_297 | exact t_298 | exact t_299 | exact t_300) only [z_M_text_0, z_M_text_1, z_M_text_2, z_M_text_5, z_M_text_6, z_M_text_7, z_M_text_8, z_M_text_11, z_M_text_14, z_M_text_17, z_M_text_18, z_M_text_19, z_M_text_22, z_M_text_23, z_M_text_26, z_M_text_27, z_M_text_30, z_M_text_31, z_M_text_32, z_M_text_35, z_M_text_36, z_M_text_39, z_M_text_41, z_M_text_44, z_M_text_45, z_M_text_46, z_M_text_49, z_M_text_50, z_M_text_53, z_M_text_54, z_M_text_55, z_M_text_56, z_M_text_59, z_M_text_60, z_M_text_61, z_M_text_62, z_M_text_65, z_M_text_66, z_M_text_67, z_M_text_70, z_M_text_71, false_and, and_false, if_true, if_false, Decidable.not_not, sd_ci, sd_cr, sd_cl9, sd_cu, sd_cat0, sd_cat1, sd_rfS, sd_n01, sd_n11, sd_n1, sd_n10, sd_n00, sd_b01, sd_b0, true_and, and_true, and_self, not_true_eq_false, not_false_eq_true, false_implies, true_implies, implies_true, or_true, true_or, or_false, false_or, Option.toList_some, Option.toList_none, List.cons_append, List.nil_append, Nat.reduceAdd, Nat.reduceLeDiff, nz_sub, nz_lt0, nz_ge0, nz_le0, nz_gt0, nz_eq0, nz_eq1, nz_lt, nz_le, nz_eq, nz_cl, nz_in, nz_add, nz_mul, nz_m1, nz_m1', Nat.reduceMul, Nat.reduceSub, Nat.reduceLT, Nat.reduceEqDiff, not_false_eq_true, false_implies, true_implies, true_and, and_true, h_271, t_272, n_272, t_273, n_273, t_274, n_274, t_275, n_275, t_276, n_276, t_277, n_277, t_278, n_278, t_279, n_279, t_280, n_280, t_281, n_281, t_282, n_282, t_283, n_283, t_284, n_284, t_285, n_285, t_286, n_286, t_287, n_287, t_288, n_288, t_289, n_289, t_290, n_290, t_291, n_291, t_292, n_292, t_293, n_293, t_294, n_294, t_295, n_295, t_296, n_296, t_297, n_297, t_298, n_298, t_299, n_299, t_300, n_300, t_301, n_301, r_271_1, r_271_2, r_271_3, r_271_4, r_271_15, r_271_16, r_271_18, r_271_19, r_271_20, r_271_21, r_271_22, r_271_23, r_271_24, r_271_25, r_271_26, r_271_34, r_271_35, r_271_38, r_271_39, r_271_40, r_271_42, r_271_45, r_271_46, r_271_47, r_271_48, r_271_49, r_271_50, r_271_53, r_271_54, r_271_55, r_271_57, c_M_isIn, lz_i, li, li2, sd_bT trivial, e29, hne, cs, e6]
        exact nx
      · refine hs.fr4 (fun k hk => funext fun j => ?_) (fun j hj => ?_) (fun j hj => ?_) hσ32
        · rw [wI_c (by omega), wI_c (by omega)]
          exact hσ3 k j (by omega) (by omega) (by omega) (by omega) (by omega) (by omega)
        · rw [wI_c (by decide), wI_c (by decide)]
          exact hσ3 259 j (by omega) (by omega) (by omega) (by omega) (by omega) (by omega)
        · rw [wI_c (by decide), wI_c (by decide)]
          exact hσ3 260 j (by omega) (by omega) (by omega) (by omega) (by omega) (by omega)
      · refine hm.fr3 (fun j hj => ?_) (fun k hk => funext fun j => ?_)
        · rw [wI_o (by omega), wI_c (by decide)]
          exact hσ3 271 j (by omega) (by omega) (by omega) (by omega) (by omega) (by omega)
        · rw [wI_c (by omega), wI_c (by omega)]
          exact hσ3 k j (by omega) (by omega) (by omega) (by omega) (by omega) (by omega)
      · obtain ⟨w1, w2, w3, w4, w5, w6, w7⟩ := hU
        refine ⟨by rw [ty_U0]; omega, fun i => by rw [ty_U1]; exact w2 i, by rw [ty_U2]; omega, by rw [ty_U2, ty_U3]; omega, fun t => ⟨?_, ?_⟩, fun t i => ?_, fun t i => ?_⟩
        · rw [ty_U4]
          split
          · omega
          · exact (w5 t).1
        · rw [ty_U6]
          split
          · omega
          · exact (w5 t).2
        · rw [ty_U5]
          split
          · exact gld i
          · exact w6 t i
        · rw [ty_U7]
          split
          · exact w2 i
          · exact w7 t i
      · refine ⟨?_, fun i hi => ?_⟩
        · rw [ty_U0, wI_c (by decide), wI_c (by decide), p1 1 1 (by omega), wI_c (by decide), m1 1 (by decide), wI_c (by decide), wI_c (by decide), wI_k]
        · rw [ty_U0] at hi
          omega
      · obtain ⟨v1, v2, v3⟩ := hvX
        refine ⟨?_, ?_, fun t ht => ?_⟩
        · rw [ty_U2, wI_c (by decide), wI_c (by decide), p1 6 2 (by omega), wI_c (by decide), m1 6 (by decide), wI_c (by decide), wI_k]
        · rw [ty_U3, wI_c (by decide), wI_c (by decide), hσ3 6 3 (by omega) (by omega) (by omega) (by omega) (by omega) (by omega)]
          exact v2
        · rw [ty_U2] at ht
          rw [ty_U4, wI_c (by decide), wI_c (by decide), wI_c (by omega), wI_c (by omega)]
          by_cases q : t = U 2 0 0
          · rw [if_pos q]
            subst q
            refine ⟨?_, fun i hi => ?_⟩
            · rw [hX3 13 _ (by decide) (by decide) (by decide) (by decide)]
              exact b1
            · rw [ty_U5, if_pos rfl, hX3 _ _ (by omega) (by omega) (by omega) (by omega)]
              exact b2 i hi
          · rw [if_neg q]
            refine ⟨?_, fun i hi => ?_⟩
            · rw [hσ3 13 t (by omega) (by omega) (by omega) (by omega) (by omega) (by omega)]
              exact (v3 t (by omega)).1
            · rw [ty_U5, if_neg q, hσ3 _ _ (by omega) (by omega) (by omega) (by omega) (by omega) (by omega)]
              exact (v3 t (by omega)).2 i hi
      · refine ⟨?_, fun i hi => ?_⟩
        · rw [ty_U0, wI_o (by decide), wI_c (by decide), p1 271 6 (by omega), wI_k]
        · rw [ty_U0] at hi
          omega
      · obtain ⟨k1, k2, k3, k4, k5, k6⟩ := hvM
        have e295 : ∀ k, k = 295 ∨ k = 296 ∨ k = 275 → (sd_wI (sd_wI σ3 274 (U 2 0 0) (nI (U 0 0 0))) 271 7 (nI (U 2 0 0 + 1))).1 k = σ.1 k := fun k hk => funext fun j => by
          rw [wI_c (by omega), wI_c (by omega)]
          exact hσ3 k j (by omega) (by omega) (by omega) (by omega) (by omega) (by omega)
        refine ⟨by rw [ty_U2, wI_k], ?_, fun t ht => ?_, by rw [e295 275 (by omega)]; exact k4, fun s hs' => ?_, fun d i r p t j h hd hi hr hp' ht hj hh hkey => ?_⟩
        · rw [ty_U3, wI_o (by decide), wI_c (by decide), hσ3 271 36 (by omega) (by omega) (by omega) (by omega) (by omega) (by omega)]
          exact k2
        · rw [ty_U2] at ht
          have w5 := hU.2.2.2.2.1 t
          rw [ty_U6, wI_c (show (274 : Nat) ≠ 271 by decide), wI_1]
          by_cases q : t = U 2 0 0
          · rw [if_pos q, if_pos ⟨rfl, q⟩]
            refine ⟨rfl, fun i hi => ?_⟩
            subst q
            rw [ty_U7, if_pos rfl, wI_c (by decide), wI_c (by decide)]
            exact p3 i (by omega) hi
          · rw [if_neg q, if_neg (fun r => q r.2)]
            refine ⟨?_, fun i hi => ?_⟩
            · rw [hσ3 274 t (by omega) (by omega) (by omega) (by omega) (by omega) (by omega)]
              exact (k3 t (by omega)).1
            · rw [ty_U7, if_neg q, wI_c (by decide), wI_c (by decide), hσ3 273 _ (by omega) (by omega) (by omega) (by omega) (by omega) (by omega)]
              exact (k3 t (by omega)).2 i hi
        · rw [e295 295 (by omega), ty_U2]
          rcases k5 s hs' with q | ⟨t, m, q1, q2, q3⟩
          · exact Or.inl q
          · exact Or.inr ⟨t, m, by omega, q2, q3⟩
        · rw [e295 295 (by omega)] at hkey
          rw [ty_U2] at ht
          rw [e295 296 (by omega)]
          by_cases q : t = U 2 0 0
          · exfalso
            rcases k5 (((d * 12 + i) * 12 + r) * 5 + p) (by omega) with q' | ⟨t', m, q1, q2, q3⟩
            · rw [q', nz_eq (by omega) (by omega)] at hkey
              omega
            · rw [q3, nz_eq (by omega) (by omega)] at hkey
              omega
          · have := k6 d i r p t j h hd hi hr hp' (by omega) hj hh hkey
            rw [this]
            unfold sw_wv
            rw [ty_U4, if_neg q, show ty_U U l 5 t = U 5 t from funext fun i => by rw [ty_U5, if_neg q]]
      · intro t ht
        rw [ty_U2] at ht
        by_cases q : t = U 2 0 0
        · rw [ty_U4, ty_U6, if_pos q, if_pos q, show ty_U U l 5 t = (fun i => l.getD i 0) from funext fun i => by rw [ty_U5, if_pos q], show ty_U U l 7 t = (fun i => U 1 i 0) from funext fun i => by rw [ty_U7, if_pos q]]
          refine ⟨fun σ a o ℓ ha ho hby h6 hl => ?_, fun i hi => ?_⟩
          · obtain ⟨σ', c1, c2, c3, c4⟩ := t2 σ a o ℓ ha ho hby h6 hl
            exact ⟨σ', c1, by rw [c3 rfl, l3 ℓ hl], fun d Q => c4 (d + 60) Q (by omega)⟩
          · refine l2 _ ?_
            show l.getD i 0 ∈ l
            rw [List.getD_eq_getElem?_getD, List.getElem?_eq_getElem hi]
            exact List.getElem_mem hi
        · rw [ty_U4, ty_U6, if_neg q, if_neg q, show ty_U U l 5 t = U 5 t from funext fun i => by rw [ty_U5, if_neg q], show ty_U U l 7 t = U 7 t from funext fun i => by rw [ty_U7, if_neg q]]
          exact hvT t (by omega)
end SDBU
