/-! text of a row -/
section SDBT
variable {L : Nat} {xs : Nat → Int32} {fm : Option Nat} {A A' W : sw_T} {B T : Nat} {V : Nat → sw_T} {im : Nat} {I U U' : sw_T} {σ σ' : sd_Mem} {c : Nat}
theorem sw_sI.chR (h : sw_sI σ c A W T V im I) (e : ∀ a b c, a ≤ 5 → A' a b c = A a b c) (hA : sw_AK A') (hT : sw_XT σ' A') (f : ∀ k, (c ≤ k ∧ k < c + 10) ∨ (38 ≤ k ∧ k < 258) ∨ k = 270 → σ'.1 k = σ.1 k) (f0 : σ'.1 0 10 = σ.1 0 10) (e2 : ∀ k i, k ≠ 271 → σ'.2.2 k i = σ.2.2 k i) : sw_sI σ' c A' W T V im I := by
  obtain ⟨⟨hc, hC, hX, _, hS, _, hW⟩, h2, h3, h4, h5, ⟨h6, h7, h8⟩, h9⟩ := h
  have hcc := hC.2.2.2.2.2.2.2.2.2.2.2
  have e0 := e 0 0 0 (by decide)
  obtain ⟨x1, x2, x3, x4, x5, x6⟩ := hX.fr (σ' := σ') (fun j hj => f _ (by omega))
  refine ⟨⟨(e2 0 4 (by decide)).trans hc, hC, ⟨by rw [e0]; exact x1, by rw [e 5 0 0 (by decide)]; exact x2, fun p hp => by rw [e0] at hp; rw [e 1 p 0 (by decide)]; exact x3 p hp, fun q hq => by rw [e 2 q 0 (by decide)]; exact x4 q hq, fun q hq => by rw [e 3 q 0 (by decide)]; exact x5 q hq, fun q hq j hj => by rw [e 5 0 0 (by decide)] at hq; rw [e 4 q j (by decide)]; exact x6 q hq j hj⟩, hT, by rw [e0]; exact hS.fr (fun j hj => f _ (by omega)), hA, by rw [e0]; exact hW⟩, (e2 0 5 (by decide)).trans h2, by rw [e0]; exact h3.fr (fun k _ _ => f k (by omega)), h4.fr (f _ (by omega)), fun j hj => (h5 j hj).fr (f _ (by omega)), ⟨h6, by rw [f0]; exact h7, fun q => by rw [e0]; exact ⟨(h8 q).1.fr (fun j hj => f _ (by omega)), (h8 q).2.fr (f _ (by omega))⟩⟩, by rw [f 270 (by omega)]; exact h9⟩
theorem sw_mI.chR (h : sw_mI σ A W T V im I) (e : ∀ a b c, a ≤ 5 → A' a b c = A a b c) (hA : sw_AK A') (hT : sw_YT σ' A') (f : ∀ k, k = 276 ∨ k = 278 ∨ k = 281 ∨ k = 285 ∨ k = 290 ∨ k = 300 → σ'.1 k = σ.1 k) (f0 : ∀ i, i = 27 ∨ i = 28 ∨ i = 43 ∨ i = 58 → σ'.1 271 i = σ.1 271 i) : sw_mI σ' A' W T V im I := by
  obtain ⟨⟨y1, y2, y3, y4, y5⟩, m2, m3, m4, m5, m6⟩ := h
  have e0 := e 0 0 0 (by decide)
  have hM : sw_Mf (σ'.1 285) (A' 0 0 0) W := by rw [f 285 (by omega), e0]; exact m2
  have hOK : sw_OK (A' 0 0 0) W := by rw [e0]; exact y5
  refine ⟨⟨?_, hT, hM.M hOK, hA, hOK⟩, hM, by rw [e0]; exact m3.fr (f0 43 (by omega)) (f 290 (by omega)), m4, by rw [f0 58 (by omega)]; exact m5, by rw [f 300 (by omega), e0]; exact m6⟩
  obtain ⟨x1, x2, x3, x4, x5, x6⟩ := y1
  exact ⟨by rw [f0 27 (by omega), e0]; exact x1, by rw [f0 28 (by omega), e 5 0 0 (by decide)]; exact x2, fun p hp => by rw [e0] at hp; rw [f 276 (by omega), e 1 p 0 (by decide)]; exact x3 p hp, fun q hq => by rw [f 278 (by omega), e 2 q 0 (by decide)]; exact x4 q hq, fun q hq => by rw [f 278 (by omega), e 3 q 0 (by decide)]; exact x5 q hq, fun q hq j hj => by rw [e 5 0 0 (by decide)] at hq; rw [f 281 (by omega), e 4 q j (by decide)]; exact x6 q hq j hj⟩
theorem sw_pI.chR (h : sw_pI B A W T V im I) (e : A' 0 0 0 = A 0 0 0) (hA : sw_AK A') : sw_pI B A' W T V im I := by
  obtain ⟨_, h2, h3, h4, h5, h6, h7, h8⟩ := h
  exact ⟨hA, by rw [e]; exact h2, by rw [e]; exact h3, by rw [e]; exact h4, h5, h6, h7, h8⟩
/-- one row more told -/
def rw_A (A : sw_T) (l : List Nat) : sw_T := fun a b c => if a = 6 ∧ b = 0 ∧ c = 0 then A 6 0 0 + 1 else if a = 7 ∧ b = A 6 0 0 ∧ c = 0 then l.length else if a = 8 ∧ b = A 6 0 0 then l.getD c 0 else A a b c
theorem rw_A_o {l : List Nat} {a b c : Nat} (h : a ≠ 6 ∧ a ≠ 7 ∧ a ≠ 8) : rw_A A l a b c = A a b c := by
  unfold rw_A
  rw [if_neg (by omega), if_neg (by omega), if_neg (by omega)]
theorem rw_A_6 {l : List Nat} : rw_A A l 6 0 0 = A 6 0 0 + 1 := if_pos ⟨rfl, rfl, rfl⟩
theorem rw_A_7 {l : List Nat} {r : Nat} : rw_A A l 7 r 0 = if r = A 6 0 0 then l.length else A 7 r 0 := by
  unfold rw_A
  rw [if_neg (by omega)]
  by_cases q : r = A 6 0 0
  · rw [if_pos ⟨rfl, q, rfl⟩, if_pos q]
  · rw [if_neg (by omega), if_neg (by omega), if_neg q]
theorem rw_A_8 {l : List Nat} {r i : Nat} : rw_A A l 8 r i = if r = A 6 0 0 then l.getD i 0 else A 8 r i := by
  unfold rw_A
  rw [if_neg (by omega), if_neg (by omega)]
  by_cases q : r = A 6 0 0
  · rw [if_pos ⟨rfl, q⟩, if_pos q]
  · rw [if_neg (by omega), if_neg q]
theorem rw_A_K {l : List Nat} (h : sw_AK A) (h6 : A 6 0 0 < 6) (h0 : 0 < l.length) (h12 : l.length ≤ 12) (h8 : ∀ j, l.getD j 0 < 8) : sw_AK (rw_A A l) := by
  obtain ⟨k1, k2, k3, k4, k5, k6, k7, k8, k9, k10, k11, k12, k13⟩ := h
  refine ⟨fun a b c => ?_, by rw [rw_A_o (by omega)]; exact k2, by rw [rw_A_o (by omega)]; exact k3, fun p => by rw [rw_A_o (by omega)]; exact k4 p, fun p => by rw [rw_A_o (by omega)]; exact k5 p, fun p => by rw [rw_A_o (by omega)]; exact k6 p, fun e he => ?_, by rw [rw_A_6]; omega, fun r hr => ?_, fun r i => ?_, by rw [rw_A_o (by omega)]; exact k11, fun i hi => ?_, by rw [rw_A_o (by omega)]; exact k13⟩
  · unfold rw_A
    split
    · omega
    · split
      · omega
      · split
        · have := h8 c; omega
        · exact k1 a b c
  · rw [rw_A_o (by omega)] at he
    rw [rw_A_o (by omega), rw_A_o (by omega), rw_A_o (by omega), rw_A_o (by omega)]
    exact k7 e he
  · rw [rw_A_6] at hr
    rw [rw_A_7]
    split
    · omega
    · exact k9 r (by omega)
  · rw [rw_A_8]
    split
    · exact h8 i
    · exact k10 r i
  · rw [rw_A_o (by omega)] at hi
    rw [rw_A_o (by omega), rw_A_o (by omega), rw_A_o (by omega), rw_A_6]
    have := k12 i hi
    omega
/-- the reference's copy of a row -/
theorem rw_copy {R : Nat} (hR : R < 6) {x y : Value} : ∀ f k (σ : sd_Mem), f + k = 13 → σ.1 271 29 = nI R → ∃ σ', (∀ e j, ¬ (e = 283 ∧ 13 * R + k ≤ j ∧ j < 13 * R + 13) → σ'.1 e j = σ.1 e j) ∧ σ'.2 = σ.2 ∧ (∀ j, k ≤ j → j < 13 → σ'.1 283 (13 * R + j) = σ.1 283 (78 + j)) ∧ ∀ D Q, sd_Go (sd_E1 L xs fm) D y_M_text 173 [.ref 271, .int (nI 2), x, .int (nI 13), y] [] σ' Q → x.category = 1 → sd_Go (sd_E1 L xs fm) D y_M_text 138 [.ref 271, .int (nI 2), x, .int (nI k), y] [] σ Q := by
  intro f
  induction f with
  | zero =>
    intro k σ hk h29
    obtain rfl : k = 13 := by omega
    refine ⟨σ, fun _ _ _ => rfl, rfl, fun j h1 h2 => by omega, fun D Q hq hx => ?_⟩
    simp (disch := first | exact sd_cr | exact sd_ci | exact sd_cu | exact sd_cl9 | assumption | omega | exact t_285 | exact t_283 | exact t_278 | exact t_281 | exact t_276 | exact t_274 | exact t_275 | exact t_277 | exact t_279 | exact t_280 | exact t_282 | exact t_284 | exact t_286 | exact t_287 | exact t_288 | exact t_289 | exact t_290 | exact t_291 | exact t_292 | exact t_293 | exact t_294 | exact t_295 | exact t_296 | exact t_297 | exact t_298 | exact t_299 | exact t_300) only [z_M_text_138, z_M_text_139, z_M_text_141, false_and, and_false, if_true, if_false, Decidable.not_not, sd_ci, sd_cr, sd_cl9, sd_cu, sd_cat0, sd_cat1, sd_rfS, sd_n01, sd_n11, sd_n1, sd_n10, sd_n00, sd_b01, sd_b0, true_and, and_true, and_self, not_true_eq_false, not_false_eq_true, false_implies, true_implies, implies_true, or_true, true_or, or_false, false_or, Option.toList_some, Option.toList_none, List.cons_append, List.nil_append, Nat.reduceAdd, Nat.reduceLeDiff, nz_sub, nz_lt0, nz_ge0, nz_le0, nz_gt0, nz_eq0, nz_eq1, nz_lt, nz_le, nz_eq, nz_cl, nz_in, nz_add, nz_mul, nz_m1, nz_m1', Nat.reduceMul, Nat.reduceSub, Nat.reduceLT, Nat.reduceEqDiff, not_false_eq_true, false_implies, true_implies, true_and, and_true]
    exact hq
  | succ f ih =>
    intro k σ hk h29
    obtain ⟨σ', s1, s2, s3, s4⟩ := ih (k + 1) (sd_wI σ 283 (13 * R + k) (σ.1 283 (78 + k))) (by omega) (by rw [wI_c (by decide)]; exact h29)
    refine ⟨σ', fun e j hj => ?_, s2, fun j h1 h2 => ?_, fun D Q hq hx => ?_⟩
    · rw [s1 e j (fun q => hj ⟨q.1, by omega, q.2.2⟩), wI_1, if_neg (fun q => hj ⟨q.1, by omega, by omega⟩)]
    · by_cases q : j = k
      · subst q
        rw [s1 283 (13 * R + j) (fun q => by omega), wI_k]
      · rw [s3 j (by omega) h2, wI_o (by omega)]
    · have nx := s4 D Q hq hx
      have c0 : ¬ 12 < k := by omega
      have c1 : 13 * R + k < 91 := by omega
      have c2 : 78 + k < 91 := by omega
      rw [z_M_text_138]
      simp (disch := first | exact sd_cr | exact sd_ci | exact sd_cu | exact sd_cl9 | assumption | omega | exact t_285 | exact t_283 | exact t_278 | exact t_281 | exact t_276 | exact t_274 | exact t_275 | exact t_277 | exact t_279 | exact t_280 | exact t_282 | exact t_284 | exact t_286 | exact t_287 | exact t_288 | exact t_289 | exact t_290 | exact t_291 | exact t_292 | exact t_293 | exact t_294 | exact t_295 | exact t_296 | exact t_297 | exact t_298 | exact t_299 | exact t_300) only [z_M_text_139, z_M_text_141, z_M_text_144, z_M_text_145, z_M_text_148, z_M_text_150, z_M_text_151, z_M_text_154, z_M_text_155, z_M_text_156, z_M_text_157, z_M_text_158, z_M_text_161, z_M_text_163, z_M_text_164, z_M_text_165, z_M_text_166, z_M_text_167, z_M_text_170, false_and, and_false, if_true, if_false, Decidable.not_not, sd_ci, sd_cr, sd_cl9, sd_cu, sd_cat0, sd_cat1, sd_rfS, sd_n01, sd_n11, sd_n1, sd_n10, sd_n00, sd_b01, sd_b0, true_and, and_true, and_self, not_true_eq_false, not_false_eq_true, false_implies, true_implies, implies_true, or_true, true_or, or_false, false_or, Option.toList_some, Option.toList_none, List.cons_append, List.nil_append, Nat.reduceAdd, Nat.reduceLeDiff, nz_sub, nz_lt0, nz_ge0, nz_le0, nz_gt0, nz_eq0, nz_eq1, nz_lt, nz_le, nz_eq, nz_cl, nz_in, nz_add, nz_mul, nz_m1, nz_m1', Nat.reduceMul, Nat.reduceSub, Nat.reduceLT, Nat.reduceEqDiff, not_false_eq_true, false_implies, true_implies, true_and, and_true, h_271, t_272, n_272, t_273, n_273, t_274, n_274, t_275, n_275, t_276, n_276, t_277, n_277, t_278, n_278, t_279, n_279, t_280, n_280, t_281, n_281, t_282, n_282, t_283, n_283, t_284, n_284, t_285, n_285, t_286, n_286, t_287, n_287, t_288, n_288, t_289, n_289, t_290, n_290, t_291, n_291, t_292, n_292, t_293, n_293, t_294, n_294, t_295, n_295, t_296, n_296, t_297, n_297, t_298, n_298, t_299, n_299, t_300, n_300, t_301, n_301, r_271_1, r_271_2, r_271_3, r_271_4, r_271_15, r_271_16, r_271_18, r_271_19, r_271_20, r_271_21, r_271_22, r_271_23, r_271_24, r_271_25, r_271_26, r_271_34, r_271_35, r_271_38, r_271_39, r_271_40, r_271_42, r_271_45, r_271_46, r_271_47, r_271_48, r_271_49, r_271_50, r_271_53, r_271_54, r_271_55, r_271_57, h29, c0, c1, c2]
      exact nx
theorem rw_f_n {b : Nat → Nat} {n : Nat} (h : rw_f b n = none) : 0 < (rw_e b n 12 0).2.2.length := by
  unfold rw_f at h
  split at h
  · rename_i q
    have := q.1
    unfold rw_bad at this
    omega
  · cases h
theorem rw_fv_m1 {o : Option Nat} (h : ∀ p, o = some p → p < 1000) : rw_fv o = -1 ↔ o = none := by
  cases o with
  | none => exact ⟨fun _ => rfl, fun _ => rfl⟩
  | some p => exact ⟨fun q => ((nz_m1 (by have := h p rfl; omega)).mp q).elim, fun q => by cases q⟩
theorem s_text2 : sw_step L xs fm 60 y_X_text y_M_text [.int (nI 2)] := by
  intro B σ c A W T V im I U hB hI
  obtain ⟨hp, hs, hm, hU, htX, hvX, htM, hvM, hvT⟩ := id hI
  have h6 := hp.1.2.2.2.2.2.2.2.1
  have hX2 := hs.1.2.2.2.1.1
  have hY29 := hm.1.2.1.1
  have li : (lN 0 ≤ lN 2) ↔ True := by decide
  have li2 : (lN 2 ≤ lN 2) ↔ True := by decide
  by_cases hfull : A 6 0 0 = 6
  · refine sw_Inv_step (r := -1) (σ1 := σ) (σ2 := sd_wI σ 271 0 (nI 0)) (B' := B) (fun d Q => sd_Call.iff (fun Q hq => ?_) Q) (fun d Q => sd_Call.iff (fun Q hq => ?_) Q) (hI.p σ rfl rfl) (by omega)
    · rw [hfull] at hX2
      rw [sd_Call.start (ls := [.ref 0, .int (nI 2)]) m_X_text (by decide) (Nat.le_of_ble_eq_true rfl) rfl]
      simp (disch := first | exact sd_cr | exact sd_ci | exact sd_cu | exact sd_cl9 | assumption | omega | exact t_259 | exact t_260 | exact t_261 | exact t_262 | exact t_263 | exact t_264 | exact t_254 | exact t_255 | exact t_256 | exact t_257 | exact t_266 | exact t_267 | exact t_268 | exact t_269 | exact t_270 | exact t_252 | exact t_240 | exact t_246 | exact t_2 | exact t_4 | exact t_5 | exact t_13 | exact t_14 | exact t_15 | exact t_16 | exact Or.inl t_39 | exact Or.inr t_7) only [z_X_text_0, z_X_text_1, z_X_text_4, z_X_text_5, z_X_text_6, z_X_text_9, z_X_text_10, z_X_text_11, z_X_text_14, z_X_text_15, z_X_text_18, z_X_text_21, z_X_text_22, z_X_text_25, z_X_text_26, z_X_text_27, z_X_text_30, z_X_text_31, z_X_text_34, z_X_text_37, z_X_text_39, z_X_text_42, z_X_text_43, z_X_text_44, z_X_text_47, z_X_text_48, z_X_text_51, z_X_text_52, z_X_text_53, z_X_text_54, z_X_text_57, z_X_text_58, z_X_text_61, z_X_text_62, z_X_text_65, z_X_text_66, z_X_text_69, z_X_text_70, z_X_text_71, z_X_text_72, z_X_text_75, z_X_text_76, z_X_text_79, z_X_text_80, z_X_text_83, z_X_text_84, z_X_text_85, z_X_text_88, z_X_text_89, z_X_text_92, z_X_text_95, z_X_text_96, z_X_text_97, z_X_text_98, z_X_text_99, z_X_text_102, z_X_text_103, z_X_text_106, z_X_text_107, z_X_text_108, z_X_text_111, z_X_text_112, z_X_text_115, z_X_text_118, z_X_text_119, z_X_text_120, false_and, and_false, if_true, if_false, Decidable.not_not, sd_ci, sd_cr, sd_cl9, sd_cu, sd_cat0, sd_cat1, sd_rfS, sd_n01, sd_n11, sd_n1, sd_n10, sd_n00, sd_b01, sd_b0, true_and, and_true, and_self, not_true_eq_false, not_false_eq_true, false_implies, true_implies, implies_true, or_true, true_or, or_false, false_or, Option.toList_some, Option.toList_none, List.cons_append, List.nil_append, Nat.reduceAdd, Nat.reduceLeDiff, nz_sub, nz_lt0, nz_ge0, nz_le0, nz_gt0, nz_eq0, nz_eq1, nz_lt, nz_le, nz_eq, nz_cl, nz_in, nz_add, nz_mul, nz_m1, nz_m1', Nat.reduceMul, Nat.reduceSub, Nat.reduceLT, Nat.reduceEqDiff, not_false_eq_true, false_implies, true_implies, true_and, and_true, h_0, h_1, t_2, n_2, h_3, t_4, n_4, t_5, n_5, h_6, t_7, n_7, t_8, n_8, t_9, n_9, t_10, n_10, t_11, n_11, t_12, n_12, t_13, n_13, t_14, n_14, t_15, n_15, t_16, n_16, h_17, h_18, t_19, n_19, t_20, n_20, t_21, n_21, t_22, n_22, h_28, t_29, n_29, t_30, n_30, t_31, n_31, t_32, n_32, h_38, t_39, n_39, t_240, n_240, t_246, n_246, t_252, n_252, h_253, t_254, n_254, t_255, n_255, t_256, n_256, t_257, n_257, h_258, t_259, n_259, t_260, n_260, t_261, n_261, t_262, n_262, t_263, n_263, t_264, n_264, h_265, t_266, n_266, t_267, n_267, t_268, n_268, t_269, n_269, t_270, n_270, r_0_0, r_0_1, r_0_2, r_0_3, r_0_6, r_0_7, r_0_8, r_0_9, r_0_11, r_0_12, r_0_13, r_0_14, r_0_15, r_1_0, r_3_0, r_3_1, r_3_2, r_6_0, r_6_1, r_6_4, r_6_5, r_6_7, r_7_0, r_7_1, r_7_2, r_7_3, r_7_4, r_17_0, r_17_1, r_18_1, r_18_2, r_18_3, r_18_4, r_18_6, r_28_1, r_28_2, r_28_3, r_28_4, r_28_6, r_38_0, r_253_0, r_253_1, r_253_2, r_253_3, r_258_0, r_258_1, r_258_3, r_258_4, r_258_6, r_258_8, r_265_0, r_265_1, r_265_3, r_265_4, r_265_5, r_0_4, r_0_5, hX2]
      exact hq
    · rw [hfull] at hY29
      have e29 : (sd_wI σ 271 0 (nI 0)).1 271 29 = nI 6 := by rw [wI_o (by decide)]; exact hY29
      rw [sd_Call.start (ls := [.ref 271, .int (nI 2), sd_un, sd_un, sd_un]) m_M_text (by decide) (Nat.le_of_ble_eq_true rfl) rfl]
      simp (disch := first | exact sd_cr | exact sd_ci | exact sd_cu | exact sd_cl9 | assumption | omega | exact t_285 | exact t_283 | exact t_278 | exact t_281 | exact t_276 | exact t_274 | exact t_275 | exact t_277 | exact t_279 | exact t_280 | exact t_282 | exact t_284 | exact t_286 | exact t_287 | exact t_288 | exact t_289 | exact t_290 | exact t_291 | exact t_292 | exact t_293 | exact t_294 | exact t_295 | exact t_296 | exact t_297 | exact t_298 | exact t_299 | exact t_300) only [z_M_text_0, z_M_text_1, z_M_text_2, z_M_text_5, z_M_text_6, z_M_text_7, z_M_text_8, z_M_text_11, z_M_text_14, z_M_text_17, z_M_text_18, z_M_text_19, z_M_text_22, z_M_text_23, z_M_text_26, z_M_text_27, z_M_text_30, z_M_text_31, z_M_text_32, z_M_text_35, z_M_text_36, z_M_text_39, z_M_text_41, z_M_text_44, z_M_text_45, z_M_text_46, z_M_text_49, z_M_text_50, z_M_text_53, z_M_text_54, false_and, and_false, if_true, if_false, Decidable.not_not, sd_ci, sd_cr, sd_cl9, sd_cu, sd_cat0, sd_cat1, sd_rfS, sd_n01, sd_n11, sd_n1, sd_n10, sd_n00, sd_b01, sd_b0, true_and, and_true, and_self, not_true_eq_false, not_false_eq_true, false_implies, true_implies, implies_true, or_true, true_or, or_false, false_or, Option.toList_some, Option.toList_none, List.cons_append, List.nil_append, Nat.reduceAdd, Nat.reduceLeDiff, nz_sub, nz_lt0, nz_ge0, nz_le0, nz_gt0, nz_eq0, nz_eq1, nz_lt, nz_le, nz_eq, nz_cl, nz_in, nz_add, nz_mul, nz_m1, nz_m1', Nat.reduceMul, Nat.reduceSub, Nat.reduceLT, Nat.reduceEqDiff, not_false_eq_true, false_implies, true_implies, true_and, and_true, h_271, t_272, n_272, t_273, n_273, t_274, n_274, t_275, n_275, t_276, n_276, t_277, n_277, t_278, n_278, t_279, n_279, t_280, n_280, t_281, n_281, t_282, n_282, t_283, n_283, t_284, n_284, t_285, n_285, t_286, n_286, t_287, n_287, t_288, n_288, t_289, n_289, t_290, n_290, t_291, n_291, t_292, n_292, t_293, n_293, t_294, n_294, t_295, n_295, t_296, n_296, t_297, n_297, t_298, n_298, t_299, n_299, t_300, n_300, t_301, n_301, r_271_1, r_271_2, r_271_3, r_271_4, r_271_15, r_271_16, r_271_18, r_271_19, r_271_20, r_271_21, r_271_22, r_271_23, r_271_24, r_271_25, r_271_26, r_271_34, r_271_35, r_271_38, r_271_39, r_271_40, r_271_42, r_271_45, r_271_46, r_271_47, r_271_48, r_271_49, r_271_50, r_271_53, r_271_54, r_271_55, r_271_57, c_M_isIn, lz_i, li, li2, sd_bT trivial, e29]
      exact hq
  · have h5 : ¬ 6 ≤ A 6 0 0 := by omega
    obtain ⟨σ1, a1, a2, a3, a4⟩ := k_Xf2 hI
    have hfle : ∀ p, rw_f (fun i => U 1 i 0) (U 0 0 0) = some p → p < 1000 := by
      intro p hq
      have := (rw_e_le (b := fun i => U 1 i 0) (n := U 0 0 0) 12 0 (Nat.zero_le _)).1
      have := hU.1
      unfold rw_f at hq
      split at hq
      · cases hq
      · cases hq
        omega
    have hm1 := rw_fv_m1 hfle
    have hrle := rw_e_le (b := fun i => U 1 i 0) (n := U 0 0 0) 12 0 (Nat.zero_le _)
    have mfault : ∀ σ1 : sd_Mem, (∀ k, 271 ≤ k → σ1.1 k = σ.1 k) → _ := fun (σ1 : sd_Mem) (g : ∀ k, 271 ≤ k → σ1.1 k = σ.1 k) => c_M_fault2 (L := L) (xs := xs) (fm := fm) (σ := sd_wI σ1 271 0 (nI 0)) (b := fun i => U 1 i 0) (n := U 0 0 0) (by rw [wI_o (by decide), g 271 (by decide)]; exact htM.1) (fun i hi => by rw [wI_c (by decide), g 272 (by decide)]; exact htM.2 i hi) hU.1 (fun i _ => (hU.2.1 i).2)
    by_cases hf : rw_f (fun i => U 1 i 0) (U 0 0 0) = none
    · obtain ⟨b1, b2⟩ := a3 hf
      have hl0 := rw_f_n hf
      generalize hl : (rw_e (fun i => U 1 i 0) (U 0 0 0) 12 0).2.2 = l at *
      rw [hf] at a4
      have g1 : ∀ k, 271 ≤ k → (sd_wI (sd_wI σ1 1 1 (nI 0)) 258 2 (nI (A 6 0 0 + 1))).1 k = σ.1 k := fun k hk => funext fun j => by rw [wI_c (by omega), wI_c (by omega)]; exact a1 k j (by omega) (by omega) (by omega)
      obtain ⟨σ2, m1, m2, m3, m4, m5, m6, m7⟩ := mfault _ g1
      obtain ⟨n1, n2⟩ := m6 hf
      rw [hf] at m7
      have f29 : σ2.1 271 29 = nI (A 6 0 0) := by rw [m2 29 (by decide) (by decide), wI_o (by decide), g1 271 (by decide)]; exact hY29
      obtain ⟨σ3, p1, p2, p3, p4⟩ := rw_copy (L := L) (xs := xs) (fm := fm) (R := A 6 0 0) (x := .int (nI (U 0 0 0))) (y := sd_un) (by omega) 13 0 (sd_wI σ2 271 6 (nI 0)) rfl (by rw [wI_o (by decide)]; exact f29)
      have hσ3 : ∀ k j, ¬ (k = 271 ∧ (j ≤ 0 ∨ j = 6 ∨ (8 ≤ j ∧ j ≤ 11))) → ¬ (k = 1 ∧ (j = 1 ∨ j = 2)) → ¬ (k = 258 ∧ j = 2) → ¬ (k = 259 ∧ 12 * A 6 0 0 ≤ j) → ¬ (k = 260 ∧ j = A 6 0 0) → ¬ (k = 283 ∧ (78 ≤ j ∨ (13 * A 6 0 0 ≤ j ∧ j < 13 * A 6 0 0 + 13))) → σ3.1 k j = σ.1 k j := by
        intro k j q1 q2 q3 q4 q5 q6
        rw [p1 k j (fun r => q6 ⟨r.1, Or.inr ⟨by omega, by omega⟩⟩), wI_1, if_neg (by omega)]
        by_cases r : k = 271
        · subst r
          rw [m2 j (by omega) (by omega), wI_o (by omega), g1 271 (by decide)]
        · by_cases r2 : k = 283
          · subst r2
            rw [m3 j (by omega), wI_c (by decide), g1 283 (by decide)]
          · rw [m1 k r r2, wI_c r, wI_1, if_neg q3, wI_1, if_neg (by omega)]
            exact a1 k j (by omega) q4 q5
      have hσ32 : ∀ k i, k ≠ 271 → σ3.2.2 k i = σ.2.2 k i := fun k i hk => by
        rw [p2]
        show σ2.2.2 k i = _
        rw [m5 k i hk]
        show σ1.2.2 k i = _
        rw [a2]
      have hAK := rw_A_K (l := l) hp.1 (by omega) hl0 hrle.2.1 hrle.2.2
      have hA7 := hp.1.2.2.2.2.2.2.2.2.1
      have u0 : sw_set U 0 0 0 0 0 0 0 = 0 := sw_set_y
      have u1 : ∀ a b c, 0 < a → sw_set U 0 0 0 0 a b c = U a b c := fun a b c h => sw_set_n (by omega)
      refine sw_Inv_step (r := nI (A 6 0 0)) (σ1 := sd_wI (sd_wI σ1 1 1 (nI 0)) 258 2 (nI (A 6 0 0 + 1))) (σ2 := sd_wI σ3 271 29 (nI (A 6 0 0 + 1))) (c' := c) (A' := rw_A A l) (U' := sw_set U 0 0 0 0) (B' := B) (fun d Q => sd_Call.iff (fun Q hq => ?_) Q) (fun d Q => sd_Call.iff (fun Q hq => ?_) Q) ⟨hp.chR (rw_A_o (by omega)) hAK, ?_, ?_, ?_, ?_, ?_, ?_, ?_, ?_⟩ (by omega)
      · have e1 : (sd_wI σ1 1 1 (nI 0)).1 258 2 = nI (A 6 0 0) := by rw [wI_c (by decide), a1 258 2 (by omega) (by omega) (by omega)]; exact hX2
        have cs := fun Q => a4 (d + 59) Q (by omega)
        have m1' : rw_fv none = -1 := rfl
        rw [sd_Call.start (ls := [.ref 0, .int (nI 2)]) m_X_text (by decide) (Nat.le_of_ble_eq_true rfl) rfl]
        simp (disch := first | exact sd_cr | exact sd_ci | exact sd_cu | exact sd_cl9 | assumption | omega | exact t_259 | exact t_260 | exact t_261 | exact t_262 | exact t_263 | exact t_264 | exact t_254 | exact t_255 | exact t_256 | exact t_257 | exact t_266 | exact t_267 | exact t_268 | exact t_269 | exact t_270 | exact t_252 | exact t_240 | exact t_246 | exact t_2 | exact t_4 | exact t_5 | exact t_13 | exact t_14 | exact t_15 | exact t_16 | exact Or.inl t_39 | exact Or.inr t_7) only [z_X_text_0, z_X_text_1, z_X_text_4, z_X_text_5, z_X_text_6, z_X_text_9, z_X_text_10, z_X_text_11, z_X_text_14, z_X_text_15, z_X_text_18, z_X_text_21, z_X_text_22, z_X_text_25, z_X_text_26, z_X_text_27, z_X_text_30, z_X_text_31, z_X_text_34, z_X_text_37, z_X_text_39, z_X_text_42, z_X_text_43, z_X_text_44, z_X_text_47, z_X_text_48, z_X_text_51, z_X_text_52, z_X_text_53, z_X_text_54, z_X_text_57, z_X_text_58, z_X_text_61, z_X_text_62, z_X_text_65, z_X_text_66, z_X_text_69, z_X_text_70, z_X_text_71, z_X_text_72, z_X_text_75, z_X_text_76, z_X_text_79, z_X_text_80, z_X_text_83, z_X_text_84, z_X_text_85, z_X_text_88, z_X_text_89, z_X_text_92, z_X_text_95, z_X_text_96, z_X_text_97, z_X_text_98, z_X_text_99, z_X_text_102, z_X_text_103, z_X_text_106, z_X_text_107, z_X_text_108, z_X_text_111, z_X_text_112, z_X_text_115, z_X_text_118, z_X_text_119, z_X_text_120, false_and, and_false, if_true, if_false, Decidable.not_not, sd_ci, sd_cr, sd_cl9, sd_cu, sd_cat0, sd_cat1, sd_rfS, sd_n01, sd_n11, sd_n1, sd_n10, sd_n00, sd_b01, sd_b0, true_and, and_true, and_self, not_true_eq_false, not_false_eq_true, false_implies, true_implies, implies_true, or_true, true_or, or_false, false_or, Option.toList_some, Option.toList_none, List.cons_append, List.nil_append, Nat.reduceAdd, Nat.reduceLeDiff, nz_sub, nz_lt0, nz_ge0, nz_le0, nz_gt0, nz_eq0, nz_eq1, nz_lt, nz_le, nz_eq, nz_cl, nz_in, nz_add, nz_mul, nz_m1, nz_m1', Nat.reduceMul, Nat.reduceSub, Nat.reduceLT, Nat.reduceEqDiff, not_false_eq_true, false_implies, true_implies, true_and, and_true, h_0, h_1, t_2, n_2, h_3, t_4, n_4, t_5, n_5, h_6, t_7, n_7, t_8, n_8, t_9, n_9, t_10, n_10, t_11, n_11, t_12, n_12, t_13, n_13, t_14, n_14, t_15, n_15, t_16, n_16, h_17, h_18, t_19, n_19, t_20, n_20, t_21, n_21, t_22, n_22, h_28, t_29, n_29, t_30, n_30, t_31, n_31, t_32, n_32, h_38, t_39, n_39, t_240, n_240, t_246, n_246, t_252, n_252, h_253, t_254, n_254, t_255, n_255, t_256, n_256, t_257, n_257, h_258, t_259, n_259, t_260, n_260, t_261, n_261, t_262, n_262, t_263, n_263, t_264, n_264, h_265, t_266, n_266, t_267, n_267, t_268, n_268, t_269, n_269, t_270, n_270, r_0_0, r_0_1, r_0_2, r_0_3, r_0_6, r_0_7, r_0_8, r_0_9, r_0_11, r_0_12, r_0_13, r_0_14, r_0_15, r_1_0, r_3_0, r_3_1, r_3_2, r_6_0, r_6_1, r_6_4, r_6_5, r_6_7, r_7_0, r_7_1, r_7_2, r_7_3, r_7_4, r_17_0, r_17_1, r_18_1, r_18_2, r_18_3, r_18_4, r_18_6, r_28_1, r_28_2, r_28_3, r_28_4, r_28_6, r_38_0, r_253_0, r_253_1, r_253_2, r_253_3, r_258_0, r_258_1, r_258_3, r_258_4, r_258_6, r_258_8, r_265_0, r_265_1, r_265_3, r_265_4, r_265_5, r_0_4, r_0_5, hX2, h5, cs, m1', e1, wI_k, Nat.add_sub_cancel]
        exact hq
      · have e29 : (sd_wI (sd_wI (sd_wI σ1 1 1 (nI 0)) 258 2 (nI (A 6 0 0 + 1))) 271 0 (nI 0)).1 271 29 = nI (A 6 0 0) := by rw [wI_o (by decide), g1 271 (by decide)]; exact hY29
        have hne : ¬ A 6 0 0 = 6 := hfull
        have cs := fun Q => m7 (d + 56) Q
        have m1' : rw_fv none = -1 := rfl
        have e6 : σ2.1 271 6 = nI (U 0 0 0) := by rw [m2 6 (by decide) (by decide), wI_o (by decide), g1 271 (by decide)]; exact htM.1
        have e29' : σ3.1 271 29 = nI (A 6 0 0) := by rw [p1 271 29 (by omega), wI_o (by decide)]; exact f29
        rw [sd_Call.start (ls := [.ref 271, .int (nI 2), sd_un, sd_un, sd_un]) m_M_text (by decide) (Nat.le_of_ble_eq_true rfl) rfl]
        have nx := p4 (d + 59) Q (by
          simp (disch := first | exact sd_cr | exact sd_ci | exact sd_cu | exact sd_cl9 | assumption | omega | exact t_285 | exact t_283 | exact t_278 | exact t_281 | exact t_276 | exact t_274 | exact t_275 | exact t_277 | exact t_279 | exact t_280 | exact t_282 | exact t_284 | exact t_286 | exact t_287 | exact t_288 | exact t_289 | exact t_290 | exact t_291 | exact t_292 | exact t_293 | exact t_294 | exact t_295 | exact t_296 | exact t_297 | exact t_298 | exact t_299 | exact t_300) only [z_M_text_173, z_M_text_174, z_M_text_175, z_M_text_178, z_M_text_179, z_M_text_180, z_M_text_183, z_M_text_184, z_M_text_187, z_M_text_188, z_M_text_189, false_and, and_false, if_true, if_false, Decidable.not_not, sd_ci, sd_cr, sd_cl9, sd_cu, sd_cat0, sd_cat1, sd_rfS, sd_n01, sd_n11, sd_n1, sd_n10, sd_n00, sd_b01, sd_b0, true_and, and_true, and_self, not_true_eq_false, not_false_eq_true, false_implies, true_implies, implies_true, or_true, true_or, or_false, false_or, Option.toList_some, Option.toList_none, List.cons_append, List.nil_append, Nat.reduceAdd, Nat.reduceLeDiff, nz_sub, nz_lt0, nz_ge0, nz_le0, nz_gt0, nz_eq0, nz_eq1, nz_lt, nz_le, nz_eq, nz_cl, nz_in, nz_add, nz_mul, nz_m1, nz_m1', Nat.reduceMul, Nat.reduceSub, Nat.reduceLT, Nat.reduceEqDiff, not_false_eq_true, false_implies, true_implies, true_and, and_true, h_271, t_272, n_272, t_273, n_273, t_274, n_274, t_275, n_275, t_276, n_276, t_277, n_277, t_278, n_278, t_279, n_279, t_280, n_280, t_281, n_281, t_282, n_282, t_283, n_283, t_284, n_284, t_285, n_285, t_286, n_286, t_287, n_287, t_288, n_288, t_289, n_289, t_290, n_290, t_291, n_291, t_292, n_292, t_293, n_293, t_294, n_294, t_295, n_295, t_296, n_296, t_297, n_297, t_298, n_298, t_299, n_299, t_300, n_300, t_301, n_301, r_271_1, r_271_2, r_271_3, r_271_4, r_271_15, r_271_16, r_271_18, r_271_19, r_271_20, r_271_21, r_271_22, r_271_23, r_271_24, r_271_25, r_271_26, r_271_34, r_271_35, r_271_38, r_271_39, r_271_40, r_271_42, r_271_45, r_271_46, r_271_47, r_271_48, r_271_49, r_271_50, r_271_53, r_271_54, r_271_55, r_271_57, e29', wI_k, Nat.add_sub_cancel]
          exact hq) sd_ci
        simp (disch := first | exact sd_cr | exact sd_ci | exact sd_cu | exact sd_cl9 | assumption | omega | exact t_285 | exact t_283 | exact t_278 | exact t_281 | exact t_276 | exact t_274 | exact t_275 | exact t_277 | exact t_279 | exact t_280 | exact t_282 | exact t_284 | exact t_286 | exact t_287 | exact t_288 | exact t_289 | exact t_290 | exact t_291 | exact t_292 | exact t_293 | exact t_294 | exact t_295 | exact t_296 | exact t_297 | exact t_298 | exact t_299 | exact t_300) only [z_M_text_0, z_M_text_1, z_M_text_2, z_M_text_5, z_M_text_6, z_M_text_7, z_M_text_8, z_M_text_11, z_M_text_14, z_M_text_17, z_M_text_18, z_M_text_19, z_M_text_22, z_M_text_23, z_M_text_26, z_M_text_27, z_M_text_30, z_M_text_31, z_M_text_32, z_M_text_35, z_M_text_36, z_M_text_39, z_M_text_41, z_M_text_44, z_M_text_45, z_M_text_46, z_M_text_49, z_M_text_50, z_M_text_53, z_M_text_54, z_M_text_55, z_M_text_56, z_M_text_59, z_M_text_60, z_M_text_61, z_M_text_62, z_M_text_65, z_M_text_66, z_M_text_67, z_M_text_70, z_M_text_71, z_M_text_72, z_M_text_73, z_M_text_74, z_M_text_77, z_M_text_78, z_M_text_81, z_M_text_84, z_M_text_85, z_M_text_88, z_M_text_89, z_M_text_90, z_M_text_91, z_M_text_92, z_M_text_95, z_M_text_96, z_M_text_97, z_M_text_98, z_M_text_101, z_M_text_104, z_M_text_105, z_M_text_108, z_M_text_109, z_M_text_112, z_M_text_113, z_M_text_114, z_M_text_115, z_M_text_116, z_M_text_119, z_M_text_120, z_M_text_121, z_M_text_124, z_M_text_125, z_M_text_128, z_M_text_129, z_M_text_130, z_M_text_131, z_M_text_132, z_M_text_133, z_M_text_136, z_M_text_137, false_and, and_false, if_true, if_false, Decidable.not_not, sd_ci, sd_cr, sd_cl9, sd_cu, sd_cat0, sd_cat1, sd_rfS, sd_n01, sd_n11, sd_n1, sd_n10, sd_n00, sd_b01, sd_b0, true_and, and_true, and_self, not_true_eq_false, not_false_eq_true, false_implies, true_implies, implies_true, or_true, true_or, or_false, false_or, Option.toList_some, Option.toList_none, List.cons_append, List.nil_append, Nat.reduceAdd, Nat.reduceLeDiff, nz_sub, nz_lt0, nz_ge0, nz_le0, nz_gt0, nz_eq0, nz_eq1, nz_lt, nz_le, nz_eq, nz_cl, nz_in, nz_add, nz_mul, nz_m1, nz_m1', Nat.reduceMul, Nat.reduceSub, Nat.reduceLT, Nat.reduceEqDiff, not_false_eq_true, false_implies, true_implies, true_and, and_true, h_271, t_272, n_272, t_273, n_273, t_274, n_274, t_275, n_275, t_276, n_276, t_277, n_277, t_278, n_278, t_279, n_279, t_280, n_280, t_281, n_281, t_282, n_282, t_283, n_283, t_284, n_284, t_285, n_285, t_286, n_286, t_287, n_287, t_288, n_288, t_289, n_289, t_290, n_290, t_291, n_291, t_292, n_292, t_293, n_293, t_294, n_294, t_295, n_295, t_296, n_296, t_297, n_297, t_298, n_298, t_299, n_299, t_300, n_300, t_301, n_301, r_271_1, r_271_2, r_271_3, r_271_4, r_271_15, r_271_16, r_271_18, r_271_19, r_271_20, r_271_21, r_271_22, r_271_23, r_271_24, r_271_25, r_271_26, r_271_34, r_271_35, r_271_38, r_271_39, r_271_40, r_271_42, r_271_45, r_271_46, r_271_47, r_271_48, r_271_49, r_271_50, r_271_53, r_271_54, r_271_55, r_271_57, c_M_isIn, lz_i, li, li2, sd_bT trivial, e29, hne, cs, m1', e6]
        exact nx
      · refine hs.chR (fun a b c ha => rw_A_o (by omega)) hAK ⟨?_, fun r hr => ?_, fun r hr i hi => ?_, ?_, fun i hi => ?_, fun i hi => ?_, ?_⟩ (fun k hk => funext fun j => ?_) ?_ hσ32
        · rw [rw_A_6, wI_c (by decide), p1 258 2 (by omega), wI_c (by decide), m1 258 (by decide) (by decide), wI_c (by decide), wI_k]
        · rw [rw_A_6] at hr
          rw [rw_A_7, wI_c (by decide)]
          split
          · rename_i q
            subst q
            rw [p1 260 _ (by omega), wI_c (by decide), m1 260 (by decide) (by decide), wI_c (by decide), wI_c (by decide), wI_c (by decide)]
            exact b1
          · rw [hσ3 260 r (by omega) (by omega) (by omega) (by omega) (by omega) (by omega)]
            exact hs.1.2.2.2.1.2.1 r (by omega)
        · rw [rw_A_6] at hr
          rw [rw_A_7] at hi
          rw [rw_A_8, wI_c (by decide)]
          by_cases q : r = A 6 0 0
          · rw [if_pos q] at hi ⊢
            subst q
            rw [p1 259 _ (by omega), wI_c (by decide), m1 259 (by decide) (by decide), wI_c (by decide), wI_c (by decide), wI_c (by decide), Nat.mul_comm]
            exact b2 i hi
          · rw [if_neg q] at hi ⊢
            have := (hA7 r (by omega)).2
            rw [hσ3 259 _ (by omega) (by omega) (by omega) (by omega) (by omega) (by omega)]
            exact hs.1.2.2.2.1.2.2.1 r (by omega) i hi
        · rw [rw_A_o (by omega), wI_c (by decide), hσ3 258 5 (by omega) (by omega) (by omega) (by omega) (by omega) (by omega)]
          exact hs.1.2.2.2.1.2.2.2.1
        · rw [rw_A_o (by omega)] at hi
          rw [rw_A_o (by omega), wI_c (by decide), hσ3 261 i (by omega) (by omega) (by omega) (by omega) (by omega) (by omega)]
          exact hs.1.2.2.2.1.2.2.2.2.1 i hi
        · rw [rw_A_o (by omega)] at hi
          rw [rw_A_o (by omega), wI_c (by decide), hσ3 262 i (by omega) (by omega) (by omega) (by omega) (by omega) (by omega)]
          exact hs.1.2.2.2.1.2.2.2.2.2.1 i hi
        · rw [rw_A_o (by omega), wI_c (by decide), hσ3 0 16 (by omega) (by omega) (by omega) (by omega) (by omega) (by omega)]
          exact hs.1.2.2.2.1.2.2.2.2.2.2
        · have hcc := hs.1.2.1.2.2.2.2.2.2.2.2.2.2.2
          rw [wI_c (by omega)]
          exact hσ3 k j (by omega) (by omega) (by omega) (by omega) (by omega) (by omega)
        · rw [wI_c (by decide)]
          exact hσ3 0 10 (by omega) (by omega) (by omega) (by omega) (by omega) (by omega)
      · refine hm.chR (fun a b c ha => rw_A_o (by omega)) hAK ⟨?_, fun r hr => ?_, fun r hr i hi => ?_, ?_, fun i hi => ?_, fun i hi => ?_, ?_⟩ (fun k hk => funext fun j => ?_) (fun i hi => ?_)
        · rw [rw_A_6, wI_k]
        · rw [rw_A_6] at hr
          rw [rw_A_7, wI_c (by decide)]
          split
          · rename_i q
            subst q
            have := p3 0 (by omega) (by omega)
            rw [Nat.add_zero, Nat.add_zero] at this
            rw [this, wI_c (by decide)]
            exact n1
          · rw [hσ3 283 _ (by omega) (by omega) (by omega) (by omega) (by omega) (by omega)]
            exact hm.1.2.1.2.1 r (by omega)
        · rw [rw_A_6] at hr
          rw [rw_A_7] at hi
          rw [rw_A_8, wI_c (by decide)]
          by_cases q : r = A 6 0 0
          · rw [if_pos q] at hi ⊢
            subst q
            have h12 := hrle.2.1
            have := p3 (1 + i) (by omega) (by omega)
            rw [← Nat.add_assoc] at this
            rw [this, wI_c (by decide), show 78 + (1 + i) = 79 + i by omega]
            exact n2 i hi
          · rw [if_neg q] at hi ⊢
            have := (hA7 r (by omega)).2
            rw [hσ3 283 _ (by omega) (by omega) (by omega) (by omega) (by omega) (by omega)]
            exact hm.1.2.1.2.2.1 r (by omega) i hi
        · rw [rw_A_o (by omega), wI_o (by decide), hσ3 271 56 (by omega) (by omega) (by omega) (by omega) (by omega) (by omega)]
          exact hm.1.2.1.2.2.2.1
        · rw [rw_A_o (by omega)] at hi
          rw [rw_A_o (by omega), wI_c (by decide), hσ3 298 i (by omega) (by omega) (by omega) (by omega) (by omega) (by omega)]
          exact hm.1.2.1.2.2.2.2.1 i hi
        · rw [rw_A_o (by omega)] at hi
          rw [rw_A_o (by omega), wI_c (by decide), hσ3 299 i (by omega) (by omega) (by omega) (by omega) (by omega) (by omega)]
          exact hm.1.2.1.2.2.2.2.2.1 i hi
        · rw [rw_A_o (by omega), wI_o (by decide), hσ3 271 37 (by omega) (by omega) (by omega) (by omega) (by omega) (by omega)]
          exact hm.1.2.1.2.2.2.2.2.2
        · rw [wI_c (by omega)]
          exact hσ3 k j (by omega) (by omega) (by omega) (by omega) (by omega) (by omega)
        · rw [wI_o (by omega)]
          exact hσ3 271 i (by omega) (by omega) (by omega) (by omega) (by omega) (by omega)
      · obtain ⟨w1, w2, w3, w4, w5, w6, w7⟩ := hU
        exact ⟨by rw [u0]; omega, fun i => by rw [u1 1 i 0 (by omega)]; exact w2 i, by rw [u1 2 0 0 (by omega)]; exact w3, by rw [u1 2 0 0 (by omega), u1 3 0 0 (by omega)]; exact w4, fun t => by rw [u1 4 t 0 (by omega), u1 6 t 0 (by omega)]; exact w5 t, fun t i => by rw [u1 5 t i (by omega)]; exact w6 t i, fun t i => by rw [u1 7 t i (by omega)]; exact w7 t i⟩
      · refine ⟨?_, fun i hi => ?_⟩
        · rw [u0, wI_c (by decide), p1 1 1 (by omega), wI_c (by decide), m1 1 (by decide) (by decide), wI_c (by decide), wI_c (by decide), wI_k]
        · rw [u0] at hi
          omega
      · refine (hvX.u (U' := sw_set U 0 0 0 0) (fun a b c h => u1 a b c (by omega))).fr (fun j hj => ?_) (fun k h1 h2 => funext fun j => ?_) (by rw [u1 2 0 0 (by omega)]; exact hU.2.2.1)
        · rw [wI_c (by decide)]
          exact hσ3 6 j (by omega) (by omega) (by omega) (by omega) (by omega) (by omega)
        · rw [wI_c (by omega)]
          exact hσ3 k j (by omega) (by omega) (by omega) (by omega) (by omega) (by omega)
      · refine ⟨?_, fun i hi => ?_⟩
        · rw [u0, wI_o (by decide), p1 271 6 (by omega), wI_k]
        · rw [u0] at hi
          omega
      · refine hvM.u (fun a b c h => u1 a b c (by omega)) ?_ ?_ (fun k hk => funext fun j => ?_)
        · rw [u1 3 0 0 (by omega), wI_o (by decide), hσ3 271 36 (by omega) (by omega) (by omega) (by omega) (by omega) (by omega)]
          exact hvM.2.1
        · rw [wI_o (by decide)]
          exact hσ3 271 7 (by omega) (by omega) (by omega) (by omega) (by omega) (by omega)
        · rw [wI_c (by omega)]
          exact hσ3 k j (by omega) (by omega) (by omega) (by omega) (by omega) (by omega)
      · exact hvT.u (fun a b c h => u1 a b c (by omega))
    · have hne : ¬ rw_fv (rw_f (fun i => U 1 i 0) (U 0 0 0)) = -1 := fun q => hf (hm1.mp q)
      have g1 : ∀ k, 271 ≤ k → σ1.1 k = σ.1 k := fun k hk => funext fun j => a1 k j (by omega) (by omega) (by omega)
      obtain ⟨σ2, m1, m2, m3, m4, m5, m6, m7⟩ := mfault σ1 g1
      refine sw_Inv_step (r := -1) (σ1 := σ1) (σ2 := σ2) (B' := B) (fun d Q => sd_Call.iff (fun Q hq => ?_) Q) (fun d Q => sd_Call.iff (fun Q hq => ?_) Q) (hI.rd (fun k j hk q1 q2 q3 => ?_) (fun j h1 h2 => ?_) (fun j hj => ?_) (fun k h1 h2 => ?_) (fun k i hk => ?_)) (by omega)
      · have cs := fun Q => a4 (d + 59) Q (by omega)
        rw [sd_Call.start (ls := [.ref 0, .int (nI 2)]) m_X_text (by decide) (Nat.le_of_ble_eq_true rfl) rfl]
        simp (disch := first | exact sd_cr | exact sd_ci | exact sd_cu | exact sd_cl9 | assumption | omega | exact t_259 | exact t_260 | exact t_261 | exact t_262 | exact t_263 | exact t_264 | exact t_254 | exact t_255 | exact t_256 | exact t_257 | exact t_266 | exact t_267 | exact t_268 | exact t_269 | exact t_270 | exact t_252 | exact t_240 | exact t_246 | exact t_2 | exact t_4 | exact t_5 | exact t_13 | exact t_14 | exact t_15 | exact t_16 | exact Or.inl t_39 | exact Or.inr t_7) only [z_X_text_0, z_X_text_1, z_X_text_4, z_X_text_5, z_X_text_6, z_X_text_9, z_X_text_10, z_X_text_11, z_X_text_14, z_X_text_15, z_X_text_18, z_X_text_21, z_X_text_22, z_X_text_25, z_X_text_26, z_X_text_27, z_X_text_30, z_X_text_31, z_X_text_34, z_X_text_37, z_X_text_39, z_X_text_42, z_X_text_43, z_X_text_44, z_X_text_47, z_X_text_48, z_X_text_51, z_X_text_52, false_and, and_false, if_true, if_false, Decidable.not_not, sd_ci, sd_cr, sd_cl9, sd_cu, sd_cat0, sd_cat1, sd_rfS, sd_n01, sd_n11, sd_n1, sd_n10, sd_n00, sd_b01, sd_b0, true_and, and_true, and_self, not_true_eq_false, not_false_eq_true, false_implies, true_implies, implies_true, or_true, true_or, or_false, false_or, Option.toList_some, Option.toList_none, List.cons_append, List.nil_append, Nat.reduceAdd, Nat.reduceLeDiff, nz_sub, nz_lt0, nz_ge0, nz_le0, nz_gt0, nz_eq0, nz_eq1, nz_lt, nz_le, nz_eq, nz_cl, nz_in, nz_add, nz_mul, nz_m1, nz_m1', Nat.reduceMul, Nat.reduceSub, Nat.reduceLT, Nat.reduceEqDiff, not_false_eq_true, false_implies, true_implies, true_and, and_true, h_0, h_1, t_2, n_2, h_3, t_4, n_4, t_5, n_5, h_6, t_7, n_7, t_8, n_8, t_9, n_9, t_10, n_10, t_11, n_11, t_12, n_12, t_13, n_13, t_14, n_14, t_15, n_15, t_16, n_16, h_17, h_18, t_19, n_19, t_20, n_20, t_21, n_21, t_22, n_22, h_28, t_29, n_29, t_30, n_30, t_31, n_31, t_32, n_32, h_38, t_39, n_39, t_240, n_240, t_246, n_246, t_252, n_252, h_253, t_254, n_254, t_255, n_255, t_256, n_256, t_257, n_257, h_258, t_259, n_259, t_260, n_260, t_261, n_261, t_262, n_262, t_263, n_263, t_264, n_264, h_265, t_266, n_266, t_267, n_267, t_268, n_268, t_269, n_269, t_270, n_270, r_0_0, r_0_1, r_0_2, r_0_3, r_0_6, r_0_7, r_0_8, r_0_9, r_0_11, r_0_12, r_0_13, r_0_14, r_0_15, r_1_0, r_3_0, r_3_1, r_3_2, r_6_0, r_6_1, r_6_4, r_6_5, r_6_7, r_7_0, r_7_1, r_7_2, r_7_3, r_7_4, r_17_0, r_17_1, r_18_1, r_18_2, r_18_3, r_18_4, r_18_6, r_28_1, r_28_2, r_28_3, r_28_4, r_28_6, r_38_0, r_253_0, r_253_1, r_253_2, r_253_3, r_258_0, r_258_1, r_258_3, r_258_4, r_258_6, r_258_8, r_265_0, r_265_1, r_265_3, r_265_4, r_265_5, r_0_4, r_0_5, hX2, h5, cs, hne]
        exact hq
      · have e29 : (sd_wI σ1 271 0 (nI 0)).1 271 29 = nI (A 6 0 0) := by rw [wI_o (by decide), g1 271 (by decide)]; exact hY29
        have hne' : ¬ A 6 0 0 = 6 := hfull
        have cs := fun Q => m7 (d + 56) Q
        rw [sd_Call.start (ls := [.ref 271, .int (nI 2), sd_un, sd_un, sd_un]) m_M_text (by decide) (Nat.le_of_ble_eq_true rfl) rfl]
        simp (disch := first | exact sd_cr | exact sd_ci | exact sd_cu | exact sd_cl9 | assumption | omega | exact t_285 | exact t_283 | exact t_278 | exact t_281 | exact t_276 | exact t_274 | exact t_275 | exact t_277 | exact t_279 | exact t_280 | exact t_282 | exact t_284 | exact t_286 | exact t_287 | exact t_288 | exact t_289 | exact t_290 | exact t_291 | exact t_292 | exact t_293 | exact t_294 | exact t_295 | exact t_296 | exact t_297 | exact t_298 | exact t_299 | exact t_300) only [z_M_text_0, z_M_text_1, z_M_text_2, z_M_text_5, z_M_text_6, z_M_text_7, z_M_text_8, z_M_text_11, z_M_text_14, z_M_text_17, z_M_text_18, z_M_text_19, z_M_text_22, z_M_text_23, z_M_text_26, z_M_text_27, z_M_text_30, z_M_text_31, z_M_text_32, z_M_text_35, z_M_text_36, z_M_text_39, z_M_text_41, z_M_text_44, z_M_text_45, z_M_text_46, z_M_text_49, z_M_text_50, z_M_text_53, z_M_text_54, false_and, and_false, if_true, if_false, Decidable.not_not, sd_ci, sd_cr, sd_cl9, sd_cu, sd_cat0, sd_cat1, sd_rfS, sd_n01, sd_n11, sd_n1, sd_n10, sd_n00, sd_b01, sd_b0, true_and, and_true, and_self, not_true_eq_false, not_false_eq_true, false_implies, true_implies, implies_true, or_true, true_or, or_false, false_or, Option.toList_some, Option.toList_none, List.cons_append, List.nil_append, Nat.reduceAdd, Nat.reduceLeDiff, nz_sub, nz_lt0, nz_ge0, nz_le0, nz_gt0, nz_eq0, nz_eq1, nz_lt, nz_le, nz_eq, nz_cl, nz_in, nz_add, nz_mul, nz_m1, nz_m1', Nat.reduceMul, Nat.reduceSub, Nat.reduceLT, Nat.reduceEqDiff, not_false_eq_true, false_implies, true_implies, true_and, and_true, h_271, t_272, n_272, t_273, n_273, t_274, n_274, t_275, n_275, t_276, n_276, t_277, n_277, t_278, n_278, t_279, n_279, t_280, n_280, t_281, n_281, t_282, n_282, t_283, n_283, t_284, n_284, t_285, n_285, t_286, n_286, t_287, n_287, t_288, n_288, t_289, n_289, t_290, n_290, t_291, n_291, t_292, n_292, t_293, n_293, t_294, n_294, t_295, n_295, t_296, n_296, t_297, n_297, t_298, n_298, t_299, n_299, t_300, n_300, t_301, n_301, r_271_1, r_271_2, r_271_3, r_271_4, r_271_15, r_271_16, r_271_18, r_271_19, r_271_20, r_271_21, r_271_22, r_271_23, r_271_24, r_271_25, r_271_26, r_271_34, r_271_35, r_271_38, r_271_39, r_271_40, r_271_42, r_271_45, r_271_46, r_271_47, r_271_48, r_271_49, r_271_50, r_271_53, r_271_54, r_271_55, r_271_57, c_M_isIn, lz_i, li, li2, sd_bT trivial, e29, hne', cs, hne]
        exact hq
      · rw [m1 k (by omega) (by omega), wI_c (by omega)]
        exact a1 k j q1 q2 q3
      · rw [m2 j h1 h2, wI_o (by omega), g1 271 (by decide)]
      · rw [m3 j hj, wI_c (by decide), g1 283 (by decide)]
      · rw [m1 k (by omega) h2, wI_c (by omega), g1 k (by omega)]
      · rw [m5 k i hk]
        show σ1.2.2 k i = _
        rw [a2]
end SDBT
