/-! fault is a step; text of a country -/
section SDCF
variable {L : Nat} {xs : Nat → Int32} {fm : Option Nat} {A W : sw_T} {B T : Nat} {V : Nat → sw_T} {im : Nat} {I U : sw_T} {σ σ' : sd_Mem} {c : Nat}
theorem ct_46 (h : sd_isC c) : sd_isC (46 - c) ∧ 46 - (46 - c) = c ∧ (c = 18 ∨ c = 28) := by
  have hcc := h.2.2.2.2.2.2.2.2.2.2.2
  rcases hcc with rfl | rfl
  · exact ⟨sd_C28, rfl, Or.inl rfl⟩
  · exact ⟨sd_C18, rfl, Or.inr rfl⟩
theorem k_Xf0 (h : sw_Inv L xs fm B σ c A W T V im I U) {e : Nat} {r : Option (sw_T × sw_T)} (hr : ∀ σ : sd_Mem, σ.1 1 1 = nI (U 0 0 0) → (∀ i, i < U 0 0 0 → σ.1 2 i = nI (U 1 i 0)) → ∃ σ', ct_fX σ σ' (46 - c) ∧ (∀ A' W', r = some (A', W') → ∃ dn', ct_X σ' (46 - c) A' W' dn') ∧ ∀ D Q, 11 ≤ D → (sd_Call (sd_E1 L xs fm) D y_CountryReader_read [.ref 3, .ref (46 - c)] σ Q ↔ Q (some (.int (if r.isSome = true then -1 else nI e))) σ')) : ∃ σ', ct_fX σ σ' (46 - c) ∧ (∀ A' W', r = some (A', W') → ∃ dn', ct_X σ' (46 - c) A' W' dn') ∧ ∀ D Q, 12 ≤ D → (sd_Call (sd_E1 L xs fm) D y_X_fault [.ref 0, .int (nI 0)] σ Q ↔ Q (some (.int (if r.isSome = true then -1 else nI e))) σ') := by
  obtain ⟨hp, hs, hm, hU, htX, hvX, htM, hvM, hvT⟩ := h
  obtain ⟨σ', a1, a2, a3⟩ := hr σ htX.1 htX.2
  refine ⟨σ', a1, a2, fun D Q hD => ?_⟩
  obtain ⟨d, rfl⟩ : ∃ d, D = d + 1 := ⟨D - 1, by omega⟩
  refine sd_Call.iff (fun Q hq => ?_) Q
  have cs := fun Q => a3 d Q (by omega)
  have h5 := hs.2.1
  rw [sd_Call.start (ls := [.ref 0, .int (nI 0)]) m_X_fault (by decide) (Nat.le_of_ble_eq_true rfl) rfl]
  simp (disch := first | exact sd_cr | exact sd_ci | exact sd_cu | exact sd_cl9 | assumption | omega | exact t_259 | exact t_260 | exact t_261 | exact t_262 | exact t_263 | exact t_264 | exact t_254 | exact t_255 | exact t_256 | exact t_257 | exact t_266 | exact t_267 | exact t_268 | exact t_269 | exact t_270 | exact t_252 | exact t_240 | exact t_246 | exact t_2 | exact t_4 | exact t_5 | exact t_13 | exact t_14 | exact t_15 | exact t_16 | exact Or.inl t_39 | exact Or.inr t_7) only [z_X_fault_0, z_X_fault_1_0, z_X_fault_1_1, z_X_fault_1_2, z_X_fault_28, z_X_fault_29, z_X_fault_32, z_X_fault_33, z_X_fault_36, z_X_fault_39, z_X_fault_40, z_X_fault_41, z_X_fault_44, z_X_fault_47, z_X_fault_48, z_X_fault_49, z_X_fault_52, z_X_fault_53, z_X_fault_56, z_X_fault_59, z_X_fault_60, z_X_fault_62, false_and, and_false, if_true, if_false, Decidable.not_not, sd_ci, sd_cr, sd_cl9, sd_cu, sd_cat0, sd_cat1, sd_rfS, sd_n01, sd_n11, sd_n1, sd_n10, sd_n00, sd_b01, sd_b0, true_and, and_true, and_self, not_true_eq_false, not_false_eq_true, false_implies, true_implies, implies_true, or_true, true_or, or_false, false_or, Option.toList_some, Option.toList_none, List.cons_append, List.nil_append, Nat.reduceAdd, Nat.reduceLeDiff, h_0, h_1, t_2, n_2, h_3, t_4, n_4, t_5, n_5, h_6, t_7, n_7, t_8, n_8, t_9, n_9, t_10, n_10, t_11, n_11, t_12, n_12, t_13, n_13, t_14, n_14, t_15, n_15, t_16, n_16, h_17, h_18, t_19, n_19, t_20, n_20, t_21, n_21, t_22, n_22, h_28, t_29, n_29, t_30, n_30, t_31, n_31, t_32, n_32, h_38, t_39, n_39, t_240, n_240, t_246, n_246, t_252, n_252, h_253, t_254, n_254, t_255, n_255, t_256, n_256, t_257, n_257, h_258, t_259, n_259, t_260, n_260, t_261, n_261, t_262, n_262, t_263, n_263, t_264, n_264, h_265, t_266, n_266, t_267, n_267, t_268, n_268, t_269, n_269, t_270, n_270, r_0_0, r_0_1, r_0_2, r_0_3, r_0_6, r_0_7, r_0_8, r_0_9, r_0_11, r_0_12, r_0_13, r_0_14, r_0_15, r_1_0, r_3_0, r_3_1, r_3_2, r_6_0, r_6_1, r_6_4, r_6_5, r_6_7, r_7_0, r_7_1, r_7_2, r_7_3, r_7_4, r_17_0, r_17_1, r_18_1, r_18_2, r_18_3, r_18_4, r_18_6, r_28_1, r_28_2, r_28_3, r_28_4, r_28_6, r_38_0, r_253_0, r_253_1, r_253_2, r_253_3, r_258_0, r_258_1, r_258_3, r_258_4, r_258_6, r_258_8, r_265_0, r_265_1, r_265_3, r_265_4, r_265_5, r_0_4, r_0_5, h5, cs]
  exact hq
theorem k_Mf0 {b : Nat → Nat} {n e : Nat} {r : Option (sw_T × sw_T)} (hn : σ.1 271 6 = nI n) (hby : ∀ i, i < n → σ.1 272 i = sw_by (b i)) (hr : ∀ σ : sd_Mem, σ.1 271 6 = nI n → (∀ i, i < n → σ.1 272 i = sw_by (b i)) → ∃ σ', (∀ e j, ¬ (e = 271 ∧ ((8 ≤ j ∧ j ≤ 11) ∨ (30 ≤ j ∧ j ≤ 33))) → e ≠ 277 → e ≠ 279 → e ≠ 280 → e ≠ 282 → e ≠ 284 → σ'.1 e j = σ.1 e j) ∧ σ'.2.1 = σ.2.1 ∧ (∀ k i, k ≠ 271 → σ'.2.2 k i = σ.2.2 k i) ∧ σ'.1 271 11 = (if r.isSome = true then -1 else nI e) ∧ (∀ A' W', r = some (A', W') → ∃ dn', ct_M σ' A' W' dn') ∧ ∀ D Q, 11 ≤ D → (sd_Call (sd_E1 L xs fm) D y_M_readCountry [.ref 271] σ Q ↔ Q none σ')) : ∃ σ', (∀ e j, ¬ (e = 271 ∧ (j = 0 ∨ (8 ≤ j ∧ j ≤ 11) ∨ (30 ≤ j ∧ j ≤ 33))) → e ≠ 277 → e ≠ 279 → e ≠ 280 → e ≠ 282 → e ≠ 284 → σ'.1 e j = σ.1 e j) ∧ (∀ k i, k ≠ 271 → σ'.2.2 k i = σ.2.2 k i) ∧ (∀ A' W', r = some (A', W') → ∃ dn', ct_M σ' A' W' dn') ∧ ∀ D Q, 12 ≤ D → (sd_Call (sd_E1 L xs fm) D y_M_fault [.ref 271, .int (nI 0)] σ Q ↔ Q (some (.int (if r.isSome = true then -1 else nI e))) σ') := by
  obtain ⟨σ', a1, a2, a3, a4, a5, a6⟩ := hr (sd_wI σ 271 0 (nI 0)) (by rw [wI_o (by decide)]; exact hn) (fun i hi => by rw [wI_c (by decide)]; exact hby i hi)
  refine ⟨σ', fun e j z1 z2 z3 z4 z5 z6 => by rw [a1 e j (by omega) z2 z3 z4 z5 z6, wI_1, if_neg (by omega)], a3, a5, fun D Q hD => ?_⟩
  obtain ⟨d, rfl⟩ : ∃ d, D = d + 1 + 1 := ⟨D - 2, by omega⟩
  refine sd_Call.iff (fun Q hq => ?_) Q
  have cs := fun Q => a6 (d + 1) Q (by omega)
  have li : (lN 0 ≤ lN 0) ↔ True := by decide
  have li2 : (lN 0 ≤ lN 2) ↔ True := by decide
  rw [sd_Call.start (ls := [.ref 271, .int (nI 0)]) m_M_fault (by decide) (Nat.le_of_ble_eq_true rfl) rfl]
  simp (disch := first | exact sd_cr | exact sd_ci | exact sd_cu | exact sd_cl9 | assumption | omega | exact t_285 | exact t_283 | exact t_278 | exact t_281 | exact t_276 | exact t_274 | exact t_275 | exact t_277 | exact t_279 | exact t_280 | exact t_282 | exact t_284 | exact t_286 | exact t_287 | exact t_288 | exact t_289 | exact t_290 | exact t_291 | exact t_292 | exact t_293 | exact t_294 | exact t_295 | exact t_296 | exact t_297 | exact t_298 | exact t_299 | exact t_300) only [z_M_fault_0, z_M_fault_1, z_M_fault_2, z_M_fault_5, z_M_fault_6, z_M_fault_7, z_M_fault_8, z_M_fault_11, z_M_fault_14, z_M_fault_17, z_M_fault_19, z_M_fault_20, z_M_fault_21, z_M_fault_24, z_M_fault_25, z_M_fault_28, z_M_fault_29, z_M_fault_30, z_M_fault_33, z_M_fault_34, z_M_fault_35, z_M_fault_38, z_M_fault_39, z_M_fault_40, z_M_fault_43, z_M_fault_46, z_M_fault_47, z_M_fault_48, z_M_fault_51, z_M_fault_52, z_M_fault_53, z_M_fault_56, z_M_fault_57, z_M_fault_58, z_M_fault_61, z_M_fault_64, z_M_fault_65, z_M_fault_66, z_M_fault_69, z_M_fault_71, z_M_fault_74, z_M_fault_75, z_M_fault_78, z_M_fault_79, z_M_fault_82, z_M_fault_83, z_M_fault_86, z_M_fault_87, z_M_fault_90, z_M_fault_91, z_M_fault_94, z_M_fault_95, z_M_fault_96, z_M_fault_99, false_and, and_false, if_true, if_false, Decidable.not_not, sd_ci, sd_cr, sd_cl9, sd_cu, sd_cat0, sd_cat1, sd_rfS, sd_n01, sd_n11, sd_n1, sd_n10, sd_n00, sd_b01, sd_b0, true_and, and_true, and_self, not_true_eq_false, not_false_eq_true, false_implies, true_implies, implies_true, or_true, true_or, or_false, false_or, Option.toList_some, Option.toList_none, List.cons_append, List.nil_append, Nat.reduceAdd, Nat.reduceLeDiff, nz_sub, nz_lt0, nz_ge0, nz_le0, nz_gt0, nz_eq0, nz_eq1, nz_lt, nz_le, nz_eq, nz_cl, nz_in, nz_add, nz_mul, nz_m1, nz_m1', Nat.reduceMul, Nat.reduceSub, Nat.reduceLT, Nat.reduceEqDiff, not_false_eq_true, false_implies, true_implies, true_and, and_true, h_271, t_272, n_272, t_273, n_273, t_274, n_274, t_275, n_275, t_276, n_276, t_277, n_277, t_278, n_278, t_279, n_279, t_280, n_280, t_281, n_281, t_282, n_282, t_283, n_283, t_284, n_284, t_285, n_285, t_286, n_286, t_287, n_287, t_288, n_288, t_289, n_289, t_290, n_290, t_291, n_291, t_292, n_292, t_293, n_293, t_294, n_294, t_295, n_295, t_296, n_296, t_297, n_297, t_298, n_298, t_299, n_299, t_300, n_300, t_301, n_301, r_271_1, r_271_2, r_271_3, r_271_4, r_271_15, r_271_16, r_271_18, r_271_19, r_271_20, r_271_21, r_271_22, r_271_23, r_271_24, r_271_25, r_271_26, r_271_34, r_271_35, r_271_38, r_271_39, r_271_40, r_271_42, r_271_45, r_271_46, r_271_47, r_271_48, r_271_49, r_271_50, r_271_53, r_271_54, r_271_55, r_271_57, c_M_isIn, lz_i, li, li2, sd_bT trivial, cs, a4]
  exact hq
/-- reading a country leaves the invariant -/
theorem sw_Inv.rc (h : sw_Inv L xs fm B σ c A W T V im I U) {σ1 σ2 : sd_Mem} (f : ct_fX σ σ1 (46 - c)) (g : ∀ e j, ¬ (e = 271 ∧ (j = 0 ∨ (8 ≤ j ∧ j ≤ 11) ∨ (30 ≤ j ∧ j ≤ 33))) → e ≠ 277 → e ≠ 279 → e ≠ 280 → e ≠ 282 → e ≠ 284 → σ2.1 e j = σ1.1 e j) (g2 : ∀ k i, k ≠ 271 → σ2.2.2 k i = σ1.2.2 k i) : sw_Inv L xs fm B σ2 c A W T V im I U := by
  have hC := h.2.1.1.2.1
  obtain ⟨hC', h46, hcc⟩ := ct_46 hC
  refine h.rg (fun k j hk q1 q2 q3 q4 q5 q6 q7 q8 => ?_) (fun j h1 h2 => ?_) (fun j hj => ?_) (fun k h1 h2 h3 h4 h5 h6 h7 => funext fun j => ?_) (fun k i hk => ?_)
  · rw [g k j (by omega) (by omega) (by omega) (by omega) (by omega) (by omega)]
    exact f.1 k j q1 q6 q7 q8
  · rw [g 271 j (by omega) (by decide) (by decide) (by decide) (by decide) (by decide)]
    exact f.1 271 j (by omega) (by decide) (by decide) (by omega)
  · rw [g 283 j (by omega) (by decide) (by decide) (by decide) (by decide) (by decide)]
    exact f.1 283 j (by omega) (by decide) (by decide) (by omega)
  · rw [g k j (by omega) h3 h4 h5 h6 h7]
    exact f.1 k j (by omega) (by omega) (by omega) (by omega)
  · rw [g2 k i hk, f.2]
theorem s_fault (x : Int32) : sw_step L xs fm 60 y_X_fault y_M_fault [.int x] := by
  intro B σ c A W T V im I U hB hI
  obtain ⟨hp, hs, hm, hU, htX, hvX, htM, hvM, hvT⟩ := id hI
  rcases k_sort x with h | rfl | rfl | rfl
  · exact sw_Inv_step (r := -2) (σ1 := σ) (σ2 := sd_wI σ 271 0 (nI 0)) (B' := B) (fun d Q => k_XfO h (by omega)) (fun d Q => k_MfO h (by omega)) (hI.p σ rfl rfl) (by omega)
  · obtain ⟨hC', h46, hcc⟩ := ct_46 hs.1.2.1
    obtain ⟨e, r, t1, t2, t3, t4⟩ := ct_country (L := L) (xs := xs) (fm := fm) (b := fun i => U 1 i 0) (n := U 0 0 0) (c := 46 - c) (A := A) hU.1 (fun i _ => (hU.2.1 i).2) hC' hp.1.1
    obtain ⟨σ1, a1, a2, a3⟩ := k_Xf0 hI t1
    have g1 : ∀ k, 271 ≤ k → σ1.1 k = σ.1 k := fun k hk => funext fun j => a1.1 k j (by omega) (by omega) (by omega) (by omega)
    obtain ⟨σ2, b1, b2, b3, b4⟩ := k_Mf0 (L := L) (xs := xs) (fm := fm) (σ := σ1) (by rw [g1 271 (by decide)]; exact htM.1) (fun i hi => by rw [g1 272 (by decide)]; exact htM.2 i hi) t2
    exact sw_Inv_step (B' := B) (fun d Q => a3 (d + 60) Q (by omega)) (fun d Q => b4 (d + 60) Q (by omega)) (hI.rc a1 b1 b2) (by omega)
  · obtain ⟨e, r, V1, t1, t2, t3, t4⟩ := ty_taste (L := L) (xs := xs) (fm := fm) (b := fun i => U 1 i 0) (n := U 0 0 0) hU.1 (fun i _ => (hU.2.1 i).2)
    obtain ⟨σ1, a1, a2, a3⟩ := k_Xf1 hI t1
    have hU4 := hU.2.2.1
    have g1 : ∀ k, 271 ≤ k → σ1.1 k = σ.1 k := fun k hk => funext fun j => a1.1 k j (by omega) (by omega) (by omega)
    obtain ⟨σ2, m1, m2, m4, m5, m7⟩ := k_Mf1 (L := L) (xs := xs) (fm := fm) (σ := σ1) (b := fun i => U 1 i 0) (n := U 0 0 0) (by rw [g1 271 (by decide)]; exact htM.1) hU.1 (fun i hi => by rw [g1 272 (by decide)]; exact htM.2 i hi) (fun k hk => by rw [g1 275 (by decide)]; exact hvM.2.2.2.1 k hk) t2
    refine sw_Inv_step (B' := B) (fun d Q => a3 (d + 60) Q (by omega)) (fun d Q => m7 (d + 60) Q (by omega)) (hI.rg (fun k j hk q1 q2 q3 _ _ _ _ _ => ?_) (fun j h1 h2 => ?_) (fun j hj => ?_) (fun k h1 h2 _ _ _ _ _ => ?_) (fun k i hk => ?_)) (by omega)
    · rw [m1 k (by omega)]
      exact a1.1 k j q1 q2 q3
    · rw [m2 j h1 (by omega), g1 271 (by decide)]
    · rw [m1 283 (by decide), g1 283 (by decide)]
    · rw [m1 k (by omega), g1 k (by omega)]
    · rw [m5 k i hk, a1.2]
  · obtain ⟨σ1, a1, a2, a3, a4⟩ := k_Xf2 hI
    have g1 : ∀ k, 271 ≤ k → σ1.1 k = σ.1 k := fun k hk => funext fun j => a1 k j (by omega) (by omega) (by omega)
    obtain ⟨σ2, m1, m2, m3, m4, m5, m6, m7⟩ := c_M_fault2 (L := L) (xs := xs) (fm := fm) (σ := σ1) (b := fun i => U 1 i 0) (n := U 0 0 0) (by rw [g1 271 (by decide)]; exact htM.1) (fun i hi => by rw [g1 272 (by decide)]; exact htM.2 i hi) hU.1 (fun i _ => (hU.2.1 i).2)
    refine sw_Inv_step (B' := B) (fun d Q => a4 (d + 60) Q (by omega)) (fun d Q => m7 (d + 57) Q) (hI.rd (fun k j hk q1 q2 q3 => ?_) (fun j h1 h2 => ?_) (fun j hj => ?_) (fun k h1 h2 => ?_) (fun k i hk => ?_)) (by omega)
    · rw [m1 k (by omega) (by omega)]
      exact a1 k j q1 q2 q3
    · rw [m2 j h1 h2, g1 271 (by decide)]
    · rw [m3 j hj, g1 283 (by decide)]
    · rw [m1 k (by omega) h2, g1 k (by omega)]
    · rw [m5 k i hk, a2]
theorem s_text0 : sw_step L xs fm 60 y_X_text y_M_text [.int (nI 0)] := by
  intro B σ c A W T V im I U hB hI
  obtain ⟨hp, hs, hm, hU, htX, hvX, htM, hvM, hvT⟩ := id hI
  obtain ⟨hC', h46, hcc⟩ := ct_46 hs.1.2.1
  have li : (lN 0 ≤ lN 0) ↔ True := by decide
  have li2 : (lN 0 ≤ lN 2) ↔ True := by decide
  have hUn := hU.1
  obtain ⟨e, r, t1, t2, t3, t4⟩ := ct_country (L := L) (xs := xs) (fm := fm) (b := fun i => U 1 i 0) (n := U 0 0 0) (c := 46 - c) (A := A) hU.1 (fun i _ => (hU.2.1 i).2) hC' hp.1.1
  obtain ⟨σ1, a1, a2, a3⟩ := k_Xf0 hI t1
  cases r with
  | none =>
    have hne : ¬ (if (none : Option (sw_T × sw_T)).isSome = true then (-1 : Int32) else nI e) = -1 := fun q => ((nz_m1 (by omega)).mp q).elim
    have g1 : ∀ k, 271 ≤ k → σ1.1 k = σ.1 k := fun k hk => funext fun j => a1.1 k j (by omega) (by omega) (by omega) (by omega)
    obtain ⟨σ2, b1, b2, b3, b4⟩ := k_Mf0 (L := L) (xs := xs) (fm := fm) (σ := sd_wI σ1 271 0 (nI 0)) (by rw [wI_o (by decide), g1 271 (by decide)]; exact htM.1) (fun i hi => by rw [wI_c (by decide), g1 272 (by decide)]; exact htM.2 i hi) t2
    refine sw_Inv_step (r := -1) (B' := B) (σ1 := σ1) (σ2 := σ2) (fun d Q => sd_Call.iff (fun Q hq => ?_) Q) (fun d Q => sd_Call.iff (fun Q hq => ?_) Q) (hI.rc a1 (fun e j z1 z2 z3 z4 z5 z6 => by rw [b1 e j z1 z2 z3 z4 z5 z6, wI_1, if_neg (by omega)]) (fun k i hk => b2 k i hk)) (by omega)
    · have cs := fun Q => a3 (d + 59) Q (by omega)
      rw [sd_Call.start (ls := [.ref 0, .int (nI 0)]) m_X_text (by decide) (Nat.le_of_ble_eq_true rfl) rfl]
      simp (disch := first | exact sd_cr | exact sd_ci | exact sd_cu | exact sd_cl9 | assumption | omega | exact t_259 | exact t_260 | exact t_261 | exact t_262 | exact t_263 | exact t_264 | exact t_254 | exact t_255 | exact t_256 | exact t_257 | exact t_266 | exact t_267 | exact t_268 | exact t_269 | exact t_270 | exact t_252 | exact t_240 | exact t_246 | exact t_2 | exact t_4 | exact t_5 | exact t_13 | exact t_14 | exact t_15 | exact t_16 | exact Or.inl t_39 | exact Or.inr t_7) only [z_X_text_0, z_X_text_1, z_X_text_4, z_X_text_5, z_X_text_6, z_X_text_9, z_X_text_10, z_X_text_11, z_X_text_14, z_X_text_15, z_X_text_18, z_X_text_21, z_X_text_22, z_X_text_25, z_X_text_26, z_X_text_27, z_X_text_30, z_X_text_31, z_X_text_34, z_X_text_37, z_X_text_39, z_X_text_42, z_X_text_43, z_X_text_44, z_X_text_47, z_X_text_48, z_X_text_51, z_X_text_52, false_and, and_false, if_true, if_false, Decidable.not_not, sd_ci, sd_cr, sd_cl9, sd_cu, sd_cat0, sd_cat1, sd_rfS, sd_n01, sd_n11, sd_n1, sd_n10, sd_n00, sd_b01, sd_b0, true_and, and_true, and_self, not_true_eq_false, not_false_eq_true, false_implies, true_implies, implies_true, or_true, true_or, or_false, false_or, Option.toList_some, Option.toList_none, List.cons_append, List.nil_append, Nat.reduceAdd, Nat.reduceLeDiff, nz_sub, nz_lt0, nz_ge0, nz_le0, nz_gt0, nz_eq0, nz_eq1, nz_lt, nz_le, nz_eq, nz_cl, nz_in, nz_add, nz_mul, nz_m1, nz_m1', Nat.reduceMul, Nat.reduceSub, Nat.reduceLT, Nat.reduceEqDiff, not_false_eq_true, false_implies, true_implies, true_and, and_true, h_0, h_1, t_2, n_2, h_3, t_4, n_4, t_5, n_5, h_6, t_7, n_7, t_8, n_8, t_9, n_9, t_10, n_10, t_11, n_11, t_12, n_12, t_13, n_13, t_14, n_14, t_15, n_15, t_16, n_16, h_17, h_18, t_19, n_19, t_20, n_20, t_21, n_21, t_22, n_22, h_28, t_29, n_29, t_30, n_30, t_31, n_31, t_32, n_32, h_38, t_39, n_39, t_240, n_240, t_246, n_246, t_252, n_252, h_253, t_254, n_254, t_255, n_255, t_256, n_256, t_257, n_257, h_258, t_259, n_259, t_260, n_260, t_261, n_261, t_262, n_262, t_263, n_263, t_264, n_264, h_265, t_266, n_266, t_267, n_267, t_268, n_268, t_269, n_269, t_270, n_270, r_0_0, r_0_1, r_0_2, r_0_3, r_0_6, r_0_7, r_0_8, r_0_9, r_0_11, r_0_12, r_0_13, r_0_14, r_0_15, r_1_0, r_3_0, r_3_1, r_3_2, r_6_0, r_6_1, r_6_4, r_6_5, r_6_7, r_7_0, r_7_1, r_7_2, r_7_3, r_7_4, r_17_0, r_17_1, r_18_1, r_18_2, r_18_3, r_18_4, r_18_6, r_28_1, r_28_2, r_28_3, r_28_4, r_28_6, r_38_0, r_253_0, r_253_1, r_253_2, r_253_3, r_258_0, r_258_1, r_258_3, r_258_4, r_258_6, r_258_8, r_265_0, r_265_1, r_265_3, r_265_4, r_265_5, r_0_4, r_0_5, cs, hne]
      exact hq
    · have cs := fun Q => b4 (d + 59) Q (by omega)
      rw [sd_Call.start (ls := [.ref 271, .int (nI 0), sd_un, sd_un, sd_un]) m_M_text (by decide) (Nat.le_of_ble_eq_true rfl) rfl]
      simp (disch := first | exact sd_cr | exact sd_ci | exact sd_cu | exact sd_cl9 | assumption | omega | exact t_285 | exact t_283 | exact t_278 | exact t_281 | exact t_276 | exact t_274 | exact t_275 | exact t_277 | exact t_279 | exact t_280 | exact t_282 | exact t_284 | exact t_286 | exact t_287 | exact t_288 | exact t_289 | exact t_290 | exact t_291 | exact t_292 | exact t_293 | exact t_294 | exact t_295 | exact t_296 | exact t_297 | exact t_298 | exact t_299 | exact t_300) only [z_M_text_0, z_M_text_1, z_M_text_2, z_M_text_5, z_M_text_6, z_M_text_7, z_M_text_8, z_M_text_11, z_M_text_14, z_M_text_17, z_M_text_18, z_M_text_19, z_M_text_22, z_M_text_23, z_M_text_26, z_M_text_27, z_M_text_30, z_M_text_31, z_M_text_32, z_M_text_35, z_M_text_36, z_M_text_39, z_M_text_41, z_M_text_44, z_M_text_45, z_M_text_46, z_M_text_49, z_M_text_50, z_M_text_53, z_M_text_54, false_and, and_false, if_true, if_false, Decidable.not_not, sd_ci, sd_cr, sd_cl9, sd_cu, sd_cat0, sd_cat1, sd_rfS, sd_n01, sd_n11, sd_n1, sd_n10, sd_n00, sd_b01, sd_b0, true_and, and_true, and_self, not_true_eq_false, not_false_eq_true, false_implies, true_implies, implies_true, or_true, true_or, or_false, false_or, Option.toList_some, Option.toList_none, List.cons_append, List.nil_append, Nat.reduceAdd, Nat.reduceLeDiff, nz_sub, nz_lt0, nz_ge0, nz_le0, nz_gt0, nz_eq0, nz_eq1, nz_lt, nz_le, nz_eq, nz_cl, nz_in, nz_add, nz_mul, nz_m1, nz_m1', Nat.reduceMul, Nat.reduceSub, Nat.reduceLT, Nat.reduceEqDiff, not_false_eq_true, false_implies, true_implies, true_and, and_true, h_271, t_272, n_272, t_273, n_273, t_274, n_274, t_275, n_275, t_276, n_276, t_277, n_277, t_278, n_278, t_279, n_279, t_280, n_280, t_281, n_281, t_282, n_282, t_283, n_283, t_284, n_284, t_285, n_285, t_286, n_286, t_287, n_287, t_288, n_288, t_289, n_289, t_290, n_290, t_291, n_291, t_292, n_292, t_293, n_293, t_294, n_294, t_295, n_295, t_296, n_296, t_297, n_297, t_298, n_298, t_299, n_299, t_300, n_300, t_301, n_301, r_271_1, r_271_2, r_271_3, r_271_4, r_271_15, r_271_16, r_271_18, r_271_19, r_271_20, r_271_21, r_271_22, r_271_23, r_271_24, r_271_25, r_271_26, r_271_34, r_271_35, r_271_38, r_271_39, r_271_40, r_271_42, r_271_45, r_271_46, r_271_47, r_271_48, r_271_49, r_271_50, r_271_53, r_271_54, r_271_55, r_271_57, c_M_isIn, lz_i, li, li2, sd_bT trivial, cs, hne]
      exact hq
  | some q2 =>
    obtain ⟨A', W'⟩ := q2
    have m1' : (if (some (A', W') : Option (sw_T × sw_T)).isSome = true then (-1 : Int32) else nI e) = -1 := rfl
    rw [m1'] at a3
    obtain ⟨⟨dn0, hP'⟩, hwh, hsame⟩ := t4 A' W' rfl
    obtain ⟨dn1, hX'⟩ := a2 A' W' rfl
    obtain ⟨p1, p2, p3, p4, p5, p6, p7, p8, p9, p10, p11, p12, p13, p14, p15⟩ := id hP'
    -- the store of the class
    have hst : ∃ σx : sd_Mem, σx = sd_wI (sd_wI (sd_wI (sd_wR (sd_wR (sd_wI σ1 1 1 (nI 0)) 0 4 (some (46 - c))) 0 5 (some c)) 38 2 (nI 0)) 258 5 (nI 0)) 0 10 (nI 0) := ⟨_, rfl⟩
    obtain ⟨σx, hσx⟩ := hst
    have gx : ∀ e j, ¬ (e = 1 ∧ j = 1) → ¬ (e = 38 ∧ j = 2) → ¬ (e = 258 ∧ j = 5) → ¬ (e = 0 ∧ j = 10) → σx.1 e j = σ1.1 e j := fun e j z1 z2 z3 z4 => by
      rw [hσx, wI_1, if_neg z4, wI_1, if_neg z3, wI_1, if_neg z2]
      show (sd_wI σ1 1 1 (nI 0)).1 e j = _
      rw [wI_1, if_neg z1]
    have gxx : ∀ e j, ¬ (e = 1 ∧ (j = 1 ∨ j = 2)) → e ≠ 4 → e ≠ 5 → ¬ (46 - c ≤ e ∧ e < 46 - c + 10) → ¬ (e = 38 ∧ j = 2) → ¬ (e = 258 ∧ j = 5) → ¬ (e = 0 ∧ j = 10) → σx.1 e j = σ.1 e j := fun e j z1 z2 z3 z4 z5 z6 z7 => by rw [gx e j (by omega) z5 z6 z7]; exact a1.1 e j (by omega) z2 z3 z4
    have x11 : σx.1 1 1 = nI 0 := by
      rw [hσx, wI_c (by decide), wI_c (by decide), wI_c (by decide)]
      show (sd_wI σ1 1 1 (nI 0)).1 1 1 = _
      exact wI_k
    have x38 : σx.1 38 2 = nI 0 := by rw [hσx, wI_c (by decide), wI_c (by decide), wI_k]
    have x258 : σx.1 258 5 = nI 0 := by rw [hσx, wI_c (by decide), wI_k]
    have x010 : σx.1 0 10 = nI 0 := by rw [hσx, wI_k]
    have x2 : σx.2.2 = fun k i => if k = 0 ∧ i = 5 then some c else if k = 0 ∧ i = 4 then some (46 - c) else σ.2.2 k i := by
      rw [hσx]
      show (fun k i => if k = 0 ∧ i = 5 then some c else (if k = 0 ∧ i = 4 then some (46 - c) else σ1.2.2 k i)) = _
      rw [a1.2]
    have g1 : ∀ k, 271 ≤ k → σx.1 k = σ.1 k := fun k hk => funext fun j => gxx k j (by omega) (by omega) (by omega) (by omega) (by omega) (by omega) (by omega)
    obtain ⟨σ2, b1, b2, b3, b4⟩ := k_Mf0 (L := L) (xs := xs) (fm := fm) (σ := sd_wI σx 271 0 (nI 0)) (by rw [wI_o (by decide), g1 271 (by decide)]; exact htM.1) (fun i hi => by rw [wI_c (by decide), g1 272 (by decide)]; exact htM.2 i hi) t2
    rw [m1'] at b4
    obtain ⟨dn2, hM'⟩ := b3 A' W' rfl
    obtain ⟨m30, m31, m32, m33, m277, m279, m280, m282⟩ := id hM'
    obtain ⟨σ3, u1, u2, u3, u4, u5, u6, u7, u8, u9, u10, u11, u12, u13, u14, u15⟩ := ct_settle (L := L) (xs := xs) (fm := fm) (x := .int (nI (U 0 0 0))) sd_ci p3 p4 p5 (σ := sd_wI σ2 271 6 (nI 0)) (l3 := sd_un) (l4 := sd_un) (by rw [wI_o (by decide)]; exact m30) (by rw [wI_o (by decide)]; exact m33) (by rw [wI_o (by decide)]; exact m32)
    have wv : ∀ e j, e ≠ 271 → (sd_wI σ2 271 6 (nI 0)).1 e j = σ2.1 e j := fun e j h => by rw [wI_c h]
    have hlo : ∀ e j, e < 271 → σ3.1 e j = σx.1 e j := fun e j he => by rw [u1 e j (by omega) (by omega) (by omega) (by omega) (by omega), wv e j (by omega), b1 e j (by omega) (by omega) (by omega) (by omega) (by omega) (by omega), wI_c (by omega)]
    have hhi : ∀ e j, 271 < e → e ≠ 276 → e ≠ 277 → e ≠ 278 → e ≠ 279 → e ≠ 280 → e ≠ 281 → e ≠ 282 → e ≠ 284 → e ≠ 285 → σ3.1 e j = σ.1 e j := fun e j h0 z1 z2 z3 z4 z5 z6 z7 z8 z9 => by rw [u1 e j (by omega) z1 z3 z6 z9, wv e j (by omega), b1 e j (by omega) z2 z4 z5 z7 z8, wI_c (by omega), g1 e (by omega)]
    have h71 : ∀ j, j = 7 ∨ j = 29 ∨ j = 36 ∨ j = 37 → σ3.1 271 j = σ.1 271 j := fun j hj => by rw [u1 271 j (by omega) (by decide) (by decide) (by decide) (by decide), wI_o (by omega), b1 271 j (by omega) (by decide) (by decide) (by decide) (by decide) (by decide), wI_o (by omega), g1 271 (by decide)]
    have hs3 : ∀ k i, k ≠ 271 → σ3.2.2 k i = σx.2.2 k i := fun k i hk => by
      rw [u2]
      show σ2.2.2 k i = _
      rw [b2 k i hk]
      rfl
    have hsA : ∀ i j k, 6 ≤ i → i ≠ 9 → A' i j k = A i j k := fun i j k h1 h2 => (hsame i j k h1).trans (ct_Ai_o ⟨h1, h2⟩)
    have hsA9 : A' 9 0 0 = 0 := (hsame 9 0 0 (by omega)).trans (ct_Ai_0 (by omega))
    obtain ⟨k1, k2, k3, k4, k5, k6, k7, k8, k9, k10, k11, k12, k13⟩ := hp.1
    have hAK : sw_AK A' := ⟨p1, p3, p4, p7, p8, p9, fun e' he => ⟨(hwh.2.2 e' he).2.1, (hwh.2.2 e' he).2.2.2, (p14 e' he).2.2.2⟩, by rw [hsA 6 0 0 (by omega) (by omega)]; exact k8, fun r hr => by rw [hsA 6 0 0 (by omega) (by omega)] at hr; rw [hsA 7 r 0 (by omega) (by omega)]; exact k9 r hr, fun r i => by rw [hsA 8 r i (by omega) (by omega)]; exact k10 r i, by rw [hsA9]; omega, fun i hi => by rw [hsA9] at hi; omega, by rw [hsA 12 0 0 (by omega) (by omega)]; exact k13⟩
    have hOK : sw_OK (A' 0 0 0) W' := ⟨p3, p2, p10, p11, by omega, fun v hv => by
      obtain ⟨d0, d1, d2, d3, d4⟩ := p12 v hv
      have := hwh.2.1 v hv
      exact ⟨this.1, d1, by omega, by omega, d4, fun q => this.2 (by omega)⟩, p13⟩
    have hMf : sw_Mf (σ3.1 285) (A' 0 0 0) W' := by
      refine ⟨u13, fun v hv j hj => ?_, fun p hp' => ?_, ?_, ?_, fun i hi => ?_⟩
      · rw [show 70 + 6 * v + j = 70 + (6 * v + j) by omega, u12 _ (by omega), wv 280 _ (by decide)]
        exact m280 v hv j hj
      · obtain ⟨d1, d2, d3, d4⟩ := m277 p hp'
        have h12 := (p10 p hp').2.1
        have e0 := u11 p hp' 0 (by decide)
        have e1 := u11 p hp' 1 (by decide)
        rw [Nat.add_zero, Nat.add_zero, wv 277 _ (by decide)] at e0
        rw [wv 277 _ (by decide)] at e1
        refine ⟨e0.trans d2, e1.trans d3, fun i hi => ?_⟩
        rw [show 14 * p + 2 + i = 14 * p + (2 + i) by omega, u11 p hp' (2 + i) (by omega), wv 277 _ (by decide), show 15 * p + 1 + (2 + i) = 15 * p + 3 + i by omega]
        exact d4 i hi
      · rw [p15]; exact u14 143 (by decide) (by decide)
      · rw [p15]; exact u14 144 (by decide) (by decide)
      · rw [p15] at hi
        exact absurd (show i < 0 from hi) (Nat.not_lt_zero _)
    have uU : ∀ a b c, 0 < a → sw_set U 0 0 0 0 a b c = U a b c := fun a b c h => sw_set_n (by omega)
    have uU0 : sw_set U 0 0 0 0 0 0 0 = 0 := sw_set_y
    obtain ⟨hTT, nx, hnx, n1, n2, hVV⟩ := hs.2.2.1
    obtain ⟨x1, x2', x3, x4, x5, x6, x7⟩ := hs.1.2.2.2.1
    obtain ⟨y1, y2, y3, y4, y5, y6, y7⟩ := hm.1.2.1
    refine sw_Inv_step (r := nI (A' 0 0 0)) (σ1 := σx) (σ2 := σ3) (c' := 46 - c) (A' := A') (W' := W') (T' := 0) (V' := V) (im' := 0) (I' := I) (U' := sw_set U 0 0 0 0) (B' := B) (fun d Q => sd_Call.iff (fun Q hq => ?_) Q) (fun d Q => sd_Call.iff (fun Q hq => ?_) Q) ⟨⟨hAK, hOK, fun j hj => absurd hj (Nat.not_lt_zero _), fun q => absurd q (by decide), by omega, by rw [p15]; omega, fun j hj => absurd hj (by omega), fun q => absurd q (by omega)⟩, ⟨⟨?_, hC', ?_, ?_, ?_, hAK, hOK⟩, ?_, ⟨by omega, nx, hnx, ?_, ?_, fun j hj => absurd hj (Nat.not_lt_zero _)⟩, ?_, fun j hj => absurd hj (Nat.not_lt_zero _), ⟨by omega, ?_, fun q => absurd q (by decide)⟩, fun i hi => ?_⟩, ⟨⟨⟨u3, u4, fun p hp' => ?_, fun e' he => ?_, fun e' he => ?_, fun e' he j hj => ?_⟩, ?_, hMf.M hOK, hAK, hOK⟩, hMf, ⟨by omega, u6, fun j hj => absurd hj (Nat.not_lt_zero _)⟩, by omega, u7, fun q => absurd q (by decide)⟩, ?_, ?_, ?_, ?_, ?_, ?_⟩ (by omega)
    · have cs := fun Q => a3 (d + 59) Q (by omega)
      have z4 : (sd_wI σ1 1 1 (nI 0)).2.2 0 4 = some c := by
        show σ1.2.2 0 4 = some c
        rw [a1.2]
        exact hs.1.1
      have z5 : (sd_wI σ1 1 1 (nI 0)).2.2 0 5 = some (46 - c) := by
        show σ1.2.2 0 5 = some (46 - c)
        rw [a1.2]
        exact hs.2.1
      have cse : ∀ Q, sd_Call (sd_E1 L xs fm) (d + 59) y_X_settleIn [.ref 0] (sd_wI σ1 1 1 (nI 0)) Q ↔ Q (some (.int (nI (A' 0 0 0)))) σx := by
        intro Q
        refine sd_Call.iff (fun Q hq => ?_) Q
        have cf : ∀ (σ : sd_Mem) Q, sd_Call (sd_E1 L xs fm) (d + 58) y_Past_forget [.ref 38] σ Q ↔ Q none (sd_wI σ 38 2 (nI 0)) := by
          intro σ Q
          refine sd_Call.iff (fun Q hq => ?_) Q
          rw [sd_Call.start (ls := [.ref 38]) m_Past_forget (by decide) (Nat.le_of_ble_eq_true rfl) rfl]
          simp (disch := first | exact sd_cr | exact sd_ci | exact sd_cu | exact sd_cl9 | assumption | omega | exact t_259 | exact t_260 | exact t_261 | exact t_262 | exact t_263 | exact t_264 | exact t_254 | exact t_255 | exact t_256 | exact t_257 | exact t_266 | exact t_267 | exact t_268 | exact t_269 | exact t_270 | exact t_252 | exact t_240 | exact t_246 | exact t_2 | exact t_4 | exact t_5 | exact t_13 | exact t_14 | exact t_15 | exact t_16 | exact Or.inl t_39 | exact Or.inr t_7) only [z_Past_forget_0, z_Past_forget_1, z_Past_forget_2, z_Past_forget_5, false_and, and_false, if_true, if_false, Decidable.not_not, sd_ci, sd_cr, sd_cl9, sd_cu, sd_cat0, sd_cat1, sd_rfS, sd_n01, sd_n11, sd_n1, sd_n10, sd_n00, sd_b01, sd_b0, true_and, and_true, and_self, not_true_eq_false, not_false_eq_true, false_implies, true_implies, implies_true, or_true, true_or, or_false, false_or, Option.toList_some, Option.toList_none, List.cons_append, List.nil_append, Nat.reduceAdd, Nat.reduceLeDiff, h_0, h_1, t_2, n_2, h_3, t_4, n_4, t_5, n_5, h_6, t_7, n_7, t_8, n_8, t_9, n_9, t_10, n_10, t_11, n_11, t_12, n_12, t_13, n_13, t_14, n_14, t_15, n_15, t_16, n_16, h_17, h_18, t_19, n_19, t_20, n_20, t_21, n_21, t_22, n_22, h_28, t_29, n_29, t_30, n_30, t_31, n_31, t_32, n_32, h_38, t_39, n_39, t_240, n_240, t_246, n_246, t_252, n_252, h_253, t_254, n_254, t_255, n_255, t_256, n_256, t_257, n_257, h_258, t_259, n_259, t_260, n_260, t_261, n_261, t_262, n_262, t_263, n_263, t_264, n_264, h_265, t_266, n_266, t_267, n_267, t_268, n_268, t_269, n_269, t_270, n_270, r_0_0, r_0_1, r_0_2, r_0_3, r_0_6, r_0_7, r_0_8, r_0_9, r_0_11, r_0_12, r_0_13, r_0_14, r_0_15, r_1_0, r_3_0, r_3_1, r_3_2, r_6_0, r_6_1, r_6_4, r_6_5, r_6_7, r_7_0, r_7_1, r_7_2, r_7_3, r_7_4, r_17_0, r_17_1, r_18_1, r_18_2, r_18_3, r_18_4, r_18_6, r_28_1, r_28_2, r_28_3, r_28_4, r_28_6, r_38_0, r_253_0, r_253_1, r_253_2, r_253_3, r_258_0, r_258_1, r_258_3, r_258_4, r_258_6, r_258_8, r_265_0, r_265_1, r_265_3, r_265_4, r_265_5, r_0_4, r_0_5]
          exact hq
        have hk0 := (hC'.all (L := L) (xs := xs) (fm := fm)).1
        have zp : σx.1 (46 - c) 0 = nI (A' 0 0 0) := by rw [gx (46 - c) 0 (by omega) (by omega) (by omega) (by omega)]; exact hX'.2.1.1
        have z4' : σx.2.2 0 4 = some (46 - c) := by rw [x2]; rfl
        rw [hσx] at zp hq z4'
        rw [sd_Call.start (ls := [.ref 0, sd_un]) m_X_settleIn (by decide) (Nat.le_of_ble_eq_true rfl) rfl]
        simp (disch := first | exact sd_cr | exact sd_ci | exact sd_cu | exact sd_cl9 | assumption | omega | exact t_259 | exact t_260 | exact t_261 | exact t_262 | exact t_263 | exact t_264 | exact t_254 | exact t_255 | exact t_256 | exact t_257 | exact t_266 | exact t_267 | exact t_268 | exact t_269 | exact t_270 | exact t_252 | exact t_240 | exact t_246 | exact t_2 | exact t_4 | exact t_5 | exact t_13 | exact t_14 | exact t_15 | exact t_16 | exact Or.inl t_39 | exact Or.inr t_7) only [z_X_settleIn_0, z_X_settleIn_1, z_X_settleIn_4, z_X_settleIn_5, z_X_settleIn_6, z_X_settleIn_7, z_X_settleIn_10, z_X_settleIn_13, z_X_settleIn_14, z_X_settleIn_15, z_X_settleIn_18, z_X_settleIn_19, z_X_settleIn_22, z_X_settleIn_25, z_X_settleIn_26, z_X_settleIn_29, z_X_settleIn_30, z_X_settleIn_33, z_X_settleIn_34, z_X_settleIn_35, z_X_settleIn_38, z_X_settleIn_39, z_X_settleIn_42, z_X_settleIn_45, false_and, and_false, if_true, if_false, Decidable.not_not, sd_ci, sd_cr, sd_cl9, sd_cu, sd_cat0, sd_cat1, sd_rfS, sd_n01, sd_n11, sd_n1, sd_n10, sd_n00, sd_b01, sd_b0, true_and, and_true, and_self, not_true_eq_false, not_false_eq_true, false_implies, true_implies, implies_true, or_true, true_or, or_false, false_or, Option.toList_some, Option.toList_none, List.cons_append, List.nil_append, Nat.reduceAdd, Nat.reduceLeDiff, h_0, h_1, t_2, n_2, h_3, t_4, n_4, t_5, n_5, h_6, t_7, n_7, t_8, n_8, t_9, n_9, t_10, n_10, t_11, n_11, t_12, n_12, t_13, n_13, t_14, n_14, t_15, n_15, t_16, n_16, h_17, h_18, t_19, n_19, t_20, n_20, t_21, n_21, t_22, n_22, h_28, t_29, n_29, t_30, n_30, t_31, n_31, t_32, n_32, h_38, t_39, n_39, t_240, n_240, t_246, n_246, t_252, n_252, h_253, t_254, n_254, t_255, n_255, t_256, n_256, t_257, n_257, h_258, t_259, n_259, t_260, n_260, t_261, n_261, t_262, n_262, t_263, n_263, t_264, n_264, h_265, t_266, n_266, t_267, n_267, t_268, n_268, t_269, n_269, t_270, n_270, r_0_0, r_0_1, r_0_2, r_0_3, r_0_6, r_0_7, r_0_8, r_0_9, r_0_11, r_0_12, r_0_13, r_0_14, r_0_15, r_1_0, r_3_0, r_3_1, r_3_2, r_6_0, r_6_1, r_6_4, r_6_5, r_6_7, r_7_0, r_7_1, r_7_2, r_7_3, r_7_4, r_17_0, r_17_1, r_18_1, r_18_2, r_18_3, r_18_4, r_18_6, r_28_1, r_28_2, r_28_3, r_28_4, r_28_6, r_38_0, r_253_0, r_253_1, r_253_2, r_253_3, r_258_0, r_258_1, r_258_3, r_258_4, r_258_6, r_258_8, r_265_0, r_265_1, r_265_3, r_265_4, r_265_5, r_0_4, r_0_5, z4, z5, cf, hk0, z4', zp]
        exact ⟨rfl, rfl, hq⟩
      rw [sd_Call.start (ls := [.ref 0, .int (nI 0)]) m_X_text (by decide) (Nat.le_of_ble_eq_true rfl) rfl]
      simp (disch := first | exact sd_cr | exact sd_ci | exact sd_cu | exact sd_cl9 | assumption | omega | exact t_259 | exact t_260 | exact t_261 | exact t_262 | exact t_263 | exact t_264 | exact t_254 | exact t_255 | exact t_256 | exact t_257 | exact t_266 | exact t_267 | exact t_268 | exact t_269 | exact t_270 | exact t_252 | exact t_240 | exact t_246 | exact t_2 | exact t_4 | exact t_5 | exact t_13 | exact t_14 | exact t_15 | exact t_16 | exact Or.inl t_39 | exact Or.inr t_7) only [z_X_text_0, z_X_text_1, z_X_text_4, z_X_text_5, z_X_text_6, z_X_text_9, z_X_text_10, z_X_text_11, z_X_text_14, z_X_text_15, z_X_text_18, z_X_text_21, z_X_text_22, z_X_text_25, z_X_text_26, z_X_text_27, z_X_text_30, z_X_text_31, z_X_text_34, z_X_text_37, z_X_text_39, z_X_text_42, z_X_text_43, z_X_text_44, z_X_text_47, z_X_text_48, z_X_text_51, z_X_text_52, z_X_text_53, z_X_text_54, z_X_text_57, z_X_text_58, z_X_text_61, z_X_text_62, z_X_text_65, z_X_text_66, z_X_text_69, false_and, and_false, if_true, if_false, Decidable.not_not, sd_ci, sd_cr, sd_cl9, sd_cu, sd_cat0, sd_cat1, sd_rfS, sd_n01, sd_n11, sd_n1, sd_n10, sd_n00, sd_b01, sd_b0, true_and, and_true, and_self, not_true_eq_false, not_false_eq_true, false_implies, true_implies, implies_true, or_true, true_or, or_false, false_or, Option.toList_some, Option.toList_none, List.cons_append, List.nil_append, Nat.reduceAdd, Nat.reduceLeDiff, nz_sub, nz_lt0, nz_ge0, nz_le0, nz_gt0, nz_eq0, nz_eq1, nz_lt, nz_le, nz_eq, nz_cl, nz_in, nz_add, nz_mul, nz_m1, nz_m1', Nat.reduceMul, Nat.reduceSub, Nat.reduceLT, Nat.reduceEqDiff, not_false_eq_true, false_implies, true_implies, true_and, and_true, h_0, h_1, t_2, n_2, h_3, t_4, n_4, t_5, n_5, h_6, t_7, n_7, t_8, n_8, t_9, n_9, t_10, n_10, t_11, n_11, t_12, n_12, t_13, n_13, t_14, n_14, t_15, n_15, t_16, n_16, h_17, h_18, t_19, n_19, t_20, n_20, t_21, n_21, t_22, n_22, h_28, t_29, n_29, t_30, n_30, t_31, n_31, t_32, n_32, h_38, t_39, n_39, t_240, n_240, t_246, n_246, t_252, n_252, h_253, t_254, n_254, t_255, n_255, t_256, n_256, t_257, n_257, h_258, t_259, n_259, t_260, n_260, t_261, n_261, t_262, n_262, t_263, n_263, t_264, n_264, h_265, t_266, n_266, t_267, n_267, t_268, n_268, t_269, n_269, t_270, n_270, r_0_0, r_0_1, r_0_2, r_0_3, r_0_6, r_0_7, r_0_8, r_0_9, r_0_11, r_0_12, r_0_13, r_0_14, r_0_15, r_1_0, r_3_0, r_3_1, r_3_2, r_6_0, r_6_1, r_6_4, r_6_5, r_6_7, r_7_0, r_7_1, r_7_2, r_7_3, r_7_4, r_17_0, r_17_1, r_18_1, r_18_2, r_18_3, r_18_4, r_18_6, r_28_1, r_28_2, r_28_3, r_28_4, r_28_6, r_38_0, r_253_0, r_253_1, r_253_2, r_253_3, r_258_0, r_258_1, r_258_3, r_258_4, r_258_6, r_258_8, r_265_0, r_265_1, r_265_3, r_265_4, r_265_5, r_0_4, r_0_5, cs, cse]
      exact hq
    · have cs := fun Q => b4 (d + 59) Q (by omega)
      have nxx := u15 (d + 59) Q hq
      have e6 : σ2.1 271 6 = nI (U 0 0 0) := by rw [b1 271 6 (by omega) (by decide) (by decide) (by decide) (by decide) (by decide), wI_o (by decide), g1 271 (by decide)]; exact htM.1
      rw [sd_Call.start (ls := [.ref 271, .int (nI 0), sd_un, sd_un, sd_un]) m_M_text (by decide) (Nat.le_of_ble_eq_true rfl) rfl]
      simp (disch := first | exact sd_cr | exact sd_ci | exact sd_cu | exact sd_cl9 | assumption | omega | exact t_285 | exact t_283 | exact t_278 | exact t_281 | exact t_276 | exact t_274 | exact t_275 | exact t_277 | exact t_279 | exact t_280 | exact t_282 | exact t_284 | exact t_286 | exact t_287 | exact t_288 | exact t_289 | exact t_290 | exact t_291 | exact t_292 | exact t_293 | exact t_294 | exact t_295 | exact t_296 | exact t_297 | exact t_298 | exact t_299 | exact t_300) only [z_M_text_0, z_M_text_1, z_M_text_2, z_M_text_5, z_M_text_6, z_M_text_7, z_M_text_8, z_M_text_11, z_M_text_14, z_M_text_17, z_M_text_18, z_M_text_19, z_M_text_22, z_M_text_23, z_M_text_26, z_M_text_27, z_M_text_30, z_M_text_31, z_M_text_32, z_M_text_35, z_M_text_36, z_M_text_39, z_M_text_41, z_M_text_44, z_M_text_45, z_M_text_46, z_M_text_49, z_M_text_50, z_M_text_53, z_M_text_54, z_M_text_55, z_M_text_56, z_M_text_59, z_M_text_60, z_M_text_61, z_M_text_62, z_M_text_65, z_M_text_66, z_M_text_67, z_M_text_131, z_M_text_132, z_M_text_133, false_and, and_false, if_true, if_false, Decidable.not_not, sd_ci, sd_cr, sd_cl9, sd_cu, sd_cat0, sd_cat1, sd_rfS, sd_n01, sd_n11, sd_n1, sd_n10, sd_n00, sd_b01, sd_b0, true_and, and_true, and_self, not_true_eq_false, not_false_eq_true, false_implies, true_implies, implies_true, or_true, true_or, or_false, false_or, Option.toList_some, Option.toList_none, List.cons_append, List.nil_append, Nat.reduceAdd, Nat.reduceLeDiff, nz_sub, nz_lt0, nz_ge0, nz_le0, nz_gt0, nz_eq0, nz_eq1, nz_lt, nz_le, nz_eq, nz_cl, nz_in, nz_add, nz_mul, nz_m1, nz_m1', Nat.reduceMul, Nat.reduceSub, Nat.reduceLT, Nat.reduceEqDiff, not_false_eq_true, false_implies, true_implies, true_and, and_true, h_271, t_272, n_272, t_273, n_273, t_274, n_274, t_275, n_275, t_276, n_276, t_277, n_277, t_278, n_278, t_279, n_279, t_280, n_280, t_281, n_281, t_282, n_282, t_283, n_283, t_284, n_284, t_285, n_285, t_286, n_286, t_287, n_287, t_288, n_288, t_289, n_289, t_290, n_290, t_291, n_291, t_292, n_292, t_293, n_293, t_294, n_294, t_295, n_295, t_296, n_296, t_297, n_297, t_298, n_298, t_299, n_299, t_300, n_300, t_301, n_301, r_271_1, r_271_2, r_271_3, r_271_4, r_271_15, r_271_16, r_271_18, r_271_19, r_271_20, r_271_21, r_271_22, r_271_23, r_271_24, r_271_25, r_271_26, r_271_34, r_271_35, r_271_38, r_271_39, r_271_40, r_271_42, r_271_45, r_271_46, r_271_47, r_271_48, r_271_49, r_271_50, r_271_53, r_271_54, r_271_55, r_271_57, c_M_isIn, lz_i, li, li2, sd_bT trivial, cs, e6]
      exact nxx
    · rw [hs3 0 4 (by decide), x2]; rfl
    · exact hX'.2.1.fr (fun j hj => funext fun i => by rw [hlo _ i (by omega), gx _ i (by omega) (by omega) (by omega) (by omega)])
    · refine ⟨?_, fun r hr => ?_, fun r hr i hi => ?_, ?_, fun i hi => ?_, fun i hi => ?_, ?_⟩
      · rw [hsA 6 0 0 (by omega) (by omega), hlo 258 2 (by decide), gxx 258 2 (by omega) (by omega) (by omega) (by omega) (by omega) (by omega) (by omega)]; exact x1
      · rw [hsA 6 0 0 (by omega) (by omega)] at hr
        rw [hsA 7 r 0 (by omega) (by omega), hlo 260 r (by decide), gxx 260 r (by omega) (by omega) (by omega) (by omega) (by omega) (by omega) (by omega)]; exact x2' r hr
      · rw [hsA 6 0 0 (by omega) (by omega)] at hr
        rw [hsA 7 r 0 (by omega) (by omega)] at hi
        rw [hsA 8 r i (by omega) (by omega), hlo 259 _ (by decide), gxx 259 _ (by omega) (by omega) (by omega) (by omega) (by omega) (by omega) (by omega)]; exact x3 r hr i hi
      · rw [hsA9, hlo 258 5 (by decide)]; exact x258
      · rw [hsA9] at hi; omega
      · rw [hsA9] at hi; omega
      · rw [hsA 12 0 0 (by omega) (by omega), hlo 0 16 (by decide), gxx 0 16 (by omega) (by omega) (by omega) (by omega) (by omega) (by omega) (by omega)]; exact x7
    · exact hX'.2.2.1.fr (fun j hj => funext fun i => by rw [hlo _ i (by omega), gx _ i (by omega) (by omega) (by omega) (by omega)])
    · rw [hs3 0 5 (by decide), x2, h46]; rfl
    · rw [hlo 38 1 (by decide), gxx 38 1 (by omega) (by omega) (by omega) (by omega) (by omega) (by omega) (by omega)]; exact n1
    · rw [hlo 38 2 (by decide)]; exact x38
    · intro i hi
      rw [p15] at hi
      exact absurd (show i < 0 from hi) (Nat.not_lt_zero _)
    · rw [hlo 0 10 (by decide)]; exact x010
    · rw [hlo 270 i (by decide), gxx 270 i (by omega) (by omega) (by omega) (by omega) (by omega) (by omega) (by omega)]; exact hs.2.2.2.2.2.2 i hi
    · rw [u8 (15 * p) (by omega), wv 277 _ (by decide)]; exact (m277 p hp').1
    · rw [u9 (2 * e') (by omega), wv 279 _ (by decide)]; exact (m279 e' he).1
    · rw [u9 (2 * e' + 1) (by omega), wv 279 _ (by decide)]; exact (m279 e' he).2
    · rw [u10 (4 * e' + j) (by omega), wv 282 _ (by decide)]; exact m282 e' he j hj
    · refine ⟨?_, fun r hr => ?_, fun r hr i hi => ?_, ?_, fun i hi => ?_, fun i hi => ?_, ?_⟩
      · rw [hsA 6 0 0 (by omega) (by omega), h71 29 (by omega)]; exact y1
      · rw [hsA 6 0 0 (by omega) (by omega)] at hr
        rw [hsA 7 r 0 (by omega) (by omega), hhi 283 _ (by decide) (by decide) (by decide) (by decide) (by decide) (by decide) (by decide) (by decide) (by decide) (by decide)]; exact y2 r hr
      · rw [hsA 6 0 0 (by omega) (by omega)] at hr
        rw [hsA 7 r 0 (by omega) (by omega)] at hi
        rw [hsA 8 r i (by omega) (by omega), hhi 283 _ (by decide) (by decide) (by decide) (by decide) (by decide) (by decide) (by decide) (by decide) (by decide) (by decide)]; exact y3 r hr i hi
      · rw [hsA9]; exact u5
      · rw [hsA9] at hi; omega
      · rw [hsA9] at hi; omega
      · rw [hsA 12 0 0 (by omega) (by omega), h71 37 (by omega)]; exact y7
    · obtain ⟨w1, w2, w3, w4, w5, w6, w7⟩ := hU
      exact ⟨by rw [uU0]; omega, fun i => by rw [uU 1 i 0 (by omega)]; exact w2 i, by rw [uU 2 0 0 (by omega)]; exact w3, by rw [uU 2 0 0 (by omega), uU 3 0 0 (by omega)]; exact w4, fun t => by rw [uU 4 t 0 (by omega), uU 6 t 0 (by omega)]; exact w5 t, fun t i => by rw [uU 5 t i (by omega)]; exact w6 t i, fun t i => by rw [uU 7 t i (by omega)]; exact w7 t i⟩
    · refine ⟨?_, fun i hi => ?_⟩
      · rw [uU0, hlo 1 1 (by decide)]; exact x11
      · rw [uU0] at hi
        omega
    · have hU4 := hU.2.2.1
      refine (hvX.u (U' := sw_set U 0 0 0 0) (fun a b c h => uU a b c (by omega))).fr (fun j hj => ?_) (fun k h1 h2 => funext fun j => ?_) (by rw [uU 2 0 0 (by omega)]; exact hU.2.2.1)
      · rw [hlo 6 j (by decide), gxx 6 j (by omega) (by omega) (by omega) (by omega) (by omega) (by omega) (by omega)]
      · rw [hlo k j (by omega), gxx k j (by omega) (by omega) (by omega) (by omega) (by omega) (by omega) (by omega)]
    · refine ⟨?_, fun i hi => ?_⟩
      · rw [uU0, u1 271 6 (by omega) (by decide) (by decide) (by decide) (by decide), wI_k]
      · rw [uU0] at hi
        omega
    · refine hvM.u (fun a b c h => uU a b c (by omega)) ?_ ?_ (fun k hk => funext fun j => ?_)
      · rw [uU 3 0 0 (by omega), h71 36 (by omega)]
        exact hvM.2.1
      · exact h71 7 (by omega)
      · exact hhi k j (by omega) (by omega) (by omega) (by omega) (by omega) (by omega) (by omega) (by omega) (by omega) (by omega)
    · exact hvT.u (fun a b c h => uU a b c (by omega))
theorem s_text (x : Int32) : sw_step L xs fm 60 y_X_text y_M_text [.int x] := by
  rcases k_sort x with h | rfl | rfl | rfl
  · intro B σ c A W T V im I U hB hI
    refine sw_Inv_step (r := -1) (σ1 := σ) (σ2 := sd_wI σ 271 0 (nI 0)) (B' := B) (fun d Q => sd_Call.iff (fun Q hq => ?_) Q) (fun d Q => sd_Call.iff (fun Q hq => ?_) Q) (hI.p σ rfl rfl) (by omega)
    · rw [sd_Call.start (ls := [.ref 0, .int x]) m_X_text (by decide) (Nat.le_of_ble_eq_true rfl) rfl]
      by_cases q : x < 0
      · simp (disch := first | exact sd_cr | exact sd_ci | exact sd_cu | exact sd_cl9 | assumption | omega | exact t_259 | exact t_260 | exact t_261 | exact t_262 | exact t_263 | exact t_264 | exact t_254 | exact t_255 | exact t_256 | exact t_257 | exact t_266 | exact t_267 | exact t_268 | exact t_269 | exact t_270 | exact t_252 | exact t_240 | exact t_246 | exact t_2 | exact t_4 | exact t_5 | exact t_13 | exact t_14 | exact t_15 | exact t_16 | exact Or.inl t_39 | exact Or.inr t_7) only [z_X_text_0, z_X_text_1, z_X_text_51, z_X_text_52, false_and, and_false, if_true, if_false, Decidable.not_not, sd_ci, sd_cr, sd_cl9, sd_cu, sd_cat0, sd_cat1, sd_rfS, sd_n01, sd_n11, sd_n1, sd_n10, sd_n00, sd_b01, sd_b0, true_and, and_true, and_self, not_true_eq_false, not_false_eq_true, false_implies, true_implies, implies_true, or_true, true_or, or_false, false_or, Option.toList_some, Option.toList_none, List.cons_append, List.nil_append, Nat.reduceAdd, Nat.reduceLeDiff, q]
        exact hq
      · have q2 : nI 2 < x := by
          rcases h with h | h
          · exact absurd (Int32.lt_iff_toInt_lt.mpr h) q
          · exact Int32.lt_iff_toInt_lt.mpr h
        simp (disch := first | exact sd_cr | exact sd_ci | exact sd_cu | exact sd_cl9 | assumption | omega | exact t_259 | exact t_260 | exact t_261 | exact t_262 | exact t_263 | exact t_264 | exact t_254 | exact t_255 | exact t_256 | exact t_257 | exact t_266 | exact t_267 | exact t_268 | exact t_269 | exact t_270 | exact t_252 | exact t_240 | exact t_246 | exact t_2 | exact t_4 | exact t_5 | exact t_13 | exact t_14 | exact t_15 | exact t_16 | exact Or.inl t_39 | exact Or.inr t_7) only [z_X_text_0, z_X_text_1, z_X_text_4, z_X_text_5, z_X_text_6, z_X_text_51, z_X_text_52, false_and, and_false, if_true, if_false, Decidable.not_not, sd_ci, sd_cr, sd_cl9, sd_cu, sd_cat0, sd_cat1, sd_rfS, sd_n01, sd_n11, sd_n1, sd_n10, sd_n00, sd_b01, sd_b0, true_and, and_true, and_self, not_true_eq_false, not_false_eq_true, false_implies, true_implies, implies_true, or_true, true_or, or_false, false_or, Option.toList_some, Option.toList_none, List.cons_append, List.nil_append, Nat.reduceAdd, Nat.reduceLeDiff, q, q2]
        exact hq
    · rw [sd_Call.start (ls := [.ref 271, .int x, sd_un, sd_un, sd_un]) m_M_text (by decide) (Nat.le_of_ble_eq_true rfl) rfl]
      simp (disch := first | exact sd_cr | exact sd_ci | exact sd_cu | exact sd_cl9 | assumption | omega | exact t_285 | exact t_283 | exact t_278 | exact t_281 | exact t_276 | exact t_274 | exact t_275 | exact t_277 | exact t_279 | exact t_280 | exact t_282 | exact t_284 | exact t_286 | exact t_287 | exact t_288 | exact t_289 | exact t_290 | exact t_291 | exact t_292 | exact t_293 | exact t_294 | exact t_295 | exact t_296 | exact t_297 | exact t_298 | exact t_299 | exact t_300) only [z_M_text_0, z_M_text_1, z_M_text_2, z_M_text_5, z_M_text_6, z_M_text_7, z_M_text_8, z_M_text_11, z_M_text_14, z_M_text_53, z_M_text_54, false_and, and_false, if_true, if_false, Decidable.not_not, sd_ci, sd_cr, sd_cl9, sd_cu, sd_cat0, sd_cat1, sd_rfS, sd_n01, sd_n11, sd_n1, sd_n10, sd_n00, sd_b01, sd_b0, true_and, and_true, and_self, not_true_eq_false, not_false_eq_true, false_implies, true_implies, implies_true, or_true, true_or, or_false, false_or, Option.toList_some, Option.toList_none, List.cons_append, List.nil_append, Nat.reduceAdd, Nat.reduceLeDiff, nz_sub, nz_lt0, nz_ge0, nz_le0, nz_gt0, nz_eq0, nz_eq1, nz_lt, nz_le, nz_eq, nz_cl, nz_in, nz_add, nz_mul, nz_m1, nz_m1', Nat.reduceMul, Nat.reduceSub, Nat.reduceLT, Nat.reduceEqDiff, not_false_eq_true, false_implies, true_implies, true_and, and_true, h_271, t_272, n_272, t_273, n_273, t_274, n_274, t_275, n_275, t_276, n_276, t_277, n_277, t_278, n_278, t_279, n_279, t_280, n_280, t_281, n_281, t_282, n_282, t_283, n_283, t_284, n_284, t_285, n_285, t_286, n_286, t_287, n_287, t_288, n_288, t_289, n_289, t_290, n_290, t_291, n_291, t_292, n_292, t_293, n_293, t_294, n_294, t_295, n_295, t_296, n_296, t_297, n_297, t_298, n_298, t_299, n_299, t_300, n_300, t_301, n_301, r_271_1, r_271_2, r_271_3, r_271_4, r_271_15, r_271_16, r_271_18, r_271_19, r_271_20, r_271_21, r_271_22, r_271_23, r_271_24, r_271_25, r_271_26, r_271_34, r_271_35, r_271_38, r_271_39, r_271_40, r_271_42, r_271_45, r_271_46, r_271_47, r_271_48, r_271_49, r_271_50, r_271_53, r_271_54, r_271_55, r_271_57, c_M_isIn, sd_bF (k_sortI h)]
      exact hq
  · exact s_text0
  · exact s_text1
  · exact s_text2
end SDCF
