/-! clauses of a country: a person -/
def ct_A0 (A : sw_T) (x : Nat) : sw_T := fun i j k => if i = 0 ∧ j = 0 ∧ k = 0 then A 0 0 0 + 1 else if i = 1 ∧ j = A 0 0 0 ∧ k = 0 then x else A i j k
def ct_W0 (W : sw_T) (p : Nat) (l : List Nat) (y : Nat) : sw_T := fun i j k => if i = 2 ∧ j = p ∧ k = 0 then l.length else if i = 3 ∧ j = p ∧ k = 0 then y else if i = 4 ∧ j = p then l.getD k 0 else W i j k
section SDCA
variable {L : Nat} {xs : Nat → Int32} {fm : Option Nat} {b : Nat → Nat} {n a c s dn : Nat} {A W : sw_T} {σ : sd_Mem} {l : List Nat} {p x y : Nat}
theorem ct_A0_0 : ct_A0 A x 0 0 0 = A 0 0 0 + 1 := if_pos ⟨rfl, rfl, rfl⟩
theorem ct_A0_o {i j k : Nat} (h : i ≠ 0 ∧ i ≠ 1) : ct_A0 A x i j k = A i j k := by
  unfold ct_A0
  rw [if_neg (by omega), if_neg (by omega)]
theorem ct_A0_1 {j : Nat} : ct_A0 A x 1 j 0 = if j = A 0 0 0 then x else A 1 j 0 := by
  unfold ct_A0
  rw [if_neg (by omega)]
  by_cases q : j = A 0 0 0
  · rw [if_pos ⟨rfl, q, rfl⟩, if_pos q]
  · rw [if_neg (fun r => q r.2.1), if_neg q]
theorem ct_W0_o {i j k : Nat} (h : i ≠ 2 ∧ i ≠ 3 ∧ i ≠ 4) : ct_W0 W p l y i j k = W i j k := by
  unfold ct_W0
  rw [if_neg (by omega), if_neg (by omega), if_neg (by omega)]
theorem ct_W0_2 {j : Nat} : ct_W0 W p l y 2 j 0 = if j = p then l.length else W 2 j 0 := by
  unfold ct_W0
  by_cases q : j = p
  · rw [if_pos ⟨rfl, q, rfl⟩, if_pos q]
  · rw [if_neg (fun r => q r.2.1), if_neg (by omega), if_neg (by omega), if_neg q]
theorem ct_W0_3 {j : Nat} : ct_W0 W p l y 3 j 0 = if j = p then y else W 3 j 0 := by
  unfold ct_W0
  rw [if_neg (by omega)]
  by_cases q : j = p
  · rw [if_pos ⟨rfl, q, rfl⟩, if_pos q]
  · rw [if_neg (fun r => q r.2.1), if_neg (by omega), if_neg q]
theorem ct_W0_4 {j k : Nat} : ct_W0 W p l y 4 j k = if j = p then l.getD k 0 else W 4 j k := by
  unfold ct_W0
  rw [if_neg (by omega), if_neg (by omega)]
  by_cases q : j = p
  · rw [if_pos ⟨rfl, q⟩, if_pos q]
  · rw [if_neg (fun r => q r.2), if_neg q]
theorem rw_e_mono : ∀ f a, a ≤ n → a ≤ (rw_e b n f a).1 := by
  intro f
  induction f with
  | zero => intro a h; exact (tp_ps_le h).1
  | succ f ih =>
    intro a h
    have := tp_ps_le (b := b) h
    rw [rw_e]
    split
    · rename_i hL
      have := ih (tp_ps b n a + 1) (by have := hL.1; omega)
      show a ≤ (rw_e b n f (tp_ps b n a + 1)).1
      omega
    · exact this.1
theorem ct_cl0 (hn : n ≤ 240) (hb : ∀ i, i < n → b i < 256) (ha : a ≤ n) (hP : ct_P A W dn) (hC : sd_isC c) (hp : tk_T b n a 112) (hcn : A 0 0 0 < 5) : ∃ e r, ct_C L xs fm b n c a A W dn e r := by
  have hpl := tp_ps_le (b := b) ha
  have hpn := hp.1
  obtain ⟨e, r, x, m, p1, p2, p3⟩ := ct_items (L := L) (xs := xs) (fm := fm) (s := 0) (by decide) hn hb (show tp_ps b n a + 1 ≤ n by omega)
  obtain ⟨q1, q2, q3, q4, q5, q6, q7, q8, q9, q10, q11, q12, q13, q14, q15⟩ := id hP
  have hcc := hC.2.2.2.2.2.2.2.2.2.2.2
  have hitM : ∀ σ o, tp_M σ 272 o b n a → σ.1 271 11 = -1 → ct_M σ A W dn → ∃ σ2, (∀ e' j, ¬ (e' = 271 ∧ (j = 10 ∨ j = 11 ∨ j = 30)) → ¬ (e' = 277 ∧ 15 * A 0 0 0 ≤ j ∧ j < 15 * A 0 0 0 + 2) → σ2.1 e' j = σ.1 e' j) ∧ σ2.2 = σ.2 ∧ σ2.1 271 30 = nI (A 0 0 0 + 1) ∧ (r = none → σ2.1 271 11 = nI e) ∧ (∀ v', r = some v' → tp_M σ2 272 o b n e ∧ σ2.1 271 11 = -1 ∧ ∀ k, k < 2 → σ2.1 277 (15 * A 0 0 0 + k) = nI (v' k)) ∧ ∀ d Q, 8 ≤ d → sd_Go (sd_E1 L xs fm) d y_M_readClause 127 [.ref 271, .int (nI 112), .int (nI 1), .int (nI (15 * A 0 0 0))] [] σ2 Q → sd_Go (sd_E1 L xs fm) d y_M_readClause 0 [.ref 271, sd_un, sd_un, sd_un] [] σ Q := by
    intro σ o h hf hM
    have h1 := h.at (a' := tp_ps b n a + 1) (by omega)
    have h2 : tp_M (sd_wI (sd_wI σ 271 10 (nI (tp_ps b n a + 1))) 271 30 (nI (A 0 0 0 + 1))) 272 o b n (tp_ps b n a + 1) := h1.fr (fun j hj => wI_o (by omega)) (fun j => by rw [wI_c (by decide)]) rfl
    have hnt : tx_n (1 + 0) = 2 := rfl
    obtain ⟨σ2, y1, y2, y3, y4, y5⟩ := m _ 272 o 277 (15 * A 0 0 0) h2 (by rw [wI_o (by decide), wI_o (by decide)]; exact hf) t_277 (by rw [n_277, hnt]; omega) (by omega) (by decide) (by decide)
    rw [hnt] at y1 y4
    refine ⟨σ2, fun e' j z1 z2 => ?_, y2, ?_, y3, y4, fun d Q hd hq => ?_⟩
    · rw [y1 e' j (by omega) z2, wI_1, if_neg (by omega), wI_1, if_neg (by omega)]
    · rw [y1 271 30 (by omega) (by omega), wI_k]
    · refine ct_preM (s := 0) h hM hb (by decide) hp hcn (by omega) ?_
      rw [if_pos rfl, tx_b0]
      have e31 : (sd_wI σ 271 10 (nI (tp_ps b n a + 1))).1 271 30 = nI (A 0 0 0) := by rw [wI_o (by decide)]; exact hM.1
      have cr : ∀ Q, sd_Call (sd_E1 L xs fm) d y_M_readItems [.ref 271, .int (nI 112), .ref 277, .int (nI (15 * A 0 0 0)), .ref 411] (sd_wI (sd_wI σ 271 10 (nI (tp_ps b n a + 1))) 271 30 (nI (A 0 0 0 + 1))) Q ↔ Q none σ2 := fun Q => y5 d Q (by omega)
      simp (disch := first | exact sd_cr | exact sd_ci | exact sd_cu | exact sd_cl9 | assumption | omega | exact t_285 | exact t_283 | exact t_278 | exact t_281 | exact t_276 | exact t_274 | exact t_275 | exact t_277 | exact t_279 | exact t_280 | exact t_282 | exact t_284 | exact t_286 | exact t_287 | exact t_288 | exact t_289 | exact t_290 | exact t_291 | exact t_292 | exact t_293 | exact t_294 | exact t_295 | exact t_296 | exact t_297 | exact t_298 | exact t_299 | exact t_300) only [z_M_readClause_96, z_M_readClause_98, z_M_readClause_99, z_M_readClause_102, z_M_readClause_103, z_M_readClause_104, z_M_readClause_105, z_M_readClause_106, z_M_readClause_109, z_M_readClause_110, z_M_readClause_111, z_M_readClause_114, z_M_readClause_115, z_M_readClause_116, z_M_readClause_117, z_M_readClause_120, z_M_readClause_121, z_M_readClause_124, false_and, and_false, if_true, if_false, Decidable.not_not, sd_ci, sd_cr, sd_cl9, sd_cu, sd_cat0, sd_cat1, sd_rfS, sd_n01, sd_n11, sd_n1, sd_n10, sd_n00, sd_b01, sd_b0, true_and, and_true, and_self, not_true_eq_false, not_false_eq_true, false_implies, true_implies, implies_true, or_true, true_or, or_false, false_or, Option.toList_some, Option.toList_none, List.cons_append, List.nil_append, Nat.reduceAdd, Nat.reduceLeDiff, nz_sub, nz_lt0, nz_ge0, nz_le0, nz_gt0, nz_eq0, nz_eq1, nz_lt, nz_le, nz_eq, nz_cl, nz_in, nz_add, nz_mul, nz_m1, nz_m1', Nat.reduceMul, Nat.reduceSub, Nat.reduceLT, Nat.reduceEqDiff, not_false_eq_true, false_implies, true_implies, true_and, and_true, h_271, t_272, n_272, t_273, n_273, t_274, n_274, t_275, n_275, t_276, n_276, t_277, n_277, t_278, n_278, t_279, n_279, t_280, n_280, t_281, n_281, t_282, n_282, t_283, n_283, t_284, n_284, t_285, n_285, t_286, n_286, t_287, n_287, t_288, n_288, t_289, n_289, t_290, n_290, t_291, n_291, t_292, n_292, t_293, n_293, t_294, n_294, t_295, n_295, t_296, n_296, t_297, n_297, t_298, n_298, t_299, n_299, t_300, n_300, t_301, n_301, r_271_1, r_271_2, r_271_3, r_271_4, r_271_15, r_271_16, r_271_18, r_271_19, r_271_20, r_271_21, r_271_22, r_271_23, r_271_24, r_271_25, r_271_26, r_271_34, r_271_35, r_271_38, r_271_39, r_271_40, r_271_42, r_271_45, r_271_46, r_271_47, r_271_48, r_271_49, r_271_50, r_271_53, r_271_54, r_271_55, r_271_57, e31, cr]
      exact hq
  cases r with
  | none =>
    refine ⟨e, none, ?_, ?_, by omega, p2, fun _ _ _ q => by cases q⟩
    · intro σ h hX
      obtain ⟨σ2, y1, y2, y3, y4, y5⟩ := x _ (ct_s1_X (s := 0) (cn := A 0 0 0) h hpn)
      refine ⟨σ2, ⟨fun e' j z1 z2 z3 z4 => ?_, y2⟩, y3, fun _ _ _ q => (by cases q), fun D Q hD => ?_⟩
      · rw [y1 e' j z1 z2, ct_s1_o z1 (fun q => z3 q.1)]
      · obtain ⟨d, rfl⟩ : ∃ d, D = d + 1 := ⟨D - 1, by omega⟩
        refine sd_Call.iff (fun Q hq => ?_) Q
        rw [sd_Call.start (ls := [.ref 3, .ref c, sd_un, sd_un]) m_CountryReader_readClause (by decide) (Nat.le_of_ble_eq_true rfl) rfl]
        refine ct_preX (s := 0) h hX hb (by decide) hp hcn (by omega) ((y5 d _ (by omega)).mpr ?_)
        simp (disch := first | exact sd_cr | exact sd_ci | exact sd_cu | exact sd_cl9 | assumption | omega | exact t_259 | exact t_260 | exact t_261 | exact t_262 | exact t_263 | exact t_264 | exact t_254 | exact t_255 | exact t_256 | exact t_257 | exact t_266 | exact t_267 | exact t_268 | exact t_269 | exact t_270 | exact t_252 | exact t_240 | exact t_246 | exact t_2 | exact t_4 | exact t_5 | exact t_13 | exact t_14 | exact t_15 | exact t_16 | exact Or.inl t_39 | exact Or.inr t_7) only [z_CountryReader_readClause_78, z_CountryReader_readClause_81, z_CountryReader_readClause_82, false_and, and_false, if_true, if_false, Decidable.not_not, sd_ci, sd_cr, sd_cl9, sd_cu, sd_cat0, sd_cat1, sd_rfS, sd_n01, sd_n11, sd_n1, sd_n10, sd_n00, sd_b01, sd_b0, true_and, and_true, and_self, not_true_eq_false, not_false_eq_true, false_implies, true_implies, implies_true, or_true, true_or, or_false, false_or, Option.toList_some, Option.toList_none, List.cons_append, List.nil_append, Nat.reduceAdd, Nat.reduceLeDiff, nz_sub, nz_lt0, nz_ge0, nz_le0, nz_gt0, nz_eq0, nz_eq1, nz_lt, nz_le, nz_eq, nz_cl, nz_in, nz_add, nz_mul, nz_m1, nz_m1', Nat.reduceMul, Nat.reduceSub, Nat.reduceLT, Nat.reduceEqDiff, not_false_eq_true, false_implies, true_implies, true_and, and_true, Option.isSome_none, Bool.false_eq_true, sd_bF not_false]
        exact hq
    · intro σ o h hf hM
      obtain ⟨σ2, y1, y2, y3, y4, y5, y6⟩ := hitM σ o h hf hM
      have y4 := y4 rfl
      refine ⟨σ2, ⟨fun e' j z1 z2 z3 z4 z5 z6 => y1 e' j (by omega) (by omega), y2⟩, fun _ => y4, fun _ _ _ q => (by cases q), fun D Q hD => ?_⟩
      obtain ⟨d, rfl⟩ : ∃ d, D = d + 1 := ⟨D - 1, by omega⟩
      refine sd_Call.iff (fun Q hq => ?_) Q
      rw [sd_Call.start (ls := [.ref 271, sd_un, sd_un, sd_un]) m_M_readClause (by decide) (Nat.le_of_ble_eq_true rfl) rfl]
      refine y6 d Q (by omega) ?_
      simp (disch := first | exact sd_cr | exact sd_ci | exact sd_cu | exact sd_cl9 | assumption | omega | exact t_285 | exact t_283 | exact t_278 | exact t_281 | exact t_276 | exact t_274 | exact t_275 | exact t_277 | exact t_279 | exact t_280 | exact t_282 | exact t_284 | exact t_286 | exact t_287 | exact t_288 | exact t_289 | exact t_290 | exact t_291 | exact t_292 | exact t_293 | exact t_294 | exact t_295 | exact t_296 | exact t_297 | exact t_298 | exact t_299 | exact t_300) only [z_M_readClause_127, z_M_readClause_128, z_M_readClause_131, z_M_readClause_132, z_M_readClause_135, false_and, and_false, if_true, if_false, Decidable.not_not, sd_ci, sd_cr, sd_cl9, sd_cu, sd_cat0, sd_cat1, sd_rfS, sd_n01, sd_n11, sd_n1, sd_n10, sd_n00, sd_b01, sd_b0, true_and, and_true, and_self, not_true_eq_false, not_false_eq_true, false_implies, true_implies, implies_true, or_true, true_or, or_false, false_or, Option.toList_some, Option.toList_none, List.cons_append, List.nil_append, Nat.reduceAdd, Nat.reduceLeDiff, nz_sub, nz_lt0, nz_ge0, nz_le0, nz_gt0, nz_eq0, nz_eq1, nz_lt, nz_le, nz_eq, nz_cl, nz_in, nz_add, nz_mul, nz_m1, nz_m1', Nat.reduceMul, Nat.reduceSub, Nat.reduceLT, Nat.reduceEqDiff, not_false_eq_true, false_implies, true_implies, true_and, and_true, h_271, t_272, n_272, t_273, n_273, t_274, n_274, t_275, n_275, t_276, n_276, t_277, n_277, t_278, n_278, t_279, n_279, t_280, n_280, t_281, n_281, t_282, n_282, t_283, n_283, t_284, n_284, t_285, n_285, t_286, n_286, t_287, n_287, t_288, n_288, t_289, n_289, t_290, n_290, t_291, n_291, t_292, n_292, t_293, n_293, t_294, n_294, t_295, n_295, t_296, n_296, t_297, n_297, t_298, n_298, t_299, n_299, t_300, n_300, t_301, n_301, r_271_1, r_271_2, r_271_3, r_271_4, r_271_15, r_271_16, r_271_18, r_271_19, r_271_20, r_271_21, r_271_22, r_271_23, r_271_24, r_271_25, r_271_26, r_271_34, r_271_35, r_271_38, r_271_39, r_271_40, r_271_42, r_271_45, r_271_46, r_271_47, r_271_48, r_271_49, r_271_50, r_271_53, r_271_54, r_271_55, r_271_57, y4]
      exact hq
  | some v =>
    have hv := p3 v rfl
    have v0 : v 0 ≤ 8 := hv 0 (by decide)
    have v1 : v 1 ≤ 9 := hv 1 (by decide)
    have hte := tk_e_le (b := b) (c := 58) p2
    have hXc : ∀ σ, tp_X σ b n a → ct_X σ c A W dn → ∃ σ2, (∀ e' j, ¬ (e' = 1 ∧ j = 2) → e' ≠ 4 → ¬ (e' = 5 ∧ j = 0) → σ2.1 e' j = σ.1 e' j) ∧ σ2.1 5 0 = nI (A 0 0 0 + 1) ∧ σ2.2 = σ.2 ∧ tp_X σ2 b n e ∧ (∀ k, k < 6 → σ2.1 4 k = nI (v k)) ∧ ∀ d Q, 8 ≤ d → (∃ w σ3, (w = nI 0 ∨ w = nI 1) ∧ Q (some (.int w)) σ3 ∧ ∀ Q, (sd_Call (sd_E1 L xs fm) d y_CountryReader_readPerson [.ref 3, .ref c] σ2 Q ↔ Q (some (.int w)) σ3)) → sd_Go (sd_E1 L xs fm) d y_CountryReader_readClause 0 [.ref 3, .ref c, sd_un, sd_un] [] σ Q := by
      intro σ h hX
      obtain ⟨σ2, y1, y2, y3, y4, y5⟩ := x _ (ct_s1_X (s := 0) (cn := A 0 0 0) h hpn)
      refine ⟨σ2, fun e' j z1 z2 z3 => by rw [y1 e' j z1 z2, ct_s1_o z1 z3], by rw [y1 5 0 (by omega) (by omega)]; exact ct_s1_5, y2, y3, y4 v rfl, fun d Q hd ⟨w, σ3, hw, hq, cr⟩ => ?_⟩
      refine ct_preX (s := 0) h hX hb (by decide) hp hcn (by omega) ((y5 d _ (by omega)).mpr ?_)
      have k0 := (hC.all (L := L) (xs := xs) (fm := fm)).1
      rcases hw with q | q
      · rw [q] at hq cr
        simp (disch := first | exact sd_cr | exact sd_ci | exact sd_cu | exact sd_cl9 | assumption | omega | exact t_259 | exact t_260 | exact t_261 | exact t_262 | exact t_263 | exact t_264 | exact t_254 | exact t_255 | exact t_256 | exact t_257 | exact t_266 | exact t_267 | exact t_268 | exact t_269 | exact t_270 | exact t_252 | exact t_240 | exact t_246 | exact t_2 | exact t_4 | exact t_5 | exact t_13 | exact t_14 | exact t_15 | exact t_16 | exact Or.inl t_39 | exact Or.inr t_7) only [z_CountryReader_readClause_78, z_CountryReader_readClause_81, z_CountryReader_readClause_82, z_CountryReader_readClause_83, z_CountryReader_readClause_84_0, z_CountryReader_readClause_84_1, z_CountryReader_readClause_84_2, z_CountryReader_readClause_112, z_CountryReader_readClause_113, z_CountryReader_readClause_114, z_CountryReader_readClause_117, false_and, and_false, if_true, if_false, Decidable.not_not, sd_ci, sd_cr, sd_cl9, sd_cu, sd_cat0, sd_cat1, sd_rfS, sd_n01, sd_n11, sd_n1, sd_n10, sd_n00, sd_b01, sd_b0, true_and, and_true, and_self, not_true_eq_false, not_false_eq_true, false_implies, true_implies, implies_true, or_true, true_or, or_false, false_or, Option.toList_some, Option.toList_none, List.cons_append, List.nil_append, Nat.reduceAdd, Nat.reduceLeDiff, nz_sub, nz_lt0, nz_ge0, nz_le0, nz_gt0, nz_eq0, nz_eq1, nz_lt, nz_le, nz_eq, nz_cl, nz_in, nz_add, nz_mul, nz_m1, nz_m1', Nat.reduceMul, Nat.reduceSub, Nat.reduceLT, Nat.reduceEqDiff, not_false_eq_true, false_implies, true_implies, true_and, and_true, h_0, h_1, t_2, n_2, h_3, t_4, n_4, t_5, n_5, h_6, t_7, n_7, t_8, n_8, t_9, n_9, t_10, n_10, t_11, n_11, t_12, n_12, t_13, n_13, t_14, n_14, t_15, n_15, t_16, n_16, h_17, h_18, t_19, n_19, t_20, n_20, t_21, n_21, t_22, n_22, h_28, t_29, n_29, t_30, n_30, t_31, n_31, t_32, n_32, h_38, t_39, n_39, t_240, n_240, t_246, n_246, t_252, n_252, h_253, t_254, n_254, t_255, n_255, t_256, n_256, t_257, n_257, h_258, t_259, n_259, t_260, n_260, t_261, n_261, t_262, n_262, t_263, n_263, t_264, n_264, h_265, t_266, n_266, t_267, n_267, t_268, n_268, t_269, n_269, t_270, n_270, r_0_0, r_0_1, r_0_2, r_0_3, r_0_6, r_0_7, r_0_8, r_0_9, r_0_11, r_0_12, r_0_13, r_0_14, r_0_15, r_1_0, r_3_0, r_3_1, r_3_2, r_6_0, r_6_1, r_6_4, r_6_5, r_6_7, r_7_0, r_7_1, r_7_2, r_7_3, r_7_4, r_17_0, r_17_1, r_18_1, r_18_2, r_18_3, r_18_4, r_18_6, r_28_1, r_28_2, r_28_3, r_28_4, r_28_6, r_38_0, r_253_0, r_253_1, r_253_2, r_253_3, r_258_0, r_258_1, r_258_3, r_258_4, r_258_6, r_258_8, r_265_0, r_265_1, r_265_3, r_265_4, r_265_5, r_0_4, r_0_5, k0, cr, Option.isSome_some, sd_bT trivial]
        exact hq
      · rw [q] at hq cr
        simp (disch := first | exact sd_cr | exact sd_ci | exact sd_cu | exact sd_cl9 | assumption | omega | exact t_259 | exact t_260 | exact t_261 | exact t_262 | exact t_263 | exact t_264 | exact t_254 | exact t_255 | exact t_256 | exact t_257 | exact t_266 | exact t_267 | exact t_268 | exact t_269 | exact t_270 | exact t_252 | exact t_240 | exact t_246 | exact t_2 | exact t_4 | exact t_5 | exact t_13 | exact t_14 | exact t_15 | exact t_16 | exact Or.inl t_39 | exact Or.inr t_7) only [z_CountryReader_readClause_78, z_CountryReader_readClause_81, z_CountryReader_readClause_82, z_CountryReader_readClause_83, z_CountryReader_readClause_84_0, z_CountryReader_readClause_84_1, z_CountryReader_readClause_84_2, z_CountryReader_readClause_112, z_CountryReader_readClause_113, z_CountryReader_readClause_114, z_CountryReader_readClause_117, false_and, and_false, if_true, if_false, Decidable.not_not, sd_ci, sd_cr, sd_cl9, sd_cu, sd_cat0, sd_cat1, sd_rfS, sd_n01, sd_n11, sd_n1, sd_n10, sd_n00, sd_b01, sd_b0, true_and, and_true, and_self, not_true_eq_false, not_false_eq_true, false_implies, true_implies, implies_true, or_true, true_or, or_false, false_or, Option.toList_some, Option.toList_none, List.cons_append, List.nil_append, Nat.reduceAdd, Nat.reduceLeDiff, nz_sub, nz_lt0, nz_ge0, nz_le0, nz_gt0, nz_eq0, nz_eq1, nz_lt, nz_le, nz_eq, nz_cl, nz_in, nz_add, nz_mul, nz_m1, nz_m1', Nat.reduceMul, Nat.reduceSub, Nat.reduceLT, Nat.reduceEqDiff, not_false_eq_true, false_implies, true_implies, true_and, and_true, h_0, h_1, t_2, n_2, h_3, t_4, n_4, t_5, n_5, h_6, t_7, n_7, t_8, n_8, t_9, n_9, t_10, n_10, t_11, n_11, t_12, n_12, t_13, n_13, t_14, n_14, t_15, n_15, t_16, n_16, h_17, h_18, t_19, n_19, t_20, n_20, t_21, n_21, t_22, n_22, h_28, t_29, n_29, t_30, n_30, t_31, n_31, t_32, n_32, h_38, t_39, n_39, t_240, n_240, t_246, n_246, t_252, n_252, h_253, t_254, n_254, t_255, n_255, t_256, n_256, t_257, n_257, h_258, t_259, n_259, t_260, n_260, t_261, n_261, t_262, n_262, t_263, n_263, t_264, n_264, h_265, t_266, n_266, t_267, n_267, t_268, n_268, t_269, n_269, t_270, n_270, r_0_0, r_0_1, r_0_2, r_0_3, r_0_6, r_0_7, r_0_8, r_0_9, r_0_11, r_0_12, r_0_13, r_0_14, r_0_15, r_1_0, r_3_0, r_3_1, r_3_2, r_6_0, r_6_1, r_6_4, r_6_5, r_6_7, r_7_0, r_7_1, r_7_2, r_7_3, r_7_4, r_17_0, r_17_1, r_18_1, r_18_2, r_18_3, r_18_4, r_18_6, r_28_1, r_28_2, r_28_3, r_28_4, r_28_6, r_38_0, r_253_0, r_253_1, r_253_2, r_253_3, r_258_0, r_258_1, r_258_3, r_258_4, r_258_6, r_258_8, r_265_0, r_265_1, r_265_3, r_265_4, r_265_5, r_0_4, r_0_5, k0, cr, Option.isSome_some, sd_bT trivial]
        exact hq
    by_cases ht : tk_T b n e 58
    · have hte3 := hte.2.2 ht
      have et : tk_e b n e 58 = tp_ps b n e + 1 := if_pos ht
      have ea : tp_at b n e = nI 58 := (tk_at hb (by decide)).mpr ht
      have hle := rw_e_le (b := b) (n := n) 12 (tk_e b n e 58) hte.2.1
      have hrm := rw_e_mono (b := b) (n := n) 12 (tk_e b n e 58) hte.2.1
      have hXr : ∀ σ2, tp_X σ2 b n e → ∃ σ4, tp_X σ4 b n (rw_e b n 12 (tk_e b n e 58)).1 ∧ (∀ e' j, ¬ (e' = 1 ∧ j = 2) → ¬ (e' = c + 6 ∧ A 0 0 0 * 12 ≤ j ∧ j < A 0 0 0 * 12 + 12) → σ4.1 e' j = σ2.1 e' j) ∧ σ4.2 = σ2.2 ∧ (∀ j, j < (rw_e b n 12 (tk_e b n e 58)).2.2.length → σ4.1 (c + 6) (A 0 0 0 * 12 + j) = nI ((rw_e b n 12 (tk_e b n e 58)).2.2.getD j 0)) ∧ ∀ d Q, 4 ≤ d → σ2.1 c 0 = nI (A 0 0 0) → sd_Go (sd_E1 L xs fm) d y_CountryReader_readPerson 35 [.ref 3, .ref c, sd_un] [.int (rw_v 0 (rw_e b n 12 (tk_e b n e 58)))] σ4 Q → sd_Go (sd_E1 L xs fm) d y_CountryReader_readPerson 0 [.ref 3, .ref c, sd_un] [] σ2 Q := by
        intro σ2 h2
        obtain ⟨k0, k1, k2, k3, k4, k5, k6, k7, k8, r0, r1, r2, r3, r4, k9⟩ := hC.all (L := L) (xs := xs) (fm := fm)
        obtain ⟨s0, s1, s2, s3, s4, s5, s6, s7, s8, sr0, sr1, sr2, sr3⟩ := k9.all (L := L) (xs := xs) (fm := fm)
        simp only [Nat.add_assoc, Nat.reduceAdd] at s1 s2 s3 s4 s5 s6 s7 s8 sr0 sr1 sr2 sr3
        obtain ⟨σ4, y1, y2, y3, y4, y5⟩ := c_Tape_readRow (L := L) (xs := xs) (fm := fm) (k := c + 6) (fr := A 0 0 0 * 12) s1 (by rw [s2]; omega) (by omega) (by omega) (by omega) (h2.at (a' := tk_e b n e 58) hte.2.1)
        refine ⟨σ4, y1, fun e' j z1 z2 => by rw [y2 e' j z1 z2, wI_1, if_neg z1], y3, y4, fun d Q hd hc0 hq => ?_⟩
        obtain ⟨d, rfl⟩ : ∃ d', d = d' + 3 := ⟨d - 3, by omega⟩
        have ct := fun Q => k_take (L := L) (xs := xs) (fm := fm) (c := 58) (D := d + 3) (Q := Q) h2 (by decide) (by omega)
        rw [sd_bT ht] at ct
        have hc0' : (sd_wI σ2 1 2 (nI (tk_e b n e 58))).1 c 0 = nI (A 0 0 0) := by rw [wI_c (by omega)]; exact hc0
        have y5 := y5 d
        simp (disch := first | exact sd_cr | exact sd_ci | exact sd_cu | exact sd_cl9 | assumption | omega | exact t_259 | exact t_260 | exact t_261 | exact t_262 | exact t_263 | exact t_264 | exact t_254 | exact t_255 | exact t_256 | exact t_257 | exact t_266 | exact t_267 | exact t_268 | exact t_269 | exact t_270 | exact t_252 | exact t_240 | exact t_246 | exact t_2 | exact t_4 | exact t_5 | exact t_13 | exact t_14 | exact t_15 | exact t_16 | exact Or.inl t_39 | exact Or.inr t_7) only [z_CountryReader_readPerson_0, z_CountryReader_readPerson_1, z_CountryReader_readPerson_4, z_CountryReader_readPerson_6, z_CountryReader_readPerson_9, z_CountryReader_readPerson_12, z_CountryReader_readPerson_13, z_CountryReader_readPerson_14, z_CountryReader_readPerson_15, z_CountryReader_readPerson_18, z_CountryReader_readPerson_19, z_CountryReader_readPerson_22, z_CountryReader_readPerson_25, z_CountryReader_readPerson_26, z_CountryReader_readPerson_29, z_CountryReader_readPerson_31, z_CountryReader_readPerson_32, false_and, and_false, if_true, if_false, Decidable.not_not, sd_ci, sd_cr, sd_cl9, sd_cu, sd_cat0, sd_cat1, sd_rfS, sd_n01, sd_n11, sd_n1, sd_n10, sd_n00, sd_b01, sd_b0, true_and, and_true, and_self, not_true_eq_false, not_false_eq_true, false_implies, true_implies, implies_true, or_true, true_or, or_false, false_or, Option.toList_some, Option.toList_none, List.cons_append, List.nil_append, Nat.reduceAdd, Nat.reduceLeDiff, nz_sub, nz_lt0, nz_ge0, nz_le0, nz_gt0, nz_eq0, nz_eq1, nz_lt, nz_le, nz_eq, nz_cl, nz_in, nz_add, nz_mul, nz_m1, nz_m1', Nat.reduceMul, Nat.reduceSub, Nat.reduceLT, Nat.reduceEqDiff, not_false_eq_true, false_implies, true_implies, true_and, and_true, h_0, h_1, t_2, n_2, h_3, t_4, n_4, t_5, n_5, h_6, t_7, n_7, t_8, n_8, t_9, n_9, t_10, n_10, t_11, n_11, t_12, n_12, t_13, n_13, t_14, n_14, t_15, n_15, t_16, n_16, h_17, h_18, t_19, n_19, t_20, n_20, t_21, n_21, t_22, n_22, h_28, t_29, n_29, t_30, n_30, t_31, n_31, t_32, n_32, h_38, t_39, n_39, t_240, n_240, t_246, n_246, t_252, n_252, h_253, t_254, n_254, t_255, n_255, t_256, n_256, t_257, n_257, h_258, t_259, n_259, t_260, n_260, t_261, n_261, t_262, n_262, t_263, n_263, t_264, n_264, h_265, t_266, n_266, t_267, n_267, t_268, n_268, t_269, n_269, t_270, n_270, r_0_0, r_0_1, r_0_2, r_0_3, r_0_6, r_0_7, r_0_8, r_0_9, r_0_11, r_0_12, r_0_13, r_0_14, r_0_15, r_1_0, r_3_0, r_3_1, r_3_2, r_6_0, r_6_1, r_6_4, r_6_5, r_6_7, r_7_0, r_7_1, r_7_2, r_7_3, r_7_4, r_17_0, r_17_1, r_18_1, r_18_2, r_18_3, r_18_4, r_18_6, r_28_1, r_28_2, r_28_3, r_28_4, r_28_6, r_38_0, r_253_0, r_253_1, r_253_2, r_253_3, r_258_0, r_258_1, r_258_3, r_258_4, r_258_6, r_258_8, r_265_0, r_265_1, r_265_3, r_265_4, r_265_5, r_0_4, r_0_5, r_3_0, ct, k0, r4, s0, sr0, hc0', y5]
        exact hq
      have hMr : ∀ σ2 o, tp_M σ2 272 o b n e → σ2.1 271 11 = -1 → ∃ σ4, tp_M σ4 272 o b n (rw_e b n 12 (tk_e b n e 58)).1 ∧ σ4.1 271 11 = (if rw_bad 0 (rw_e b n 12 (tk_e b n e 58)) then nI (rw_e b n 12 (tk_e b n e 58)).1 else -1) ∧ (∀ e' j, ¬ (e' = 271 ∧ (j = 10 ∨ j = 11)) → ¬ (e' = 277 ∧ 15 * A 0 0 0 + 2 ≤ j ∧ j < 15 * A 0 0 0 + 15) → σ4.1 e' j = σ2.1 e' j) ∧ σ4.2 = σ2.2 ∧ (∀ j, j < (rw_e b n 12 (tk_e b n e 58)).2.2.length → σ4.1 277 (15 * A 0 0 0 + 3 + j) = nI ((rw_e b n 12 (tk_e b n e 58)).2.2.getD j 0)) ∧ (¬ rw_bad 0 (rw_e b n 12 (tk_e b n e 58)) → σ4.1 277 (15 * A 0 0 0 + 2) = nI (rw_e b n 12 (tk_e b n e 58)).2.2.length) ∧ ∀ d Q, 4 ≤ d → Q none σ4 → sd_Go (sd_E1 L xs fm) d y_M_readClause 127 [.ref 271, .int (nI 112), .int (nI 1), .int (nI (15 * A 0 0 0))] [] σ2 Q := by
        intro σ2 o h2 hf2
        obtain ⟨σ4, y1, y2, y3, y4, y5, y6, y7⟩ := c_M_readRow (L := L) (xs := xs) (fm := fm) (k := 277) (fr := 15 * A 0 0 0 + 2) t_277 (by rw [n_277]; omega) (by omega) (by decide) (by decide) (h2.at (a' := tk_e b n e 58) hte.2.1) (by rw [wI_o (by decide)]; exact hf2)
        refine ⟨σ4, y1, y2, fun e' j z1 z2 => by rw [y3 e' j z1 (fun q => z2 ⟨q.1, by omega, by omega⟩), wI_1, if_neg (fun q => z1 ⟨q.1, Or.inl q.2⟩)], y4, fun j hj => by rw [show 15 * A 0 0 0 + 3 + j = 15 * A 0 0 0 + 2 + 1 + j by omega]; exact y5 j hj, y6, fun d Q hd hq => ?_⟩
        obtain ⟨d, rfl⟩ : ∃ d', d = d' + 2 := ⟨d - 2, by omega⟩
        have cl := fun Q => k_look (L := L) (xs := xs) (fm := fm) (D := d + 2) (Q := Q) h2 (by omega)
        rw [ea] at cl
        have y7 := y7 d
        rw [et] at y7
        simp (disch := first | exact sd_cr | exact sd_ci | exact sd_cu | exact sd_cl9 | assumption | omega | exact t_285 | exact t_283 | exact t_278 | exact t_281 | exact t_276 | exact t_274 | exact t_275 | exact t_277 | exact t_279 | exact t_280 | exact t_282 | exact t_284 | exact t_286 | exact t_287 | exact t_288 | exact t_289 | exact t_290 | exact t_291 | exact t_292 | exact t_293 | exact t_294 | exact t_295 | exact t_296 | exact t_297 | exact t_298 | exact t_299 | exact t_300) only [z_M_readClause_127, z_M_readClause_128, z_M_readClause_131, z_M_readClause_132, z_M_readClause_135, z_M_readClause_136, z_M_readClause_137, z_M_readClause_140, z_M_readClause_142, z_M_readClause_145, z_M_readClause_146, z_M_readClause_149, z_M_readClause_150, z_M_readClause_151, z_M_readClause_152, z_M_readClause_153, z_M_readClause_156, z_M_readClause_157, z_M_readClause_158, z_M_readClause_161, z_M_readClause_162, z_M_readClause_163, z_M_readClause_166, z_M_readClause_167, z_M_readClause_168, z_M_readClause_169, z_M_readClause_172, z_M_readClause_326, false_and, and_false, if_true, if_false, Decidable.not_not, sd_ci, sd_cr, sd_cl9, sd_cu, sd_cat0, sd_cat1, sd_rfS, sd_n01, sd_n11, sd_n1, sd_n10, sd_n00, sd_b01, sd_b0, true_and, and_true, and_self, not_true_eq_false, not_false_eq_true, false_implies, true_implies, implies_true, or_true, true_or, or_false, false_or, Option.toList_some, Option.toList_none, List.cons_append, List.nil_append, Nat.reduceAdd, Nat.reduceLeDiff, nz_sub, nz_lt0, nz_ge0, nz_le0, nz_gt0, nz_eq0, nz_eq1, nz_lt, nz_le, nz_eq, nz_cl, nz_in, nz_add, nz_mul, nz_m1, nz_m1', Nat.reduceMul, Nat.reduceSub, Nat.reduceLT, Nat.reduceEqDiff, not_false_eq_true, false_implies, true_implies, true_and, and_true, h_271, t_272, n_272, t_273, n_273, t_274, n_274, t_275, n_275, t_276, n_276, t_277, n_277, t_278, n_278, t_279, n_279, t_280, n_280, t_281, n_281, t_282, n_282, t_283, n_283, t_284, n_284, t_285, n_285, t_286, n_286, t_287, n_287, t_288, n_288, t_289, n_289, t_290, n_290, t_291, n_291, t_292, n_292, t_293, n_293, t_294, n_294, t_295, n_295, t_296, n_296, t_297, n_297, t_298, n_298, t_299, n_299, t_300, n_300, t_301, n_301, r_271_1, r_271_2, r_271_3, r_271_4, r_271_15, r_271_16, r_271_18, r_271_19, r_271_20, r_271_21, r_271_22, r_271_23, r_271_24, r_271_25, r_271_26, r_271_34, r_271_35, r_271_38, r_271_39, r_271_40, r_271_42, r_271_45, r_271_46, r_271_47, r_271_48, r_271_49, r_271_50, r_271_53, r_271_54, r_271_55, r_271_57, hf2, cl, wI_k, wI_wI, y7]
        exact hq
      generalize hR : rw_e b n 12 (tk_e b n e 58) = R at *
      by_cases hbad : rw_bad 0 R
      · have ev : rw_v 0 R = -1 := by
          unfold rw_v
          rcases hbad with q | q
          · exact if_pos q
          · rw [if_pos q]
            split <;> rfl
        refine ⟨R.1, none, ?_, ?_, by omega, hle.1, fun _ _ _ q => by cases q⟩
        · intro σ h hX
          obtain ⟨σ2, g, g5, g6, g7, g8, g9⟩ := hXc σ h hX
          obtain ⟨σ4, y1, y2, y3, y4, y5⟩ := hXr σ2 g7
          refine ⟨σ4, ⟨fun e' j z1 z2 z3 z4 => ?_, y3.trans g6⟩, y1, fun _ _ _ q => (by cases q), fun D Q hD => ?_⟩
          · rw [y2 e' j z1 (by omega)]
            exact g e' j z1 z2 (fun q => z3 q.1)
          · obtain ⟨d, rfl⟩ : ∃ d, D = d + 1 := ⟨D - 1, by omega⟩
            refine sd_Call.iff (fun Q hq => ?_) Q
            rw [sd_Call.start (ls := [.ref 3, .ref c, sd_un, sd_un]) m_CountryReader_readClause (by decide) (Nat.le_of_ble_eq_true rfl) rfl]
            refine g9 d Q (by omega) ⟨nI 0, σ4, Or.inl rfl, hq, fun Q => ?_⟩
            obtain ⟨d, rfl⟩ : ∃ d', d = d' + 1 := ⟨d - 1, by omega⟩
            refine sd_Call.iff (fun Q hq => ?_) Q
            rw [sd_Call.start (ls := [.ref 3, .ref c, sd_un]) m_CountryReader_readPerson (by decide) (Nat.le_of_ble_eq_true rfl) rfl]
            refine y5 d Q (by omega) (by rw [g c 0 (by omega) (by omega) (by omega)]; exact hX.2.1.1) ?_
            rw [ev]
            simp (disch := first | exact sd_cr | exact sd_ci | exact sd_cu | exact sd_cl9 | assumption | omega | exact t_259 | exact t_260 | exact t_261 | exact t_262 | exact t_263 | exact t_264 | exact t_254 | exact t_255 | exact t_256 | exact t_257 | exact t_266 | exact t_267 | exact t_268 | exact t_269 | exact t_270 | exact t_252 | exact t_240 | exact t_246 | exact t_2 | exact t_4 | exact t_5 | exact t_13 | exact t_14 | exact t_15 | exact t_16 | exact Or.inl t_39 | exact Or.inr t_7) only [z_CountryReader_readPerson_35, z_CountryReader_readPerson_36, z_CountryReader_readPerson_37, z_CountryReader_readPerson_38, z_CountryReader_readPerson_41, z_CountryReader_readPerson_42, false_and, and_false, if_true, if_false, Decidable.not_not, sd_ci, sd_cr, sd_cl9, sd_cu, sd_cat0, sd_cat1, sd_rfS, sd_n01, sd_n11, sd_n1, sd_n10, sd_n00, sd_b01, sd_b0, true_and, and_true, and_self, not_true_eq_false, not_false_eq_true, false_implies, true_implies, implies_true, or_true, true_or, or_false, false_or, Option.toList_some, Option.toList_none, List.cons_append, List.nil_append, Nat.reduceAdd, Nat.reduceLeDiff, nz_sub, nz_lt0, nz_ge0, nz_le0, nz_gt0, nz_eq0, nz_eq1, nz_lt, nz_le, nz_eq, nz_cl, nz_in, nz_add, nz_mul, nz_m1, nz_m1', Nat.reduceMul, Nat.reduceSub, Nat.reduceLT, Nat.reduceEqDiff, not_false_eq_true, false_implies, true_implies, true_and, and_true]
            exact hq
        · intro σ o h hf hM
          obtain ⟨σ2, z1, z2, z3, z4, z5, z6⟩ := hitM σ o h hf hM
          obtain ⟨zM, zf, zv⟩ := z5 v rfl
          obtain ⟨σ4, y1, y2, y3, y4, y5, y6, y7⟩ := hMr σ2 o zM zf
          rw [if_pos hbad] at y2
          refine ⟨σ4, ⟨fun e' j w1 w2 w3 w4 w5 w6 => by rw [y3 e' j (by omega) (by omega)]; exact z1 e' j (by omega) (by omega), y4.trans z2⟩, fun _ => y2, fun _ _ _ q => (by cases q), fun D Q hD => ?_⟩
          obtain ⟨d, rfl⟩ : ∃ d, D = d + 1 := ⟨D - 1, by omega⟩
          refine sd_Call.iff (fun Q hq => ?_) Q
          rw [sd_Call.start (ls := [.ref 271, sd_un, sd_un, sd_un]) m_M_readClause (by decide) (Nat.le_of_ble_eq_true rfl) rfl]
          exact z6 d Q (by omega) (y7 d Q (by omega) hq)
      · have hlen : 0 < R.2.2.length := Nat.pos_of_ne_zero (fun q => hbad (Or.inr (by omega)))
        have ev : rw_v 0 R = nI R.2.2.length := by
          unfold rw_v
          rw [if_neg (fun q => hbad (Or.inl q)), if_neg (fun q => hbad (Or.inr q)), Nat.zero_add]
        have hl12 := hle.2.1
        refine ⟨R.1, some (ct_A0 A (v 0), ct_W0 W (A 0 0 0) R.2.2 (v 1), dn), ?_, ?_, by omega, hle.1, fun A' W' dn' q => ?_⟩
        · intro σ h hX
          obtain ⟨σ2, g, g5, g6, g7, g8, g9⟩ := hXc σ h hX
          obtain ⟨σ4, y1, y2, y3, y4, y5⟩ := hXr σ2 g7
          have gg : ∀ e' j, ¬ (e' = 1 ∧ j = 2) → e' ≠ 4 → ¬ (e' = 5 ∧ j = 0) → ¬ (e' = c + 6 ∧ A 0 0 0 * 12 ≤ j ∧ j < A 0 0 0 * 12 + 12) → σ4.1 e' j = σ.1 e' j := fun e' j w1 w2 w3 w4 => by rw [y2 e' j w1 w4]; exact g e' j w1 w2 w3
          refine ⟨sd_wI (sd_wI (sd_wI (sd_wI σ4 (c + 1) (A 0 0 0) (nI (v 0))) (c + 8) (A 0 0 0) (nI (v 1))) (c + 7) (A 0 0 0) (nI R.2.2.length)) c 0 (nI (A 0 0 0 + 1)), ⟨fun e' j w1 w2 w3 w4 => ?_, y3.trans g6⟩, y1.fr (fun j _ => by rw [wI_c (by omega), wI_c (by omega), wI_c (by omega), wI_c (by omega)]) (fun j => by rw [wI_c (by omega), wI_c (by omega), wI_c (by omega), wI_c (by omega)]), fun A' W' dn' q => ?_, fun D Q hD => ?_⟩
          · rw [wI_c (by omega), wI_c (by omega), wI_c (by omega), wI_c (by omega)]
            exact gg e' j w1 w2 (fun q => w3 q.1) (by omega)
          · cases q
            have hXc' := hX
            obtain ⟨hC', ⟨x1, x2, x3, x4, x5, x6⟩, ⟨⟨w1, w2, w3, w4⟩, w5, w6⟩, c0, c1, c2, c3⟩ := hXc'
            refine ⟨hC, ⟨?_, ?_, fun p hp' => ?_, fun e' he => ?_, fun e' he => ?_, fun e' he j hj => ?_⟩, ⟨⟨?_, ?_, fun v' hv' j hj => ?_, fun v' j => ?_⟩, fun p hp' => ?_, ?_⟩, ?_, ?_, ?_, ?_⟩
            · rw [ct_A0_0, wI_k]
            · rw [ct_A0_o (by omega), wI_o (by decide), wI_c (by omega), wI_c (by omega), wI_c (by omega), gg c 5 (by omega) (by omega) (by omega) (by omega)]; exact x2
            · rw [ct_A0_0] at hp'
              rw [ct_A0_1, wI_c (by omega), wI_c (by omega), wI_c (by omega), wI_1]
              by_cases q : p = A 0 0 0
              · rw [if_pos ⟨rfl, q⟩, if_pos q]
              · rw [if_neg (fun r => q r.2), if_neg q, gg (c + 1) p (by omega) (by omega) (by omega) (by omega)]; exact x3 p (by omega)
            · rw [ct_A0_o (by omega), wI_c (by omega), wI_c (by omega), wI_c (by omega), wI_c (by omega), gg (c + 2) e' (by omega) (by omega) (by omega) (by omega)]; exact x4 e' he
            · rw [ct_A0_o (by omega), wI_c (by omega), wI_c (by omega), wI_c (by omega), wI_c (by omega), gg (c + 3) e' (by omega) (by omega) (by omega) (by omega)]; exact x5 e' he
            · rw [ct_A0_o (by omega)] at he
              rw [ct_A0_o (by omega), wI_c (by omega), wI_c (by omega), wI_c (by omega), wI_c (by omega), gg (c + 4) _ (by omega) (by omega) (by omega) (by omega)]; exact x6 e' he j hj
            · rw [ct_W0_o (by omega), wI_c (by omega), wI_c (by omega), wI_c (by omega), wI_c (by omega), gg (c + 5) 4 (by omega) (by omega) (by omega) (by omega)]; exact w1
            · rw [ct_W0_o (by omega)]; exact w2
            · rw [ct_W0_o (by omega)] at hv'
              rw [ct_W0_o (by omega), wI_c (by omega), wI_c (by omega), wI_c (by omega), wI_c (by omega), gg _ _ (by omega) (by omega) (by omega) (by omega)]; exact w3 v' hv' j hj
            · rw [ct_W0_o (by omega)]; exact w4 v' j
            · rw [ct_A0_0] at hp'
              rw [ct_W0_2, ct_W0_3, show c + 5 + 2 = c + 7 by omega, show c + 5 + 3 = c + 8 by omega, show c + 5 + 1 = c + 6 by omega]
              by_cases q : p = A 0 0 0
              · subst q
                rw [if_pos rfl, if_pos rfl]
                refine ⟨?_, ?_, fun i hi => ?_⟩
                · rw [wI_c (by omega), wI_k]
                · rw [wI_c (by omega), wI_c (by omega), wI_k]
                · rw [ct_W0_4, if_pos rfl, wI_c (by omega), wI_c (by omega), wI_c (by omega), wI_c (by omega)]
                  exact y4 i hi
              · rw [if_neg q, if_neg q]
                obtain ⟨d1, d2, d3⟩ := w5 p (by omega)
                refine ⟨?_, ?_, fun i hi => ?_⟩
                · rw [wI_c (by omega), wI_1, if_neg (by omega), wI_c (by omega), wI_c (by omega), gg (c + 7) p (by omega) (by omega) (by omega) (by omega)]; exact d1
                · rw [wI_c (by omega), wI_c (by omega), wI_1, if_neg (by omega), wI_c (by omega), gg (c + 8) p (by omega) (by omega) (by omega) (by omega)]; exact d2
                · have := (q10 p (by omega)).2.1
                  rw [ct_W0_4, if_neg q, wI_c (by omega), wI_c (by omega), wI_c (by omega), wI_c (by omega), gg (c + 6) _ (by omega) (by omega) (by omega) (by omega)]; exact d3 i hi
            · rw [ct_W0_o (by omega), wI_c (by omega), wI_c (by omega), wI_c (by omega), wI_c (by omega), gg (c + 5) 5 (by omega) (by omega) (by omega) (by omega)]; exact w6
            · rw [ct_A0_0, wI_c (by omega), wI_c (by omega), wI_c (by omega), wI_c (by omega), y2 5 0 (by omega) (by omega)]; exact g5
            · rw [wI_c (by omega), wI_c (by omega), wI_c (by omega), wI_c (by omega), gg 5 1 (by omega) (by omega) (by omega) (by omega)]; exact c1
            · rw [ct_W0_o (by omega), wI_c (by omega), wI_c (by omega), wI_c (by omega), wI_c (by omega), gg 5 2 (by omega) (by omega) (by omega) (by omega)]; exact c2
            · rw [ct_A0_o (by omega), wI_c (by omega), wI_c (by omega), wI_c (by omega), wI_c (by omega), gg 5 3 (by omega) (by omega) (by omega) (by omega)]; exact c3
          · obtain ⟨d, rfl⟩ : ∃ d, D = d + 1 := ⟨D - 1, by omega⟩
            refine sd_Call.iff (fun Q hq => ?_) Q
            rw [sd_Call.start (ls := [.ref 3, .ref c, sd_un, sd_un]) m_CountryReader_readClause (by decide) (Nat.le_of_ble_eq_true rfl) rfl]
            refine g9 d Q (by omega) ⟨nI 1, _, Or.inr rfl, hq, fun Q => ?_⟩
            obtain ⟨d, rfl⟩ : ∃ d', d = d' + 1 := ⟨d - 1, by omega⟩
            refine sd_Call.iff (fun Q hq => ?_) Q
            rw [sd_Call.start (ls := [.ref 3, .ref c, sd_un]) m_CountryReader_readPerson (by decide) (Nat.le_of_ble_eq_true rfl) rfl]
            refine y5 d Q (by omega) (by rw [g c 0 (by omega) (by omega) (by omega)]; exact hX.2.1.1) ?_
            rw [ev]
            obtain ⟨k0, k1, k2, k3, k4, k5, k6, k7, k8, r0, r1, r2, r3, r4, k9⟩ := hC.all (L := L) (xs := xs) (fm := fm)
            obtain ⟨s0, s1, s2, s3, s4, s5, s6, s7, s8, sr0, sr1, sr2, sr3⟩ := k9.all (L := L) (xs := xs) (fm := fm)
            simp only [Nat.add_assoc, Nat.reduceAdd] at s1 s2 s3 s4 s5 s6 s7 s8 sr0 sr1 sr2 sr3
            have t0 : σ4.1 c 0 = nI (A 0 0 0) := by rw [gg c 0 (by omega) (by omega) (by omega) (by omega)]; exact hX.2.1.1
            have t1 : ∀ e' j w, e' ≠ c → (sd_wI σ4 e' j w).1 c 0 = nI (A 0 0 0) := fun e' j w hw => by rw [wI_c (fun q => hw q.symm)]; exact t0
            have t2 := t1 (c + 1) (A 0 0 0) (nI (v 0)) (by omega)
            have t3 : (sd_wI (sd_wI σ4 (c + 1) (A 0 0 0) (nI (v 0))) (c + 8) (A 0 0 0) (nI (v 1))).1 c 0 = nI (A 0 0 0) := by rw [wI_c (by omega)]; exact t2
            have t4 : (sd_wI (sd_wI (sd_wI σ4 (c + 1) (A 0 0 0) (nI (v 0))) (c + 8) (A 0 0 0) (nI (v 1))) (c + 7) (A 0 0 0) (nI R.2.2.length)).1 c 0 = nI (A 0 0 0) := by rw [wI_c (by omega)]; exact t3
            have u0 : σ4.1 4 0 = nI (v 0) := by rw [y2 4 0 (by omega) (by omega)]; exact g8 0 (by decide)
            have u1 : (sd_wI σ4 (c + 1) (A 0 0 0) (nI (v 0))).1 4 1 = nI (v 1) := by rw [wI_c (by omega), y2 4 1 (by omega) (by omega)]; exact g8 1 (by decide)
            have c5 : A 0 0 0 < 5 := hcn
            simp (disch := first | exact sd_cr | exact sd_ci | exact sd_cu | exact sd_cl9 | assumption | omega | exact t_259 | exact t_260 | exact t_261 | exact t_262 | exact t_263 | exact t_264 | exact t_254 | exact t_255 | exact t_256 | exact t_257 | exact t_266 | exact t_267 | exact t_268 | exact t_269 | exact t_270 | exact t_252 | exact t_240 | exact t_246 | exact t_2 | exact t_4 | exact t_5 | exact t_13 | exact t_14 | exact t_15 | exact t_16 | exact Or.inl t_39 | exact Or.inr t_7) only [z_CountryReader_readPerson_35, z_CountryReader_readPerson_36, z_CountryReader_readPerson_37, z_CountryReader_readPerson_38, z_CountryReader_readPerson_41, z_CountryReader_readPerson_42, z_CountryReader_readPerson_43, z_CountryReader_readPerson_44, z_CountryReader_readPerson_47, z_CountryReader_readPerson_48, z_CountryReader_readPerson_51, z_CountryReader_readPerson_52, z_CountryReader_readPerson_55, z_CountryReader_readPerson_56, zx_CountryReader_readPerson_56, z_CountryReader_readPerson_57, z_CountryReader_readPerson_58, z_CountryReader_readPerson_59, z_CountryReader_readPerson_62, z_CountryReader_readPerson_65, z_CountryReader_readPerson_66, z_CountryReader_readPerson_69, z_CountryReader_readPerson_70, z_CountryReader_readPerson_73, z_CountryReader_readPerson_74, zx_CountryReader_readPerson_74, z_CountryReader_readPerson_75, z_CountryReader_readPerson_76, z_CountryReader_readPerson_77, z_CountryReader_readPerson_80, z_CountryReader_readPerson_83, z_CountryReader_readPerson_84, z_CountryReader_readPerson_87, z_CountryReader_readPerson_88, z_CountryReader_readPerson_89, z_CountryReader_readPerson_90, z_CountryReader_readPerson_91, z_CountryReader_readPerson_94, z_CountryReader_readPerson_95, z_CountryReader_readPerson_96, z_CountryReader_readPerson_99, z_CountryReader_readPerson_100, false_and, and_false, if_true, if_false, Decidable.not_not, sd_ci, sd_cr, sd_cl9, sd_cu, sd_cat0, sd_cat1, sd_rfS, sd_n01, sd_n11, sd_n1, sd_n10, sd_n00, sd_b01, sd_b0, true_and, and_true, and_self, not_true_eq_false, not_false_eq_true, false_implies, true_implies, implies_true, or_true, true_or, or_false, false_or, Option.toList_some, Option.toList_none, List.cons_append, List.nil_append, Nat.reduceAdd, Nat.reduceLeDiff, nz_sub, nz_lt0, nz_ge0, nz_le0, nz_gt0, nz_eq0, nz_eq1, nz_lt, nz_le, nz_eq, nz_cl, nz_in, nz_add, nz_mul, nz_m1, nz_m1', Nat.reduceMul, Nat.reduceSub, Nat.reduceLT, Nat.reduceEqDiff, not_false_eq_true, false_implies, true_implies, true_and, and_true, h_0, h_1, t_2, n_2, h_3, t_4, n_4, t_5, n_5, h_6, t_7, n_7, t_8, n_8, t_9, n_9, t_10, n_10, t_11, n_11, t_12, n_12, t_13, n_13, t_14, n_14, t_15, n_15, t_16, n_16, h_17, h_18, t_19, n_19, t_20, n_20, t_21, n_21, t_22, n_22, h_28, t_29, n_29, t_30, n_30, t_31, n_31, t_32, n_32, h_38, t_39, n_39, t_240, n_240, t_246, n_246, t_252, n_252, h_253, t_254, n_254, t_255, n_255, t_256, n_256, t_257, n_257, h_258, t_259, n_259, t_260, n_260, t_261, n_261, t_262, n_262, t_263, n_263, t_264, n_264, h_265, t_266, n_266, t_267, n_267, t_268, n_268, t_269, n_269, t_270, n_270, r_0_0, r_0_1, r_0_2, r_0_3, r_0_6, r_0_7, r_0_8, r_0_9, r_0_11, r_0_12, r_0_13, r_0_14, r_0_15, r_1_0, r_3_0, r_3_1, r_3_2, r_6_0, r_6_1, r_6_4, r_6_5, r_6_7, r_7_0, r_7_1, r_7_2, r_7_3, r_7_4, r_17_0, r_17_1, r_18_1, r_18_2, r_18_3, r_18_4, r_18_6, r_28_1, r_28_2, r_28_3, r_28_4, r_28_6, r_38_0, r_253_0, r_253_1, r_253_2, r_253_3, r_258_0, r_258_1, r_258_3, r_258_4, r_258_6, r_258_8, r_265_0, r_265_1, r_265_3, r_265_4, r_265_5, r_0_4, r_0_5, r_3_1, k0, k1, k2, r0, r1, r2, r3, r4, s0, s3, s4, s5, s6, sr0, sr1, sr2, sr3, t0, t2, t3, t4, u0, u1, c5]
            exact hq
        · intro σ o h hf hM
          obtain ⟨σ2, z1, z2, z3, z4, z5, z6⟩ := hitM σ o h hf hM
          obtain ⟨zM, zf, zv⟩ := z5 v rfl
          obtain ⟨σ4, y1, y2, y3, y4, y5, y6, y7⟩ := hMr σ2 o zM zf
          rw [if_neg hbad] at y2
          have y6 := y6 hbad
          refine ⟨σ4, ⟨fun e' j w1 w2 w3 w4 w5 w6 => by rw [y3 e' j (by omega) (by omega)]; exact z1 e' j (by omega) (by omega), y4.trans z2⟩, fun q => (by cases q), fun A' W' dn' q => ?_, fun D Q hD => ?_⟩
          · cases q
            refine ⟨y1, y2, ?_⟩
            obtain ⟨c0, c1, c2, c3, c4, c5, c6, c7⟩ := hM
            have gm : ∀ e' j, ¬ (e' = 271 ∧ (j = 10 ∨ j = 11 ∨ j = 30)) → ¬ (e' = 277 ∧ 15 * A 0 0 0 ≤ j ∧ j < 15 * A 0 0 0 + 15) → σ4.1 e' j = σ.1 e' j := fun e' j w1 w2 => by rw [y3 e' j (by omega) (by omega)]; exact z1 e' j (by omega) (by omega)
            refine ⟨?_, ?_, ?_, ?_, fun p hp' => ?_, fun e' he => ?_, fun v' hv' j hj => ?_, fun e' he j hj => ?_⟩
            · rw [ct_A0_0, y3 271 30 (by omega) (by omega)]; exact z3
            · rw [gm 271 31 (by omega) (by omega)]; exact c1
            · rw [ct_W0_o (by omega), gm 271 32 (by omega) (by omega)]; exact c2
            · rw [ct_A0_o (by omega), gm 271 33 (by omega) (by omega)]; exact c3
            · rw [ct_A0_0] at hp'
              rw [ct_A0_1, ct_W0_3, ct_W0_2]
              by_cases q : p = A 0 0 0
              · subst q
                rw [if_pos rfl, if_pos rfl, if_pos rfl]
                have e0 := zv 0 (by decide)
                have e1 := zv 1 (by decide)
                rw [Nat.add_zero] at e0
                refine ⟨by rw [y3 277 _ (by omega) (by omega)]; exact e0, by rw [y3 277 _ (by omega) (by omega)]; exact e1, y6, fun i hi => ?_⟩
                rw [ct_W0_4, if_pos rfl]
                exact y5 i hi
              · rw [if_neg q, if_neg q, if_neg q]
                obtain ⟨d1, d2, d3, d4⟩ := c4 p (by omega)
                have h12 := (q10 p (by omega)).2.1
                refine ⟨by rw [gm 277 _ (by omega) (by omega)]; exact d1, by rw [gm 277 _ (by omega) (by omega)]; exact d2, by rw [gm 277 _ (by omega) (by omega)]; exact d3, fun i hi => ?_⟩
                rw [ct_W0_4, if_neg q, gm 277 _ (by omega) (by omega)]
                exact d4 i hi
            · rw [ct_A0_o (by omega), ct_A0_o (by omega), gm 279 _ (by omega) (by omega), gm 279 _ (by omega) (by omega)]; exact c5 e' he
            · rw [ct_W0_o (by omega)] at hv'
              rw [ct_W0_o (by omega), gm 280 _ (by omega) (by omega)]; exact c6 v' hv' j hj
            · rw [ct_A0_o (by omega)] at he
              rw [ct_A0_o (by omega), gm 282 _ (by omega) (by omega)]; exact c7 e' he j hj
          · obtain ⟨d, rfl⟩ : ∃ d, D = d + 1 := ⟨D - 1, by omega⟩
            refine sd_Call.iff (fun Q hq => ?_) Q
            rw [sd_Call.start (ls := [.ref 271, sd_un, sd_un, sd_un]) m_M_readClause (by decide) (Nat.le_of_ble_eq_true rfl) rfl]
            exact z6 d Q (by omega) (y7 d Q (by omega) hq)
        · cases q
          refine ⟨⟨fun i j k => ?_, fun i j k => ?_, by rw [ct_A0_0]; omega, by rw [ct_A0_o (by omega)]; exact q4, by rw [ct_W0_o (by omega)]; exact q5, q6, fun p => ?_, fun e' => by rw [ct_A0_o (by omega)]; exact q8 e', fun e' => by rw [ct_A0_o (by omega)]; exact q9 e', fun p hp' => ?_, fun p i => ?_, fun v' hv' => ?_, fun v' j => by rw [ct_W0_o (by omega)]; exact q13 v' j, fun e' he => ?_, by rw [ct_W0_o (by omega)]; exact q15⟩, by omega, fun i j k hi => ct_A0_o (by omega)⟩
          · unfold ct_A0
            split
            · omega
            · split
              · omega
              · exact q1 i j k
          · unfold ct_W0
            split
            · omega
            · split
              · omega
              · split
                · have := hle.2.2 k; omega
                · exact q2 i j k
          · rw [ct_A0_1]; split
            · exact v0
            · exact q7 p
          · rw [ct_A0_0] at hp'
            rw [ct_W0_2, ct_W0_3]
            by_cases q : p = A 0 0 0
            · rw [if_pos q, if_pos q]
              exact ⟨hlen, hl12, v1⟩
            · rw [if_neg q, if_neg q]
              exact q10 p (by omega)
          · rw [ct_W0_4]; split
            · exact hle.2.2 i
            · exact q11 p i
          · rw [ct_W0_o (by omega)] at hv'
            rw [ct_W0_o (by omega), ct_W0_o (by omega), ct_W0_o (by omega), ct_W0_o (by omega), ct_W0_o (by omega)]
            exact q12 v' hv'
          · rw [ct_A0_o (by omega)] at he
            rw [ct_A0_o (by omega), ct_A0_o (by omega), ct_A0_o (by omega), ct_A0_o (by omega)]
            exact q14 e' he
    · have et : tk_e b n e 58 = tp_ps b n e := if_neg ht
      have hne : ¬ tp_at b n e = nI 58 := fun q => ht ((tk_at hb (by decide)).mp q)
      refine ⟨tk_e b n e 58, none, ?_, ?_, by omega, hte.2.1, fun _ _ _ q => by cases q⟩
      · intro σ h hX
        obtain ⟨σ2, g, g5, g6, g7, g8, g9⟩ := hXc σ h hX
        refine ⟨sd_wI σ2 1 2 (nI (tk_e b n e 58)), ⟨fun e' j z1 z2 z3 z4 => by rw [wI_1, if_neg z1]; exact g e' j z1 z2 (fun q => z3 q.1), g6⟩, g7.at hte.2.1, fun _ _ _ q => (by cases q), fun D Q hD => ?_⟩
        obtain ⟨d, rfl⟩ : ∃ d, D = d + 1 := ⟨D - 1, by omega⟩
        refine sd_Call.iff (fun Q hq => ?_) Q
        rw [sd_Call.start (ls := [.ref 3, .ref c, sd_un, sd_un]) m_CountryReader_readClause (by decide) (Nat.le_of_ble_eq_true rfl) rfl]
        refine g9 d Q (by omega) ⟨nI 0, _, Or.inl rfl, hq, fun Q => ?_⟩
        obtain ⟨d, rfl⟩ : ∃ d', d = d' + 1 := ⟨d - 1, by omega⟩
        refine sd_Call.iff (fun Q hq => ?_) Q
        have ct := fun Q => k_take (L := L) (xs := xs) (fm := fm) (c := 58) (D := d) (Q := Q) g7 (by decide) (by omega)
        rw [sd_bF ht] at ct
        rw [sd_Call.start (ls := [.ref 3, .ref c, sd_un]) m_CountryReader_readPerson (by decide) (Nat.le_of_ble_eq_true rfl) rfl]
        simp (disch := first | exact sd_cr | exact sd_ci | exact sd_cu | exact sd_cl9 | assumption | omega | exact t_259 | exact t_260 | exact t_261 | exact t_262 | exact t_263 | exact t_264 | exact t_254 | exact t_255 | exact t_256 | exact t_257 | exact t_266 | exact t_267 | exact t_268 | exact t_269 | exact t_270 | exact t_252 | exact t_240 | exact t_246 | exact t_2 | exact t_4 | exact t_5 | exact t_13 | exact t_14 | exact t_15 | exact t_16 | exact Or.inl t_39 | exact Or.inr t_7) only [z_CountryReader_readPerson_0, z_CountryReader_readPerson_1, z_CountryReader_readPerson_4, z_CountryReader_readPerson_6, z_CountryReader_readPerson_9, z_CountryReader_readPerson_12, z_CountryReader_readPerson_13, false_and, and_false, if_true, if_false, Decidable.not_not, sd_ci, sd_cr, sd_cl9, sd_cu, sd_cat0, sd_cat1, sd_rfS, sd_n01, sd_n11, sd_n1, sd_n10, sd_n00, sd_b01, sd_b0, true_and, and_true, and_self, not_true_eq_false, not_false_eq_true, false_implies, true_implies, implies_true, or_true, true_or, or_false, false_or, Option.toList_some, Option.toList_none, List.cons_append, List.nil_append, Nat.reduceAdd, Nat.reduceLeDiff, nz_sub, nz_lt0, nz_ge0, nz_le0, nz_gt0, nz_eq0, nz_eq1, nz_lt, nz_le, nz_eq, nz_cl, nz_in, nz_add, nz_mul, nz_m1, nz_m1', Nat.reduceMul, Nat.reduceSub, Nat.reduceLT, Nat.reduceEqDiff, not_false_eq_true, false_implies, true_implies, true_and, and_true, h_0, h_1, t_2, n_2, h_3, t_4, n_4, t_5, n_5, h_6, t_7, n_7, t_8, n_8, t_9, n_9, t_10, n_10, t_11, n_11, t_12, n_12, t_13, n_13, t_14, n_14, t_15, n_15, t_16, n_16, h_17, h_18, t_19, n_19, t_20, n_20, t_21, n_21, t_22, n_22, h_28, t_29, n_29, t_30, n_30, t_31, n_31, t_32, n_32, h_38, t_39, n_39, t_240, n_240, t_246, n_246, t_252, n_252, h_253, t_254, n_254, t_255, n_255, t_256, n_256, t_257, n_257, h_258, t_259, n_259, t_260, n_260, t_261, n_261, t_262, n_262, t_263, n_263, t_264, n_264, h_265, t_266, n_266, t_267, n_267, t_268, n_268, t_269, n_269, t_270, n_270, r_0_0, r_0_1, r_0_2, r_0_3, r_0_6, r_0_7, r_0_8, r_0_9, r_0_11, r_0_12, r_0_13, r_0_14, r_0_15, r_1_0, r_3_0, r_3_1, r_3_2, r_6_0, r_6_1, r_6_4, r_6_5, r_6_7, r_7_0, r_7_1, r_7_2, r_7_3, r_7_4, r_17_0, r_17_1, r_18_1, r_18_2, r_18_3, r_18_4, r_18_6, r_28_1, r_28_2, r_28_3, r_28_4, r_28_6, r_38_0, r_253_0, r_253_1, r_253_2, r_253_3, r_258_0, r_258_1, r_258_3, r_258_4, r_258_6, r_258_8, r_265_0, r_265_1, r_265_3, r_265_4, r_265_5, r_0_4, r_0_5, r_3_0, ct]
        exact hq
      · intro σ o h hf hM
        obtain ⟨σ2, z1, z2, z3, z4, z5, z6⟩ := hitM σ o h hf hM
        obtain ⟨zM, zf, zv⟩ := z5 v rfl
        refine ⟨sd_wI (sd_wI σ2 271 10 (nI (tk_e b n e 58))) 271 11 (nI (tk_e b n e 58)), ⟨fun e' j w1 w2 w3 w4 w5 w6 => by rw [wI_1, if_neg (by omega), wI_1, if_neg (by omega)]; exact z1 e' j (by omega) (by omega), z2⟩, fun _ => wI_k, fun _ _ _ q => (by cases q), fun D Q hD => ?_⟩
        obtain ⟨d, rfl⟩ : ∃ d, D = d + 1 := ⟨D - 1, by omega⟩
        refine sd_Call.iff (fun Q hq => ?_) Q
        rw [sd_Call.start (ls := [.ref 271, sd_un, sd_un, sd_un]) m_M_readClause (by decide) (Nat.le_of_ble_eq_true rfl) rfl]
        refine z6 d Q (by omega) ?_
        have cl := fun Q => k_look (L := L) (xs := xs) (fm := fm) (D := d) (Q := Q) zM (by omega)
        have cf := fun Q => k_fails (L := L) (xs := xs) (fm := fm) (D := d) (Q := Q) (σ := sd_wI σ2 271 10 (nI (tp_ps b n e))) (by rw [wI_o (by decide)]; exact zf) (by omega)
        rw [wI_k] at cf
        rw [et] at hq
        simp (disch := first | exact sd_cr | exact sd_ci | exact sd_cu | exact sd_cl9 | assumption | omega | exact t_285 | exact t_283 | exact t_278 | exact t_281 | exact t_276 | exact t_274 | exact t_275 | exact t_277 | exact t_279 | exact t_280 | exact t_282 | exact t_284 | exact t_286 | exact t_287 | exact t_288 | exact t_289 | exact t_290 | exact t_291 | exact t_292 | exact t_293 | exact t_294 | exact t_295 | exact t_296 | exact t_297 | exact t_298 | exact t_299 | exact t_300) only [z_M_readClause_127, z_M_readClause_128, z_M_readClause_131, z_M_readClause_132, z_M_readClause_135, z_M_readClause_136, z_M_readClause_137, z_M_readClause_140, z_M_readClause_142, z_M_readClause_145, z_M_readClause_146, z_M_readClause_149, z_M_readClause_150, false_and, and_false, if_true, if_false, Decidable.not_not, sd_ci, sd_cr, sd_cl9, sd_cu, sd_cat0, sd_cat1, sd_rfS, sd_n01, sd_n11, sd_n1, sd_n10, sd_n00, sd_b01, sd_b0, true_and, and_true, and_self, not_true_eq_false, not_false_eq_true, false_implies, true_implies, implies_true, or_true, true_or, or_false, false_or, Option.toList_some, Option.toList_none, List.cons_append, List.nil_append, Nat.reduceAdd, Nat.reduceLeDiff, nz_sub, nz_lt0, nz_ge0, nz_le0, nz_gt0, nz_eq0, nz_eq1, nz_lt, nz_le, nz_eq, nz_cl, nz_in, nz_add, nz_mul, nz_m1, nz_m1', Nat.reduceMul, Nat.reduceSub, Nat.reduceLT, Nat.reduceEqDiff, not_false_eq_true, false_implies, true_implies, true_and, and_true, h_271, t_272, n_272, t_273, n_273, t_274, n_274, t_275, n_275, t_276, n_276, t_277, n_277, t_278, n_278, t_279, n_279, t_280, n_280, t_281, n_281, t_282, n_282, t_283, n_283, t_284, n_284, t_285, n_285, t_286, n_286, t_287, n_287, t_288, n_288, t_289, n_289, t_290, n_290, t_291, n_291, t_292, n_292, t_293, n_293, t_294, n_294, t_295, n_295, t_296, n_296, t_297, n_297, t_298, n_298, t_299, n_299, t_300, n_300, t_301, n_301, r_271_1, r_271_2, r_271_3, r_271_4, r_271_15, r_271_16, r_271_18, r_271_19, r_271_20, r_271_21, r_271_22, r_271_23, r_271_24, r_271_25, r_271_26, r_271_34, r_271_35, r_271_38, r_271_39, r_271_40, r_271_42, r_271_45, r_271_46, r_271_47, r_271_48, r_271_49, r_271_50, r_271_53, r_271_54, r_271_55, r_271_57, zf, cl, hne, cf]
        exact hq
end SDCA
