/-! an atom of a taste, in both -/
theorem ty_x5 : ∀ m, m < 256 → ∀ k, tx_x 5 (nI m) = some k → k < 6 ∧ m = tx_b 5 k := by
  intro m hm
  have : ∀ m, m < 256 → tx_x 5 (nI m) = none ∨ ∃ k, k < 6 ∧ tx_x 5 (nI m) = some k ∧ m = tx_b 5 k := by decide +kernel
  intro k hk
  rcases this m hm with q | ⟨k', q1, q2, q3⟩
  · rw [q] at hk; cases hk
  · rw [q2] at hk
    cases hk
    exact ⟨q1, q3⟩
theorem ty_x5m : tx_x 5 (-1) = none := by decide +kernel
theorem ty_x591 : tx_x 5 (nI 91) = none := by decide +kernel
theorem ty_lt {σ : sd_Mem} {ℓ : Nat → Int32} (h : sw_l6 σ ℓ) {k : Nat} (hk : k < 6) : σ.1 275 (tx_b 5 k) = ℓ k := by
  obtain ⟨h0, h1, h2, h3, h4, h5⟩ := h
  have : k = 0 ∨ k = 1 ∨ k = 2 ∨ k = 3 ∨ k = 4 ∨ k = 5 := by omega
  rcases this with rfl | rfl | rfl | rfl | rfl | rfl
  · exact h0
  · exact h1
  · exact h2
  · exact h3
  · exact h4
  · exact h5
theorem dg_e_v {b : Nat → Nat} {n : Nat} : ∀ f i a v, f + i = 4 → v ≤ 9999 → (i ≤ 3 → v ≤ 999) → (i ≤ 2 → v ≤ 99) → (i ≤ 1 → v ≤ 9) → (i = 0 → v = 0) → (dg_e b n f a v).2 ≤ 9999 := by
  intro f
  induction f with
  | zero => intro i a v hi v4 v3 v2 v1 v0; exact v4
  | succ f ih =>
    intro i a v hi v4 v3 v2 v1 v0
    rw [dg_e]
    split
    · rename_i q
      obtain ⟨p1, p2, p3⟩ := id q
      exact ih (i + 1) _ _ (by omega) (by omega) (by omega) (by omega) (by omega) (by omega)
    · exact v4
section SDBI
variable {L : Nat} {xs : Nat → Int32} {fm : Option Nat} {b : Nat → Nat} {n dp k k' : Nat}
theorem ty_numM {t o : Nat} {th : Int32} (hn : n ≤ 240) : ∀ f i a v (σ : sd_Mem), f + i = 4 → tp_M σ t o b n a → σ.1 271 11 = -1 → v ≤ 9999 → (i ≤ 3 → v ≤ 999) → (i ≤ 2 → v ≤ 99) → (i ≤ 1 → v ≤ 9) → (i = 0 → v = 0) → ∀ D Q, 2 ≤ D → Q (some (.int (if dg_D b n (dg_e b n f a v).1 then nI 0 else nI (dg_e b n f a v).2))) (if dg_D b n (dg_e b n f a v).1 then sd_wI (sd_wI σ 271 10 (nI (dg_e b n f a v).1)) 271 11 (nI (dg_e b n f a v).1) else sd_wI σ 271 10 (nI (dg_e b n f a v).1)) → sd_Go (sd_E1 L xs fm) D y_M_atom 90 [.ref 271, .int th, .int (nI v), .int (nI i)] [] σ Q := by
  intro f
  induction f with
  | zero =>
    intro i a v σ hi h hf v4 v3 v2 v1 v0 D Q hD hq
    have h10 := h.2.2.2.1
    have cd := fun Q => k_isDigit (L := L) (xs := xs) (fm := fm) (D := D) (Q := Q) h (by omega) (by omega)
    have cf := fun Q => k_fails (L := L) (xs := xs) (fm := fm) (D := D) (Q := Q) hf (by omega)
    rw [h10] at cf
    obtain rfl : i = 4 := by omega
    rw [dg_e] at hq
    dsimp only at hq
    rw [wI_same h10] at hq
    by_cases q : dg_D b n a
    · rw [if_pos q, if_pos q] at hq
      simp (disch := first | exact sd_cr | exact sd_ci | exact sd_cu | exact sd_cl9 | assumption | omega | exact t_285 | exact t_283 | exact t_278 | exact t_281 | exact t_276 | exact t_274 | exact t_275 | exact t_277 | exact t_279 | exact t_280 | exact t_282 | exact t_284 | exact t_286 | exact t_287 | exact t_288 | exact t_289 | exact t_290 | exact t_291 | exact t_292 | exact t_293 | exact t_294 | exact t_295 | exact t_296 | exact t_297 | exact t_298 | exact t_299 | exact t_300) only [z_M_atom_90, z_M_atom_91, z_M_atom_94, z_M_atom_97, z_M_atom_98, z_M_atom_101, z_M_atom_102, z_M_atom_105, z_M_atom_106, z_M_atom_107, z_M_atom_110, z_M_atom_111, z_M_atom_114, z_M_atom_115, z_M_atom_116, false_and, and_false, if_true, if_false, Decidable.not_not, sd_ci, sd_cr, sd_cl9, sd_cu, sd_cat0, sd_cat1, sd_rfS, sd_n01, sd_n11, sd_n1, sd_n10, sd_n00, sd_b01, sd_b0, true_and, and_true, and_self, not_true_eq_false, not_false_eq_true, false_implies, true_implies, implies_true, or_true, true_or, or_false, false_or, Option.toList_some, Option.toList_none, List.cons_append, List.nil_append, Nat.reduceAdd, Nat.reduceLeDiff, nz_sub, nz_lt0, nz_ge0, nz_le0, nz_gt0, nz_eq0, nz_eq1, nz_lt, nz_le, nz_eq, nz_cl, nz_in, nz_add, nz_mul, nz_m1, nz_m1', Nat.reduceMul, Nat.reduceSub, Nat.reduceLT, Nat.reduceEqDiff, not_false_eq_true, false_implies, true_implies, true_and, and_true, h_271, t_272, n_272, t_273, n_273, t_274, n_274, t_275, n_275, t_276, n_276, t_277, n_277, t_278, n_278, t_279, n_279, t_280, n_280, t_281, n_281, t_282, n_282, t_283, n_283, t_284, n_284, t_285, n_285, t_286, n_286, t_287, n_287, t_288, n_288, t_289, n_289, t_290, n_290, t_291, n_291, t_292, n_292, t_293, n_293, t_294, n_294, t_295, n_295, t_296, n_296, t_297, n_297, t_298, n_298, t_299, n_299, t_300, n_300, t_301, n_301, r_271_1, r_271_2, r_271_3, r_271_4, r_271_15, r_271_16, r_271_18, r_271_19, r_271_20, r_271_21, r_271_22, r_271_23, r_271_24, r_271_25, r_271_26, r_271_34, r_271_35, r_271_38, r_271_39, r_271_40, r_271_42, r_271_45, r_271_46, r_271_47, r_271_48, r_271_49, r_271_50, r_271_53, r_271_54, r_271_55, r_271_57, cd, sd_bT q, hf, cf]
      exact hq
    · rw [if_neg q, if_neg q] at hq
      simp (disch := first | exact sd_cr | exact sd_ci | exact sd_cu | exact sd_cl9 | assumption | omega | exact t_285 | exact t_283 | exact t_278 | exact t_281 | exact t_276 | exact t_274 | exact t_275 | exact t_277 | exact t_279 | exact t_280 | exact t_282 | exact t_284 | exact t_286 | exact t_287 | exact t_288 | exact t_289 | exact t_290 | exact t_291 | exact t_292 | exact t_293 | exact t_294 | exact t_295 | exact t_296 | exact t_297 | exact t_298 | exact t_299 | exact t_300) only [z_M_atom_90, z_M_atom_91, z_M_atom_94, z_M_atom_97, z_M_atom_98, z_M_atom_101, z_M_atom_102, z_M_atom_105, z_M_atom_106, z_M_atom_107, z_M_atom_110, z_M_atom_111, z_M_atom_114, z_M_atom_115, z_M_atom_116, z_M_atom_156, z_M_atom_157, false_and, and_false, if_true, if_false, Decidable.not_not, sd_ci, sd_cr, sd_cl9, sd_cu, sd_cat0, sd_cat1, sd_rfS, sd_n01, sd_n11, sd_n1, sd_n10, sd_n00, sd_b01, sd_b0, true_and, and_true, and_self, not_true_eq_false, not_false_eq_true, false_implies, true_implies, implies_true, or_true, true_or, or_false, false_or, Option.toList_some, Option.toList_none, List.cons_append, List.nil_append, Nat.reduceAdd, Nat.reduceLeDiff, nz_sub, nz_lt0, nz_ge0, nz_le0, nz_gt0, nz_eq0, nz_eq1, nz_lt, nz_le, nz_eq, nz_cl, nz_in, nz_add, nz_mul, nz_m1, nz_m1', Nat.reduceMul, Nat.reduceSub, Nat.reduceLT, Nat.reduceEqDiff, not_false_eq_true, false_implies, true_implies, true_and, and_true, h_271, t_272, n_272, t_273, n_273, t_274, n_274, t_275, n_275, t_276, n_276, t_277, n_277, t_278, n_278, t_279, n_279, t_280, n_280, t_281, n_281, t_282, n_282, t_283, n_283, t_284, n_284, t_285, n_285, t_286, n_286, t_287, n_287, t_288, n_288, t_289, n_289, t_290, n_290, t_291, n_291, t_292, n_292, t_293, n_293, t_294, n_294, t_295, n_295, t_296, n_296, t_297, n_297, t_298, n_298, t_299, n_299, t_300, n_300, t_301, n_301, r_271_1, r_271_2, r_271_3, r_271_4, r_271_15, r_271_16, r_271_18, r_271_19, r_271_20, r_271_21, r_271_22, r_271_23, r_271_24, r_271_25, r_271_26, r_271_34, r_271_35, r_271_38, r_271_39, r_271_40, r_271_42, r_271_45, r_271_46, r_271_47, r_271_48, r_271_49, r_271_50, r_271_53, r_271_54, r_271_55, r_271_57, cd, sd_bF q]
      exact hq
  | succ f ih =>
    intro i a v σ hi h hf v4 v3 v2 v1 v0 D Q hD hq
    obtain ⟨h1, h2, h3, h4, h5, h6, h7, h8, h9, h10, h11⟩ := id h
    have cd := fun Q => k_isDigit (L := L) (xs := xs) (fm := fm) (D := D) (Q := Q) h (by omega) (by omega)
    rw [dg_e] at hq
    by_cases q : dg_D b n a
    · rw [if_pos q] at hq
      obtain ⟨p1, p2, p3⟩ := id q
      have e2 := h5 a p1
      rw [dg_b3 (b a) (by omega)] at e2
      have c1 : o + a < sd_ln t := by omega
      have c2 : ¬ i = 4 := by omega
      have e3 : nI 10 * nI v + nI (b a) - nI 48 = nI (10 * v + b a - 48) := by
        rw [nz_mul, nz_add, nz_sub (by omega)]
      have nx := ih (i + 1) (a + 1) (10 * v + b a - 48) (sd_wI σ 271 10 (nI (a + 1))) (by omega) (h.at (by omega)) (by rw [wI_o (by decide)]; exact hf) (by omega) (by omega) (by omega) (by omega) (by omega) D Q hD (by rw [wI_wI]; exact hq)
      rw [z_M_atom_90]
      simp (disch := first | exact sd_cr | exact sd_ci | exact sd_cu | exact sd_cl9 | assumption | omega | exact t_285 | exact t_283 | exact t_278 | exact t_281 | exact t_276 | exact t_274 | exact t_275 | exact t_277 | exact t_279 | exact t_280 | exact t_282 | exact t_284 | exact t_286 | exact t_287 | exact t_288 | exact t_289 | exact t_290 | exact t_291 | exact t_292 | exact t_293 | exact t_294 | exact t_295 | exact t_296 | exact t_297 | exact t_298 | exact t_299 | exact t_300) only [z_M_atom_91, z_M_atom_94, z_M_atom_97, z_M_atom_98, z_M_atom_101, z_M_atom_102, z_M_atom_105, z_M_atom_106, z_M_atom_107, z_M_atom_110, z_M_atom_111, z_M_atom_114, z_M_atom_115, z_M_atom_116, z_M_atom_117, z_M_atom_119, z_M_atom_120, z_M_atom_121, z_M_atom_122, z_M_atom_125, z_M_atom_126, z_M_atom_129, z_M_atom_130, z_M_atom_133, z_M_atom_134, z_M_atom_135, z_M_atom_136, z_M_atom_138, z_M_atom_139, z_M_atom_140, z_M_atom_141, z_M_atom_142, z_M_atom_145, z_M_atom_146, z_M_atom_147, z_M_atom_150, z_M_atom_153, false_and, and_false, if_true, if_false, Decidable.not_not, sd_ci, sd_cr, sd_cl9, sd_cu, sd_cat0, sd_cat1, sd_rfS, sd_n01, sd_n11, sd_n1, sd_n10, sd_n00, sd_b01, sd_b0, true_and, and_true, and_self, not_true_eq_false, not_false_eq_true, false_implies, true_implies, implies_true, or_true, true_or, or_false, false_or, Option.toList_some, Option.toList_none, List.cons_append, List.nil_append, Nat.reduceAdd, Nat.reduceLeDiff, nz_eq, nz_eq0, nz_cl, nz_in, h_271, t_272, n_272, t_273, n_273, t_274, n_274, t_275, n_275, t_276, n_276, t_277, n_277, t_278, n_278, t_279, n_279, t_280, n_280, t_281, n_281, t_282, n_282, t_283, n_283, t_284, n_284, t_285, n_285, t_286, n_286, t_287, n_287, t_288, n_288, t_289, n_289, t_290, n_290, t_291, n_291, t_292, n_292, t_293, n_293, t_294, n_294, t_295, n_295, t_296, n_296, t_297, n_297, t_298, n_298, t_299, n_299, t_300, n_300, t_301, n_301, r_271_1, r_271_2, r_271_3, r_271_4, r_271_15, r_271_16, r_271_18, r_271_19, r_271_20, r_271_21, r_271_22, r_271_23, r_271_24, r_271_25, r_271_26, r_271_34, r_271_35, r_271_38, r_271_39, r_271_40, r_271_42, r_271_45, r_271_46, r_271_47, r_271_48, r_271_49, r_271_50, r_271_53, r_271_54, r_271_55, r_271_57, cd, sd_bT q, hf, c2, h1, h2, h4, r_271_5, nz_add, c1, e2, e3, sd_b01, Nat.one_ne_zero]
      exact nx
    · rw [if_neg q] at hq
      dsimp only at hq
      rw [if_neg q, if_neg q, wI_same h4] at hq
      rw [z_M_atom_90]
      simp (disch := first | exact sd_cr | exact sd_ci | exact sd_cu | exact sd_cl9 | assumption | omega | exact t_285 | exact t_283 | exact t_278 | exact t_281 | exact t_276 | exact t_274 | exact t_275 | exact t_277 | exact t_279 | exact t_280 | exact t_282 | exact t_284 | exact t_286 | exact t_287 | exact t_288 | exact t_289 | exact t_290 | exact t_291 | exact t_292 | exact t_293 | exact t_294 | exact t_295 | exact t_296 | exact t_297 | exact t_298 | exact t_299 | exact t_300) only [z_M_atom_91, z_M_atom_94, z_M_atom_156, z_M_atom_157, false_and, and_false, if_true, if_false, Decidable.not_not, sd_ci, sd_cr, sd_cl9, sd_cu, sd_cat0, sd_cat1, sd_rfS, sd_n01, sd_n11, sd_n1, sd_n10, sd_n00, sd_b01, sd_b0, true_and, and_true, and_self, not_true_eq_false, not_false_eq_true, false_implies, true_implies, implies_true, or_true, true_or, or_false, false_or, Option.toList_some, Option.toList_none, List.cons_append, List.nil_append, Nat.reduceAdd, Nat.reduceLeDiff, nz_sub, nz_lt0, nz_ge0, nz_le0, nz_gt0, nz_eq0, nz_eq1, nz_lt, nz_le, nz_eq, nz_cl, nz_in, nz_add, nz_mul, nz_m1, nz_m1', Nat.reduceMul, Nat.reduceSub, Nat.reduceLT, Nat.reduceEqDiff, not_false_eq_true, false_implies, true_implies, true_and, and_true, h_271, t_272, n_272, t_273, n_273, t_274, n_274, t_275, n_275, t_276, n_276, t_277, n_277, t_278, n_278, t_279, n_279, t_280, n_280, t_281, n_281, t_282, n_282, t_283, n_283, t_284, n_284, t_285, n_285, t_286, n_286, t_287, n_287, t_288, n_288, t_289, n_289, t_290, n_290, t_291, n_291, t_292, n_292, t_293, n_293, t_294, n_294, t_295, n_295, t_296, n_296, t_297, n_297, t_298, n_298, t_299, n_299, t_300, n_300, t_301, n_301, r_271_1, r_271_2, r_271_3, r_271_4, r_271_15, r_271_16, r_271_18, r_271_19, r_271_20, r_271_21, r_271_22, r_271_23, r_271_24, r_271_25, r_271_26, r_271_34, r_271_35, r_271_38, r_271_39, r_271_40, r_271_42, r_271_45, r_271_46, r_271_47, r_271_48, r_271_49, r_271_50, r_271_53, r_271_54, r_271_55, r_271_57, cd, sd_bF q]
      exact hq
theorem ty_atom (hdp : dp ≤ 6) (hn : n ≤ 240) (hb : ∀ i, i < n → b i < 256) (hk : k + 1 ≤ k') (hk8 : 8 ≤ k') (hsum : dp < 6 → ∀ a, a ≤ n → ∃ e r v, ty_RX L xs fm b n k y_TasteReader_readSum [.int (nI (dp + 1))] a e r ∧ ty_RM L xs fm b n k y_M_sum (dp + 1) (fun _ => []) False a e r v ∧ ty_ok n a e r v (fun _ => []) False) : ∀ a, a ≤ n → ∃ e r v, ty_RX L xs fm b n k' y_TasteReader_readAtom [.int (nI dp)] a e r ∧ ty_RM L xs fm b n k' y_M_atom dp (fun _ => []) False a e r v ∧ ty_ok n a e r v (fun _ => []) False := by
  intro a ha
  have hp := tp_ps_le (b := b) ha
  by_cases hq : tp_ps b n a < n
  · have hbp := hb _ hq
    have ea : tp_at b n a = nI (b (tp_ps b n a)) := if_pos hq
    by_cases h91 : b (tp_ps b n a) = 91
    · rw [h91] at ea
      by_cases h6 : dp = 6
      · subst h6
        refine ⟨tp_ps b n a, none, fun _ => nI 0, ?_, ?_, hp.1, hp.2, fun l q => by cases q⟩
        · intro σ t s h hs
          refine ⟨sd_wI σ 1 2 (nI (tp_ps b n a)), ty_f.at, h.1.at hp.2, fun l q => (by cases q), fun D Q hD => ?_⟩
          obtain ⟨d, rfl⟩ : ∃ d, D = d + 1 := ⟨D - 1, by omega⟩
          refine sd_Call.iff (fun Q hq => ?_) Q
          have cp := fun Q => k_peek (L := L) (xs := xs) (fm := fm) (D := d) (Q := Q) h.1 (by omega)
          rw [ea] at cp
          rw [sd_Call.start (ls := [.ref 17, .int (nI 6), sd_un, sd_un, sd_un]) m_TasteReader_readAtom (by decide) (Nat.le_of_ble_eq_true rfl) rfl]
          simp (disch := first | exact sd_cr | exact sd_ci | exact sd_cu | exact sd_cl9 | assumption | omega | exact t_259 | exact t_260 | exact t_261 | exact t_262 | exact t_263 | exact t_264 | exact t_254 | exact t_255 | exact t_256 | exact t_257 | exact t_266 | exact t_267 | exact t_268 | exact t_269 | exact t_270 | exact t_252 | exact t_240 | exact t_246 | exact t_2 | exact t_4 | exact t_5 | exact t_13 | exact t_14 | exact t_15 | exact t_16 | exact Or.inl t_39 | exact Or.inr t_7) only [z_TasteReader_readAtom_0, z_TasteReader_readAtom_1, z_TasteReader_readAtom_4, z_TasteReader_readAtom_7, z_TasteReader_readAtom_8, z_TasteReader_readAtom_9, z_TasteReader_readAtom_11, z_TasteReader_readAtom_14, z_TasteReader_readAtom_15, z_TasteReader_readAtom_17, z_TasteReader_readAtom_20, z_TasteReader_readAtom_21, false_and, and_false, if_true, if_false, Decidable.not_not, sd_ci, sd_cr, sd_cl9, sd_cu, sd_cat0, sd_cat1, sd_rfS, sd_n01, sd_n11, sd_n1, sd_n10, sd_n00, sd_b01, sd_b0, true_and, and_true, and_self, not_true_eq_false, not_false_eq_true, false_implies, true_implies, implies_true, or_true, true_or, or_false, false_or, Option.toList_some, Option.toList_none, List.cons_append, List.nil_append, Nat.reduceAdd, Nat.reduceLeDiff, nz_sub, nz_lt0, nz_ge0, nz_le0, nz_gt0, nz_eq0, nz_eq1, nz_lt, nz_le, nz_eq, nz_cl, nz_in, nz_add, nz_mul, nz_m1, nz_m1', Nat.reduceMul, Nat.reduceSub, Nat.reduceLT, Nat.reduceEqDiff, not_false_eq_true, false_implies, true_implies, true_and, and_true, h_0, h_1, t_2, n_2, h_3, t_4, n_4, t_5, n_5, h_6, t_7, n_7, t_8, n_8, t_9, n_9, t_10, n_10, t_11, n_11, t_12, n_12, t_13, n_13, t_14, n_14, t_15, n_15, t_16, n_16, h_17, h_18, t_19, n_19, t_20, n_20, t_21, n_21, t_22, n_22, h_28, t_29, n_29, t_30, n_30, t_31, n_31, t_32, n_32, h_38, t_39, n_39, t_240, n_240, t_246, n_246, t_252, n_252, h_253, t_254, n_254, t_255, n_255, t_256, n_256, t_257, n_257, h_258, t_259, n_259, t_260, n_260, t_261, n_261, t_262, n_262, t_263, n_263, t_264, n_264, h_265, t_266, n_266, t_267, n_267, t_268, n_268, t_269, n_269, t_270, n_270, r_0_0, r_0_1, r_0_2, r_0_3, r_0_6, r_0_7, r_0_8, r_0_9, r_0_11, r_0_12, r_0_13, r_0_14, r_0_15, r_1_0, r_3_0, r_3_1, r_3_2, r_6_0, r_6_1, r_6_4, r_6_5, r_6_7, r_7_0, r_7_1, r_7_2, r_7_3, r_7_4, r_17_0, r_17_1, r_18_1, r_18_2, r_18_3, r_18_4, r_18_6, r_28_1, r_28_2, r_28_3, r_28_4, r_28_6, r_38_0, r_253_0, r_253_1, r_253_2, r_253_3, r_258_0, r_258_1, r_258_3, r_258_4, r_258_6, r_258_8, r_265_0, r_265_1, r_265_3, r_265_4, r_265_5, r_0_4, r_0_5, r_17_0, cp]
          exact hq
        · intro σ t o ℓ hl h
          refine ⟨sd_wI (sd_wI σ 271 10 (nI (tp_ps b n a))) 271 11 (nI (tp_ps b n a)), nI 0, (ty_g.w (by decide)).tr (ty_g.w (by decide)), fun _ => wI_k, fun l q => (by cases q), fun q => q.elim, fun D Q hD => ?_⟩
          obtain ⟨d, rfl⟩ : ∃ d, D = d + 1 := ⟨D - 1, by omega⟩
          refine sd_Call.iff (fun Q hq => ?_) Q
          have cp := fun Q => k_look (L := L) (xs := xs) (fm := fm) (D := d) (Q := Q) h.1 (by omega)
          rw [ea] at cp
          have ci : ∀ (σ : sd_Mem) Q, sd_Call (sd_E1 L xs fm) d y_M_isAmong [.ref 415, .int (nI 91)] σ Q ↔ Q (some (.int (nI 0))) σ := fun σ Q => by
            have := k_isAmong (L := L) (xs := xs) (fm := fm) (σ := σ) (Q := Q) (v := nI 91) (i := 5) (D := d) (by decide) (by omega)
            rw [ty_x591] at this
            exact this
          have cg := fun Q => k_goesIn6 (L := L) (xs := xs) (fm := fm) (D := d) (Q := Q) (h.at hp.2) (by omega)
          rw [sd_Call.start (ls := [.ref 271, sd_un, sd_un, sd_un]) m_M_atom (by decide) (Nat.le_of_ble_eq_true rfl) rfl]
          simp (disch := first | exact sd_cr | exact sd_ci | exact sd_cu | exact sd_cl9 | assumption | omega | exact t_285 | exact t_283 | exact t_278 | exact t_281 | exact t_276 | exact t_274 | exact t_275 | exact t_277 | exact t_279 | exact t_280 | exact t_282 | exact t_284 | exact t_286 | exact t_287 | exact t_288 | exact t_289 | exact t_290 | exact t_291 | exact t_292 | exact t_293 | exact t_294 | exact t_295 | exact t_296 | exact t_297 | exact t_298 | exact t_299 | exact t_300) only [z_M_atom_0, z_M_atom_1, z_M_atom_4, z_M_atom_5, z_M_atom_7, z_M_atom_8, z_M_atom_11, z_M_atom_14, z_M_atom_15, z_M_atom_16, z_M_atom_19, z_M_atom_20, z_M_atom_21, z_M_atom_24, z_M_atom_25, z_M_atom_28, z_M_atom_29, z_M_atom_30, z_M_atom_31, z_M_atom_32, z_M_atom_34, z_M_atom_37, z_M_atom_38, z_M_atom_41, z_M_atom_44, z_M_atom_45, false_and, and_false, if_true, if_false, Decidable.not_not, sd_ci, sd_cr, sd_cl9, sd_cu, sd_cat0, sd_cat1, sd_rfS, sd_n01, sd_n11, sd_n1, sd_n10, sd_n00, sd_b01, sd_b0, true_and, and_true, and_self, not_true_eq_false, not_false_eq_true, false_implies, true_implies, implies_true, or_true, true_or, or_false, false_or, Option.toList_some, Option.toList_none, List.cons_append, List.nil_append, Nat.reduceAdd, Nat.reduceLeDiff, nz_sub, nz_lt0, nz_ge0, nz_le0, nz_gt0, nz_eq0, nz_eq1, nz_lt, nz_le, nz_eq, nz_cl, nz_in, nz_add, nz_mul, nz_m1, nz_m1', Nat.reduceMul, Nat.reduceSub, Nat.reduceLT, Nat.reduceEqDiff, not_false_eq_true, false_implies, true_implies, true_and, and_true, h_271, t_272, n_272, t_273, n_273, t_274, n_274, t_275, n_275, t_276, n_276, t_277, n_277, t_278, n_278, t_279, n_279, t_280, n_280, t_281, n_281, t_282, n_282, t_283, n_283, t_284, n_284, t_285, n_285, t_286, n_286, t_287, n_287, t_288, n_288, t_289, n_289, t_290, n_290, t_291, n_291, t_292, n_292, t_293, n_293, t_294, n_294, t_295, n_295, t_296, n_296, t_297, n_297, t_298, n_298, t_299, n_299, t_300, n_300, t_301, n_301, r_271_1, r_271_2, r_271_3, r_271_4, r_271_15, r_271_16, r_271_18, r_271_19, r_271_20, r_271_21, r_271_22, r_271_23, r_271_24, r_271_25, r_271_26, r_271_34, r_271_35, r_271_38, r_271_39, r_271_40, r_271_42, r_271_45, r_271_46, r_271_47, r_271_48, r_271_49, r_271_50, r_271_53, r_271_54, r_271_55, r_271_57, cp, ci, cg]
          exact hq
      · obtain ⟨e1, r1, v1, s1, s2, s3⟩ := hsum (by omega) (tp_ps b n a + 1) (by omega)
        obtain ⟨o1, o2, o3⟩ := s3
        cases r1 with
        | none =>
          refine ⟨e1, none, fun _ => nI 0, ?_, ?_, by omega, o2, fun l q => by cases q⟩
          · intro σ t s h hs
            obtain ⟨σ1, f1, f2, f3, f4⟩ := s1 (sd_wI σ 1 2 (nI (tp_ps b n a + 1))) t s (h.at (by omega)) (by omega)
            refine ⟨σ1, ty_f.at.tr f1, f2, fun l q => (by cases q), fun D Q hD => ?_⟩
            obtain ⟨d, rfl⟩ : ∃ d, D = d + 1 := ⟨D - 1, by omega⟩
            refine sd_Call.iff (fun Q hq => ?_) Q
            have cp := fun Q => k_peek (L := L) (xs := xs) (fm := fm) (D := d) (Q := Q) h.1 (by omega)
            rw [ea] at cp
            have cs := fun Q => f4 d Q (by omega)
            have c6 : dp < 6 := by omega
            rw [sd_Call.start (ls := [.ref 17, .int (nI dp), sd_un, sd_un, sd_un]) m_TasteReader_readAtom (by decide) (Nat.le_of_ble_eq_true rfl) rfl]
            simp (disch := first | exact sd_cr | exact sd_ci | exact sd_cu | exact sd_cl9 | assumption | omega | exact t_259 | exact t_260 | exact t_261 | exact t_262 | exact t_263 | exact t_264 | exact t_254 | exact t_255 | exact t_256 | exact t_257 | exact t_266 | exact t_267 | exact t_268 | exact t_269 | exact t_270 | exact t_252 | exact t_240 | exact t_246 | exact t_2 | exact t_4 | exact t_5 | exact t_13 | exact t_14 | exact t_15 | exact t_16 | exact Or.inl t_39 | exact Or.inr t_7) only [z_TasteReader_readAtom_0, z_TasteReader_readAtom_1, z_TasteReader_readAtom_4, z_TasteReader_readAtom_7, z_TasteReader_readAtom_8, z_TasteReader_readAtom_9, z_TasteReader_readAtom_11, z_TasteReader_readAtom_14, z_TasteReader_readAtom_15, z_TasteReader_readAtom_17, z_TasteReader_readAtom_20, z_TasteReader_readAtom_21, z_TasteReader_readAtom_22, z_TasteReader_readAtom_23, z_TasteReader_readAtom_26, z_TasteReader_readAtom_27, z_TasteReader_readAtom_30, z_TasteReader_readAtom_31, z_TasteReader_readAtom_32, z_TasteReader_readAtom_35, z_TasteReader_readAtom_36, z_TasteReader_readAtom_37, z_TasteReader_readAtom_38, z_TasteReader_readAtom_39, z_TasteReader_readAtom_42, z_TasteReader_readAtom_45, z_TasteReader_readAtom_46, z_TasteReader_readAtom_49, z_TasteReader_readAtom_51, z_TasteReader_readAtom_54, z_TasteReader_readAtom_57, z_TasteReader_readAtom_58, z_TasteReader_readAtom_61, z_TasteReader_readAtom_62, false_and, and_false, if_true, if_false, Decidable.not_not, sd_ci, sd_cr, sd_cl9, sd_cu, sd_cat0, sd_cat1, sd_rfS, sd_n01, sd_n11, sd_n1, sd_n10, sd_n00, sd_b01, sd_b0, true_and, and_true, and_self, not_true_eq_false, not_false_eq_true, false_implies, true_implies, implies_true, or_true, true_or, or_false, false_or, Option.toList_some, Option.toList_none, List.cons_append, List.nil_append, Nat.reduceAdd, Nat.reduceLeDiff, nz_sub, nz_lt0, nz_ge0, nz_le0, nz_gt0, nz_eq0, nz_eq1, nz_lt, nz_le, nz_eq, nz_cl, nz_in, nz_add, nz_mul, nz_m1, nz_m1', Nat.reduceMul, Nat.reduceSub, Nat.reduceLT, Nat.reduceEqDiff, not_false_eq_true, false_implies, true_implies, true_and, and_true, h_0, h_1, t_2, n_2, h_3, t_4, n_4, t_5, n_5, h_6, t_7, n_7, t_8, n_8, t_9, n_9, t_10, n_10, t_11, n_11, t_12, n_12, t_13, n_13, t_14, n_14, t_15, n_15, t_16, n_16, h_17, h_18, t_19, n_19, t_20, n_20, t_21, n_21, t_22, n_22, h_28, t_29, n_29, t_30, n_30, t_31, n_31, t_32, n_32, h_38, t_39, n_39, t_240, n_240, t_246, n_246, t_252, n_252, h_253, t_254, n_254, t_255, n_255, t_256, n_256, t_257, n_257, h_258, t_259, n_259, t_260, n_260, t_261, n_261, t_262, n_262, t_263, n_263, t_264, n_264, h_265, t_266, n_266, t_267, n_267, t_268, n_268, t_269, n_269, t_270, n_270, r_0_0, r_0_1, r_0_2, r_0_3, r_0_6, r_0_7, r_0_8, r_0_9, r_0_11, r_0_12, r_0_13, r_0_14, r_0_15, r_1_0, r_3_0, r_3_1, r_3_2, r_6_0, r_6_1, r_6_4, r_6_5, r_6_7, r_7_0, r_7_1, r_7_2, r_7_3, r_7_4, r_17_0, r_17_1, r_18_1, r_18_2, r_18_3, r_18_4, r_18_6, r_28_1, r_28_2, r_28_3, r_28_4, r_28_6, r_38_0, r_253_0, r_253_1, r_253_2, r_253_3, r_258_0, r_258_1, r_258_3, r_258_4, r_258_6, r_258_8, r_265_0, r_265_1, r_265_3, r_265_4, r_265_5, r_0_4, r_0_5, r_17_0, cp, c6, wI_k, wI_wI, cs, Option.isSome_none, Bool.false_eq_true, sd_bF not_false]
            exact hq
          · intro σ t o ℓ hl h
            have hM := ((h.at hp.2).de (dp' := dp + 1)).at (a' := tp_ps b n a + 1) (by omega)
            obtain ⟨σ1, w1, g1, g2, g3, g4, g5⟩ := s2 _ t o ℓ hl hM
            have g2 := g2 rfl
            refine ⟨σ1, nI 0, (ty_g.w (by decide)).tr ((ty_g.w (by decide)).tr ((ty_g.w (by decide)).tr g1)), fun _ => g2, fun l q => (by cases q), fun q => q.elim, fun D Q hD => ?_⟩
            obtain ⟨d, rfl⟩ : ∃ d, D = d + 1 := ⟨D - 1, by omega⟩
            refine sd_Call.iff (fun Q hq => ?_) Q
            have cp := fun Q => k_look (L := L) (xs := xs) (fm := fm) (D := d) (Q := Q) h.1 (by omega)
            rw [ea] at cp
            have ci : ∀ (σ : sd_Mem) Q, sd_Call (sd_E1 L xs fm) d y_M_isAmong [.ref 415, .int (nI 91)] σ Q ↔ Q (some (.int (nI 0))) σ := fun σ Q => by
              have := k_isAmong (L := L) (xs := xs) (fm := fm) (σ := σ) (Q := Q) (v := nI 91) (i := 5) (D := d) (by decide) (by omega)
              rw [ty_x591] at this
              exact this
            have cg := fun Q => k_goesIn (L := L) (xs := xs) (fm := fm) (D := d) (Q := Q) (h.at hp.2) (by omega) (by omega)
            have cs := fun Q => g5 d Q (by omega)
            have ct := fun Q => k_takes2 (L := L) (xs := xs) (fm := fm) (c := nI 93) (D := d) (Q := Q) g2 (by omega) (by omega)
            rw [sd_Call.start (ls := [.ref 271, sd_un, sd_un, sd_un]) m_M_atom (by decide) (Nat.le_of_ble_eq_true rfl) rfl]
            simp (disch := first | exact sd_cr | exact sd_ci | exact sd_cu | exact sd_cl9 | assumption | omega | exact t_285 | exact t_283 | exact t_278 | exact t_281 | exact t_276 | exact t_274 | exact t_275 | exact t_277 | exact t_279 | exact t_280 | exact t_282 | exact t_284 | exact t_286 | exact t_287 | exact t_288 | exact t_289 | exact t_290 | exact t_291 | exact t_292 | exact t_293 | exact t_294 | exact t_295 | exact t_296 | exact t_297 | exact t_298 | exact t_299 | exact t_300) only [z_M_atom_0, z_M_atom_1, z_M_atom_4, z_M_atom_5, z_M_atom_7, z_M_atom_8, z_M_atom_11, z_M_atom_14, z_M_atom_15, z_M_atom_16, z_M_atom_19, z_M_atom_20, z_M_atom_21, z_M_atom_24, z_M_atom_25, z_M_atom_28, z_M_atom_29, z_M_atom_30, z_M_atom_31, z_M_atom_32, z_M_atom_34, z_M_atom_37, z_M_atom_38, z_M_atom_41, z_M_atom_44, z_M_atom_45, z_M_atom_46, z_M_atom_47, z_M_atom_50, z_M_atom_51, z_M_atom_52, z_M_atom_54, z_M_atom_57, z_M_atom_60, z_M_atom_61, z_M_atom_62, z_M_atom_63, z_M_atom_64, z_M_atom_67, z_M_atom_68, z_M_atom_69, z_M_atom_72, z_M_atom_73, false_and, and_false, if_true, if_false, Decidable.not_not, sd_ci, sd_cr, sd_cl9, sd_cu, sd_cat0, sd_cat1, sd_rfS, sd_n01, sd_n11, sd_n1, sd_n10, sd_n00, sd_b01, sd_b0, true_and, and_true, and_self, not_true_eq_false, not_false_eq_true, false_implies, true_implies, implies_true, or_true, true_or, or_false, false_or, Option.toList_some, Option.toList_none, List.cons_append, List.nil_append, Nat.reduceAdd, Nat.reduceLeDiff, nz_sub, nz_lt0, nz_ge0, nz_le0, nz_gt0, nz_eq0, nz_eq1, nz_lt, nz_le, nz_eq, nz_cl, nz_in, nz_add, nz_mul, nz_m1, nz_m1', Nat.reduceMul, Nat.reduceSub, Nat.reduceLT, Nat.reduceEqDiff, not_false_eq_true, false_implies, true_implies, true_and, and_true, h_271, t_272, n_272, t_273, n_273, t_274, n_274, t_275, n_275, t_276, n_276, t_277, n_277, t_278, n_278, t_279, n_279, t_280, n_280, t_281, n_281, t_282, n_282, t_283, n_283, t_284, n_284, t_285, n_285, t_286, n_286, t_287, n_287, t_288, n_288, t_289, n_289, t_290, n_290, t_291, n_291, t_292, n_292, t_293, n_293, t_294, n_294, t_295, n_295, t_296, n_296, t_297, n_297, t_298, n_298, t_299, n_299, t_300, n_300, t_301, n_301, r_271_1, r_271_2, r_271_3, r_271_4, r_271_15, r_271_16, r_271_18, r_271_19, r_271_20, r_271_21, r_271_22, r_271_23, r_271_24, r_271_25, r_271_26, r_271_34, r_271_35, r_271_38, r_271_39, r_271_40, r_271_42, r_271_45, r_271_46, r_271_47, r_271_48, r_271_49, r_271_50, r_271_53, r_271_54, r_271_55, r_271_57, cp, ci, cg, cs, ct]
            exact hq
        | some l1 =>
          obtain ⟨o4, o5, o6, o7⟩ := o3 l1 rfl
          have hte := tk_e_le (b := b) (c := 93) o2
          by_cases ht : tk_T b n e1 93
          · refine ⟨tk_e b n e1 93, some l1, v1, ?_, ?_, by omega, hte.2.1, fun l q => ?_⟩
            · intro σ t s h hs
              obtain ⟨σ1, f1, f2, f3, f4⟩ := s1 (sd_wI σ 1 2 (nI (tp_ps b n a + 1))) t s (h.at (by omega)) (by omega)
              refine ⟨sd_wI σ1 1 2 (nI (tk_e b n e1 93)), (ty_f.at.tr f1).tr ty_f.at, f2.at hte.2.1, fun l q => (f3 l q).at hte.2.1, fun D Q hD => ?_⟩
              obtain ⟨d, rfl⟩ : ∃ d, D = d + 1 := ⟨D - 1, by omega⟩
              refine sd_Call.iff (fun Q hq => ?_) Q
              have cp := fun Q => k_peek (L := L) (xs := xs) (fm := fm) (D := d) (Q := Q) h.1 (by omega)
              rw [ea] at cp
              have cs := fun Q => f4 d Q (by omega)
              have ct := fun Q => k_take (L := L) (xs := xs) (fm := fm) (c := 93) (D := d) (Q := Q) f2 (by decide) (by omega)
              rw [sd_bT ht] at ct
              have c6 : dp < 6 := by omega
              rw [sd_Call.start (ls := [.ref 17, .int (nI dp), sd_un, sd_un, sd_un]) m_TasteReader_readAtom (by decide) (Nat.le_of_ble_eq_true rfl) rfl]
              simp (disch := first | exact sd_cr | exact sd_ci | exact sd_cu | exact sd_cl9 | assumption | omega | exact t_259 | exact t_260 | exact t_261 | exact t_262 | exact t_263 | exact t_264 | exact t_254 | exact t_255 | exact t_256 | exact t_257 | exact t_266 | exact t_267 | exact t_268 | exact t_269 | exact t_270 | exact t_252 | exact t_240 | exact t_246 | exact t_2 | exact t_4 | exact t_5 | exact t_13 | exact t_14 | exact t_15 | exact t_16 | exact Or.inl t_39 | exact Or.inr t_7) only [z_TasteReader_readAtom_0, z_TasteReader_readAtom_1, z_TasteReader_readAtom_4, z_TasteReader_readAtom_7, z_TasteReader_readAtom_8, z_TasteReader_readAtom_9, z_TasteReader_readAtom_11, z_TasteReader_readAtom_14, z_TasteReader_readAtom_15, z_TasteReader_readAtom_17, z_TasteReader_readAtom_20, z_TasteReader_readAtom_21, z_TasteReader_readAtom_22, z_TasteReader_readAtom_23, z_TasteReader_readAtom_26, z_TasteReader_readAtom_27, z_TasteReader_readAtom_30, z_TasteReader_readAtom_31, z_TasteReader_readAtom_32, z_TasteReader_readAtom_35, z_TasteReader_readAtom_36, z_TasteReader_readAtom_37, z_TasteReader_readAtom_38, z_TasteReader_readAtom_39, z_TasteReader_readAtom_42, z_TasteReader_readAtom_45, z_TasteReader_readAtom_46, z_TasteReader_readAtom_49, z_TasteReader_readAtom_51, z_TasteReader_readAtom_54, z_TasteReader_readAtom_57, z_TasteReader_readAtom_58, z_TasteReader_readAtom_61, z_TasteReader_readAtom_62, false_and, and_false, if_true, if_false, Decidable.not_not, sd_ci, sd_cr, sd_cl9, sd_cu, sd_cat0, sd_cat1, sd_rfS, sd_n01, sd_n11, sd_n1, sd_n10, sd_n00, sd_b01, sd_b0, true_and, and_true, and_self, not_true_eq_false, not_false_eq_true, false_implies, true_implies, implies_true, or_true, true_or, or_false, false_or, Option.toList_some, Option.toList_none, List.cons_append, List.nil_append, Nat.reduceAdd, Nat.reduceLeDiff, nz_sub, nz_lt0, nz_ge0, nz_le0, nz_gt0, nz_eq0, nz_eq1, nz_lt, nz_le, nz_eq, nz_cl, nz_in, nz_add, nz_mul, nz_m1, nz_m1', Nat.reduceMul, Nat.reduceSub, Nat.reduceLT, Nat.reduceEqDiff, not_false_eq_true, false_implies, true_implies, true_and, and_true, h_0, h_1, t_2, n_2, h_3, t_4, n_4, t_5, n_5, h_6, t_7, n_7, t_8, n_8, t_9, n_9, t_10, n_10, t_11, n_11, t_12, n_12, t_13, n_13, t_14, n_14, t_15, n_15, t_16, n_16, h_17, h_18, t_19, n_19, t_20, n_20, t_21, n_21, t_22, n_22, h_28, t_29, n_29, t_30, n_30, t_31, n_31, t_32, n_32, h_38, t_39, n_39, t_240, n_240, t_246, n_246, t_252, n_252, h_253, t_254, n_254, t_255, n_255, t_256, n_256, t_257, n_257, h_258, t_259, n_259, t_260, n_260, t_261, n_261, t_262, n_262, t_263, n_263, t_264, n_264, h_265, t_266, n_266, t_267, n_267, t_268, n_268, t_269, n_269, t_270, n_270, r_0_0, r_0_1, r_0_2, r_0_3, r_0_6, r_0_7, r_0_8, r_0_9, r_0_11, r_0_12, r_0_13, r_0_14, r_0_15, r_1_0, r_3_0, r_3_1, r_3_2, r_6_0, r_6_1, r_6_4, r_6_5, r_6_7, r_7_0, r_7_1, r_7_2, r_7_3, r_7_4, r_17_0, r_17_1, r_18_1, r_18_2, r_18_3, r_18_4, r_18_6, r_28_1, r_28_2, r_28_3, r_28_4, r_28_6, r_38_0, r_253_0, r_253_1, r_253_2, r_253_3, r_258_0, r_258_1, r_258_3, r_258_4, r_258_6, r_258_8, r_265_0, r_265_1, r_265_3, r_265_4, r_265_5, r_0_4, r_0_5, r_17_0, cp, c6, wI_k, wI_wI, cs, ct, Option.isSome_some, sd_bT trivial]
              exact hq
            · intro σ t o ℓ hl h
              have hM := ((h.at hp.2).de (dp' := dp + 1)).at (a' := tp_ps b n a + 1) (by omega)
              obtain ⟨σ1, w1, g1, g2, g3, g4, g5⟩ := s2 _ t o ℓ hl hM
              obtain ⟨gM, gw⟩ := g3 l1 rfl
              have gM2 := (gM.at (a' := tk_e b n e1 93) hte.2.1).de (dp' := dp)
              refine ⟨_, w1, (ty_g.w (by decide)).tr ((ty_g.w (by decide)).tr ((ty_g.w (by decide)).tr (g1.tr ((ty_g.w (by decide)).tr (ty_g.w (by decide)))))), fun q => (by cases q), fun l q => ⟨gM2, gw⟩, fun q => q.elim, fun D Q hD => ?_⟩
              obtain ⟨d, rfl⟩ : ∃ d, D = d + 1 := ⟨D - 1, by omega⟩
              refine sd_Call.iff (fun Q hq => ?_) Q
              have cp := fun Q => k_look (L := L) (xs := xs) (fm := fm) (D := d) (Q := Q) h.1 (by omega)
              rw [ea] at cp
              have ci : ∀ (σ : sd_Mem) Q, sd_Call (sd_E1 L xs fm) d y_M_isAmong [.ref 415, .int (nI 91)] σ Q ↔ Q (some (.int (nI 0))) σ := fun σ Q => by
                have := k_isAmong (L := L) (xs := xs) (fm := fm) (σ := σ) (Q := Q) (v := nI 91) (i := 5) (D := d) (by decide) (by omega)
                rw [ty_x591] at this
                exact this
              have cg := fun Q => k_goesIn (L := L) (xs := xs) (fm := fm) (D := d) (Q := Q) (h.at hp.2) (by omega) (by omega)
              have cs := fun Q => g5 d Q (by omega)
              have ct := fun Q => k_takes (L := L) (xs := xs) (fm := fm) (c := 93) (D := d) (Q := Q) gM.1 gM.2.1 (by decide) (by omega)
              rw [sd_bT ht, if_pos ht] at ct
              have e12 : (sd_wI σ1 271 10 (nI (tk_e b n e1 93))).1 271 12 = nI (dp + 1) := by rw [wI_o (by decide)]; exact gM.2.2.1
              rw [sd_Call.start (ls := [.ref 271, sd_un, sd_un, sd_un]) m_M_atom (by decide) (Nat.le_of_ble_eq_true rfl) rfl]
              simp (disch := first | exact sd_cr | exact sd_ci | exact sd_cu | exact sd_cl9 | assumption | omega | exact t_285 | exact t_283 | exact t_278 | exact t_281 | exact t_276 | exact t_274 | exact t_275 | exact t_277 | exact t_279 | exact t_280 | exact t_282 | exact t_284 | exact t_286 | exact t_287 | exact t_288 | exact t_289 | exact t_290 | exact t_291 | exact t_292 | exact t_293 | exact t_294 | exact t_295 | exact t_296 | exact t_297 | exact t_298 | exact t_299 | exact t_300) only [z_M_atom_0, z_M_atom_1, z_M_atom_4, z_M_atom_5, z_M_atom_7, z_M_atom_8, z_M_atom_11, z_M_atom_14, z_M_atom_15, z_M_atom_16, z_M_atom_19, z_M_atom_20, z_M_atom_21, z_M_atom_24, z_M_atom_25, z_M_atom_28, z_M_atom_29, z_M_atom_30, z_M_atom_31, z_M_atom_32, z_M_atom_34, z_M_atom_37, z_M_atom_38, z_M_atom_41, z_M_atom_44, z_M_atom_45, z_M_atom_46, z_M_atom_47, z_M_atom_50, z_M_atom_51, z_M_atom_52, z_M_atom_54, z_M_atom_57, z_M_atom_60, z_M_atom_61, z_M_atom_62, z_M_atom_63, z_M_atom_64, z_M_atom_67, z_M_atom_68, z_M_atom_69, z_M_atom_72, z_M_atom_73, false_and, and_false, if_true, if_false, Decidable.not_not, sd_ci, sd_cr, sd_cl9, sd_cu, sd_cat0, sd_cat1, sd_rfS, sd_n01, sd_n11, sd_n1, sd_n10, sd_n00, sd_b01, sd_b0, true_and, and_true, and_self, not_true_eq_false, not_false_eq_true, false_implies, true_implies, implies_true, or_true, true_or, or_false, false_or, Option.toList_some, Option.toList_none, List.cons_append, List.nil_append, Nat.reduceAdd, Nat.reduceLeDiff, nz_sub, nz_lt0, nz_ge0, nz_le0, nz_gt0, nz_eq0, nz_eq1, nz_lt, nz_le, nz_eq, nz_cl, nz_in, nz_add, nz_mul, nz_m1, nz_m1', Nat.reduceMul, Nat.reduceSub, Nat.reduceLT, Nat.reduceEqDiff, not_false_eq_true, false_implies, true_implies, true_and, and_true, h_271, t_272, n_272, t_273, n_273, t_274, n_274, t_275, n_275, t_276, n_276, t_277, n_277, t_278, n_278, t_279, n_279, t_280, n_280, t_281, n_281, t_282, n_282, t_283, n_283, t_284, n_284, t_285, n_285, t_286, n_286, t_287, n_287, t_288, n_288, t_289, n_289, t_290, n_290, t_291, n_291, t_292, n_292, t_293, n_293, t_294, n_294, t_295, n_295, t_296, n_296, t_297, n_297, t_298, n_298, t_299, n_299, t_300, n_300, t_301, n_301, r_271_1, r_271_2, r_271_3, r_271_4, r_271_15, r_271_16, r_271_18, r_271_19, r_271_20, r_271_21, r_271_22, r_271_23, r_271_24, r_271_25, r_271_26, r_271_34, r_271_35, r_271_38, r_271_39, r_271_40, r_271_42, r_271_45, r_271_46, r_271_47, r_271_48, r_271_49, r_271_50, r_271_53, r_271_54, r_271_55, r_271_57, cp, ci, cg, cs, ct, e12, Nat.add_sub_cancel]
              exact hq
            · cases q
              exact ⟨by omega, by omega, o6, o7⟩
          · refine ⟨tk_e b n e1 93, none, fun _ => nI 0, ?_, ?_, by omega, hte.2.1, fun l q => by cases q⟩
            · intro σ t s h hs
              obtain ⟨σ1, f1, f2, f3, f4⟩ := s1 (sd_wI σ 1 2 (nI (tp_ps b n a + 1))) t s (h.at (by omega)) (by omega)
              refine ⟨sd_wI σ1 1 2 (nI (tk_e b n e1 93)), (ty_f.at.tr f1).tr ty_f.at, f2.at hte.2.1, fun l q => (by cases q), fun D Q hD => ?_⟩
              obtain ⟨d, rfl⟩ : ∃ d, D = d + 1 := ⟨D - 1, by omega⟩
              refine sd_Call.iff (fun Q hq => ?_) Q
              have cp := fun Q => k_peek (L := L) (xs := xs) (fm := fm) (D := d) (Q := Q) h.1 (by omega)
              rw [ea] at cp
              have cs := fun Q => f4 d Q (by omega)
              have ct := fun Q => k_take (L := L) (xs := xs) (fm := fm) (c := 93) (D := d) (Q := Q) f2 (by decide) (by omega)
              rw [sd_bF ht] at ct
              have c6 : dp < 6 := by omega
              rw [sd_Call.start (ls := [.ref 17, .int (nI dp), sd_un, sd_un, sd_un]) m_TasteReader_readAtom (by decide) (Nat.le_of_ble_eq_true rfl) rfl]
              simp (disch := first | exact sd_cr | exact sd_ci | exact sd_cu | exact sd_cl9 | assumption | omega | exact t_259 | exact t_260 | exact t_261 | exact t_262 | exact t_263 | exact t_264 | exact t_254 | exact t_255 | exact t_256 | exact t_257 | exact t_266 | exact t_267 | exact t_268 | exact t_269 | exact t_270 | exact t_252 | exact t_240 | exact t_246 | exact t_2 | exact t_4 | exact t_5 | exact t_13 | exact t_14 | exact t_15 | exact t_16 | exact Or.inl t_39 | exact Or.inr t_7) only [z_TasteReader_readAtom_0, z_TasteReader_readAtom_1, z_TasteReader_readAtom_4, z_TasteReader_readAtom_7, z_TasteReader_readAtom_8, z_TasteReader_readAtom_9, z_TasteReader_readAtom_11, z_TasteReader_readAtom_14, z_TasteReader_readAtom_15, z_TasteReader_readAtom_17, z_TasteReader_readAtom_20, z_TasteReader_readAtom_21, z_TasteReader_readAtom_22, z_TasteReader_readAtom_23, z_TasteReader_readAtom_26, z_TasteReader_readAtom_27, z_TasteReader_readAtom_30, z_TasteReader_readAtom_31, z_TasteReader_readAtom_32, z_TasteReader_readAtom_35, z_TasteReader_readAtom_36, z_TasteReader_readAtom_37, z_TasteReader_readAtom_38, z_TasteReader_readAtom_39, z_TasteReader_readAtom_42, z_TasteReader_readAtom_45, z_TasteReader_readAtom_46, z_TasteReader_readAtom_49, z_TasteReader_readAtom_51, z_TasteReader_readAtom_54, z_TasteReader_readAtom_57, z_TasteReader_readAtom_58, z_TasteReader_readAtom_61, z_TasteReader_readAtom_62, false_and, and_false, if_true, if_false, Decidable.not_not, sd_ci, sd_cr, sd_cl9, sd_cu, sd_cat0, sd_cat1, sd_rfS, sd_n01, sd_n11, sd_n1, sd_n10, sd_n00, sd_b01, sd_b0, true_and, and_true, and_self, not_true_eq_false, not_false_eq_true, false_implies, true_implies, implies_true, or_true, true_or, or_false, false_or, Option.toList_some, Option.toList_none, List.cons_append, List.nil_append, Nat.reduceAdd, Nat.reduceLeDiff, nz_sub, nz_lt0, nz_ge0, nz_le0, nz_gt0, nz_eq0, nz_eq1, nz_lt, nz_le, nz_eq, nz_cl, nz_in, nz_add, nz_mul, nz_m1, nz_m1', Nat.reduceMul, Nat.reduceSub, Nat.reduceLT, Nat.reduceEqDiff, not_false_eq_true, false_implies, true_implies, true_and, and_true, h_0, h_1, t_2, n_2, h_3, t_4, n_4, t_5, n_5, h_6, t_7, n_7, t_8, n_8, t_9, n_9, t_10, n_10, t_11, n_11, t_12, n_12, t_13, n_13, t_14, n_14, t_15, n_15, t_16, n_16, h_17, h_18, t_19, n_19, t_20, n_20, t_21, n_21, t_22, n_22, h_28, t_29, n_29, t_30, n_30, t_31, n_31, t_32, n_32, h_38, t_39, n_39, t_240, n_240, t_246, n_246, t_252, n_252, h_253, t_254, n_254, t_255, n_255, t_256, n_256, t_257, n_257, h_258, t_259, n_259, t_260, n_260, t_261, n_261, t_262, n_262, t_263, n_263, t_264, n_264, h_265, t_266, n_266, t_267, n_267, t_268, n_268, t_269, n_269, t_270, n_270, r_0_0, r_0_1, r_0_2, r_0_3, r_0_6, r_0_7, r_0_8, r_0_9, r_0_11, r_0_12, r_0_13, r_0_14, r_0_15, r_1_0, r_3_0, r_3_1, r_3_2, r_6_0, r_6_1, r_6_4, r_6_5, r_6_7, r_7_0, r_7_1, r_7_2, r_7_3, r_7_4, r_17_0, r_17_1, r_18_1, r_18_2, r_18_3, r_18_4, r_18_6, r_28_1, r_28_2, r_28_3, r_28_4, r_28_6, r_38_0, r_253_0, r_253_1, r_253_2, r_253_3, r_258_0, r_258_1, r_258_3, r_258_4, r_258_6, r_258_8, r_265_0, r_265_1, r_265_3, r_265_4, r_265_5, r_0_4, r_0_5, r_17_0, cp, c6, wI_k, wI_wI, cs, ct, Option.isSome_some, sd_bT trivial]
              exact hq
            · intro σ t o ℓ hl h
              have hM := ((h.at hp.2).de (dp' := dp + 1)).at (a' := tp_ps b n a + 1) (by omega)
              obtain ⟨σ1, w1, g1, g2, g3, g4, g5⟩ := s2 _ t o ℓ hl hM
              obtain ⟨gM, gw⟩ := g3 l1 rfl
              refine ⟨_, nI 0, (ty_g.w (by decide)).tr ((ty_g.w (by decide)).tr ((ty_g.w (by decide)).tr (g1.tr ((ty_g.w (j := 10) (v := nI (tk_e b n e1 93)) (by decide)).tr (ty_g.w (j := 11) (v := nI (tk_e b n e1 93)) (by decide)))))), fun q => wI_k, fun l q => (by cases q), fun q => q.elim, fun D Q hD => ?_⟩
              obtain ⟨d, rfl⟩ : ∃ d, D = d + 1 := ⟨D - 1, by omega⟩
              refine sd_Call.iff (fun Q hq => ?_) Q
              have cp := fun Q => k_look (L := L) (xs := xs) (fm := fm) (D := d) (Q := Q) h.1 (by omega)
              rw [ea] at cp
              have ci : ∀ (σ : sd_Mem) Q, sd_Call (sd_E1 L xs fm) d y_M_isAmong [.ref 415, .int (nI 91)] σ Q ↔ Q (some (.int (nI 0))) σ := fun σ Q => by
                have := k_isAmong (L := L) (xs := xs) (fm := fm) (σ := σ) (Q := Q) (v := nI 91) (i := 5) (D := d) (by decide) (by omega)
                rw [ty_x591] at this
                exact this
              have cg := fun Q => k_goesIn (L := L) (xs := xs) (fm := fm) (D := d) (Q := Q) (h.at hp.2) (by omega) (by omega)
              have cs := fun Q => g5 d Q (by omega)
              have ct := fun Q => k_takes (L := L) (xs := xs) (fm := fm) (c := 93) (D := d) (Q := Q) gM.1 gM.2.1 (by decide) (by omega)
              rw [sd_bF ht, if_neg ht] at ct
              rw [sd_Call.start (ls := [.ref 271, sd_un, sd_un, sd_un]) m_M_atom (by decide) (Nat.le_of_ble_eq_true rfl) rfl]
              simp (disch := first | exact sd_cr | exact sd_ci | exact sd_cu | exact sd_cl9 | assumption | omega | exact t_285 | exact t_283 | exact t_278 | exact t_281 | exact t_276 | exact t_274 | exact t_275 | exact t_277 | exact t_279 | exact t_280 | exact t_282 | exact t_284 | exact t_286 | exact t_287 | exact t_288 | exact t_289 | exact t_290 | exact t_291 | exact t_292 | exact t_293 | exact t_294 | exact t_295 | exact t_296 | exact t_297 | exact t_298 | exact t_299 | exact t_300) only [z_M_atom_0, z_M_atom_1, z_M_atom_4, z_M_atom_5, z_M_atom_7, z_M_atom_8, z_M_atom_11, z_M_atom_14, z_M_atom_15, z_M_atom_16, z_M_atom_19, z_M_atom_20, z_M_atom_21, z_M_atom_24, z_M_atom_25, z_M_atom_28, z_M_atom_29, z_M_atom_30, z_M_atom_31, z_M_atom_32, z_M_atom_34, z_M_atom_37, z_M_atom_38, z_M_atom_41, z_M_atom_44, z_M_atom_45, z_M_atom_46, z_M_atom_47, z_M_atom_50, z_M_atom_51, z_M_atom_52, z_M_atom_54, z_M_atom_57, z_M_atom_60, z_M_atom_61, z_M_atom_62, z_M_atom_63, z_M_atom_64, z_M_atom_67, z_M_atom_68, z_M_atom_69, z_M_atom_72, z_M_atom_73, false_and, and_false, if_true, if_false, Decidable.not_not, sd_ci, sd_cr, sd_cl9, sd_cu, sd_cat0, sd_cat1, sd_rfS, sd_n01, sd_n11, sd_n1, sd_n10, sd_n00, sd_b01, sd_b0, true_and, and_true, and_self, not_true_eq_false, not_false_eq_true, false_implies, true_implies, implies_true, or_true, true_or, or_false, false_or, Option.toList_some, Option.toList_none, List.cons_append, List.nil_append, Nat.reduceAdd, Nat.reduceLeDiff, nz_sub, nz_lt0, nz_ge0, nz_le0, nz_gt0, nz_eq0, nz_eq1, nz_lt, nz_le, nz_eq, nz_cl, nz_in, nz_add, nz_mul, nz_m1, nz_m1', Nat.reduceMul, Nat.reduceSub, Nat.reduceLT, Nat.reduceEqDiff, not_false_eq_true, false_implies, true_implies, true_and, and_true, h_271, t_272, n_272, t_273, n_273, t_274, n_274, t_275, n_275, t_276, n_276, t_277, n_277, t_278, n_278, t_279, n_279, t_280, n_280, t_281, n_281, t_282, n_282, t_283, n_283, t_284, n_284, t_285, n_285, t_286, n_286, t_287, n_287, t_288, n_288, t_289, n_289, t_290, n_290, t_291, n_291, t_292, n_292, t_293, n_293, t_294, n_294, t_295, n_295, t_296, n_296, t_297, n_297, t_298, n_298, t_299, n_299, t_300, n_300, t_301, n_301, r_271_1, r_271_2, r_271_3, r_271_4, r_271_15, r_271_16, r_271_18, r_271_19, r_271_20, r_271_21, r_271_22, r_271_23, r_271_24, r_271_25, r_271_26, r_271_34, r_271_35, r_271_38, r_271_39, r_271_40, r_271_42, r_271_45, r_271_46, r_271_47, r_271_48, r_271_49, r_271_50, r_271_53, r_271_54, r_271_55, r_271_57, cp, ci, cg, cs, ct]
              exact hq
    · cases hx : tx_x 5 (nI (b (tp_ps b n a))) with
      | some kk =>
        obtain ⟨hk6, hkb⟩ := ty_x5 _ hbp kk hx
        refine ⟨tp_ps b n a + 1, some [10000 + kk], fun ℓ => ℓ kk, ?_, ?_, by omega, by omega, fun l q => ?_⟩
        · intro σ t s h hs
          have hX := h.at (a' := tp_ps b n a + 1) (by omega)
          have hw := hX.wr (by omega) (w := 10000 + kk)
          refine ⟨_, ty_f.at.tr hw.2, hw.1.1, fun l q => (by cases q; exact hw.1), fun D Q hD => ?_⟩
          obtain ⟨d, rfl⟩ : ∃ d, D = d + 1 := ⟨D - 1, by omega⟩
          refine sd_Call.iff (fun Q hq => ?_) Q
          have cp := fun Q => k_peek (L := L) (xs := xs) (fm := fm) (D := d) (Q := Q) h.1 (by omega)
          rw [ea] at cp
          have ci : ∀ (σ : sd_Mem) Q, sd_Call (sd_E1 L xs fm) d y_Str_indexOf [.ref 415, .int (nI (b (tp_ps b n a)))] σ Q ↔ Q (some (.int (nI kk))) σ := fun σ Q => by
            have := k_indexOf (L := L) (xs := xs) (fm := fm) (σ := σ) (Q := Q) (i := 5) (D := d) (by decide) hbp (by omega)
            rw [hx] at this
            exact this
          have cw := fun Q => k_write (L := L) (xs := xs) (fm := fm) (D := d) (Q := Q) (w := 10000 + kk) hX (by omega) (by omega)
          rw [sd_Call.start (ls := [.ref 17, .int (nI dp), sd_un, sd_un, sd_un]) m_TasteReader_readAtom (by decide) (Nat.le_of_ble_eq_true rfl) rfl]
          simp (disch := first | exact sd_cr | exact sd_ci | exact sd_cu | exact sd_cl9 | assumption | omega | exact t_259 | exact t_260 | exact t_261 | exact t_262 | exact t_263 | exact t_264 | exact t_254 | exact t_255 | exact t_256 | exact t_257 | exact t_266 | exact t_267 | exact t_268 | exact t_269 | exact t_270 | exact t_252 | exact t_240 | exact t_246 | exact t_2 | exact t_4 | exact t_5 | exact t_13 | exact t_14 | exact t_15 | exact t_16 | exact Or.inl t_39 | exact Or.inr t_7) only [z_TasteReader_readAtom_0, z_TasteReader_readAtom_1, z_TasteReader_readAtom_4, z_TasteReader_readAtom_7, z_TasteReader_readAtom_8, z_TasteReader_readAtom_9, z_TasteReader_readAtom_11, z_TasteReader_readAtom_63, z_TasteReader_readAtom_64, z_TasteReader_readAtom_65, z_TasteReader_readAtom_68, z_TasteReader_readAtom_69, z_TasteReader_readAtom_72, z_TasteReader_readAtom_74, z_TasteReader_readAtom_75, z_TasteReader_readAtom_76, z_TasteReader_readAtom_79, z_TasteReader_readAtom_80, z_TasteReader_readAtom_81, z_TasteReader_readAtom_84, z_TasteReader_readAtom_85, z_TasteReader_readAtom_88, z_TasteReader_readAtom_89, z_TasteReader_readAtom_92, z_TasteReader_readAtom_93, z_TasteReader_readAtom_94, z_TasteReader_readAtom_97, z_TasteReader_readAtom_98, z_TasteReader_readAtom_101, z_TasteReader_readAtom_102, z_TasteReader_readAtom_103, z_TasteReader_readAtom_106, z_TasteReader_readAtom_107, false_and, and_false, if_true, if_false, Decidable.not_not, sd_ci, sd_cr, sd_cl9, sd_cu, sd_cat0, sd_cat1, sd_rfS, sd_n01, sd_n11, sd_n1, sd_n10, sd_n00, sd_b01, sd_b0, true_and, and_true, and_self, not_true_eq_false, not_false_eq_true, false_implies, true_implies, implies_true, or_true, true_or, or_false, false_or, Option.toList_some, Option.toList_none, List.cons_append, List.nil_append, Nat.reduceAdd, Nat.reduceLeDiff, nz_sub, nz_lt0, nz_ge0, nz_le0, nz_gt0, nz_eq0, nz_eq1, nz_lt, nz_le, nz_eq, nz_cl, nz_in, nz_add, nz_mul, nz_m1, nz_m1', Nat.reduceMul, Nat.reduceSub, Nat.reduceLT, Nat.reduceEqDiff, not_false_eq_true, false_implies, true_implies, true_and, and_true, h_0, h_1, t_2, n_2, h_3, t_4, n_4, t_5, n_5, h_6, t_7, n_7, t_8, n_8, t_9, n_9, t_10, n_10, t_11, n_11, t_12, n_12, t_13, n_13, t_14, n_14, t_15, n_15, t_16, n_16, h_17, h_18, t_19, n_19, t_20, n_20, t_21, n_21, t_22, n_22, h_28, t_29, n_29, t_30, n_30, t_31, n_31, t_32, n_32, h_38, t_39, n_39, t_240, n_240, t_246, n_246, t_252, n_252, h_253, t_254, n_254, t_255, n_255, t_256, n_256, t_257, n_257, h_258, t_259, n_259, t_260, n_260, t_261, n_261, t_262, n_262, t_263, n_263, t_264, n_264, h_265, t_266, n_266, t_267, n_267, t_268, n_268, t_269, n_269, t_270, n_270, r_0_0, r_0_1, r_0_2, r_0_3, r_0_6, r_0_7, r_0_8, r_0_9, r_0_11, r_0_12, r_0_13, r_0_14, r_0_15, r_1_0, r_3_0, r_3_1, r_3_2, r_6_0, r_6_1, r_6_4, r_6_5, r_6_7, r_7_0, r_7_1, r_7_2, r_7_3, r_7_4, r_17_0, r_17_1, r_18_1, r_18_2, r_18_3, r_18_4, r_18_6, r_28_1, r_28_2, r_28_3, r_28_4, r_28_6, r_38_0, r_253_0, r_253_1, r_253_2, r_253_3, r_258_0, r_258_1, r_258_3, r_258_4, r_258_6, r_258_8, r_265_0, r_265_1, r_265_3, r_265_4, r_265_5, r_0_4, r_0_5, r_17_0, cp, h91, tx_c2 _ hbp, ci, wI_k, wI_wI, cw]
          exact hq
        · intro σ t o ℓ hl h
          refine ⟨sd_wI σ 271 10 (nI (tp_ps b n a + 1)), ℓ kk, ty_g.w (by decide), fun q => (by cases q), fun l q => ⟨h.at (by omega), rfl⟩, fun q => q.elim, fun D Q hD => ?_⟩
          obtain ⟨d, rfl⟩ : ∃ d, D = d + 1 := ⟨D - 1, by omega⟩
          refine sd_Call.iff (fun Q hq => ?_) Q
          have cp := fun Q => k_look (L := L) (xs := xs) (fm := fm) (D := d) (Q := Q) h.1 (by omega)
          rw [ea] at cp
          have ci : ∀ (σ : sd_Mem) Q, sd_Call (sd_E1 L xs fm) d y_M_isAmong [.ref 415, .int (nI (b (tp_ps b n a)))] σ Q ↔ Q (some (.int (nI 1))) σ := fun σ Q => by
            have := k_isAmong (L := L) (xs := xs) (fm := fm) (σ := σ) (Q := Q) (v := nI (b (tp_ps b n a))) (i := 5) (D := d) (by decide) (by omega)
            rw [hx] at this
            exact this
          have el : (sd_wI σ 271 10 (nI (tp_ps b n a + 1))).1 275 (b (tp_ps b n a)) = ℓ kk := by
            rw [wI_c (by decide), hkb]
            exact ty_lt h.2.2.2 hk6
          have c128 : b (tp_ps b n a) < 128 := by rw [hkb]; exact tx_e3 5 (by decide) kk hk6
          rw [sd_Call.start (ls := [.ref 271, sd_un, sd_un, sd_un]) m_M_atom (by decide) (Nat.le_of_ble_eq_true rfl) rfl]
          simp (disch := first | exact sd_cr | exact sd_ci | exact sd_cu | exact sd_cl9 | assumption | omega | exact t_285 | exact t_283 | exact t_278 | exact t_281 | exact t_276 | exact t_274 | exact t_275 | exact t_277 | exact t_279 | exact t_280 | exact t_282 | exact t_284 | exact t_286 | exact t_287 | exact t_288 | exact t_289 | exact t_290 | exact t_291 | exact t_292 | exact t_293 | exact t_294 | exact t_295 | exact t_296 | exact t_297 | exact t_298 | exact t_299 | exact t_300) only [z_M_atom_0, z_M_atom_1, z_M_atom_4, z_M_atom_5, z_M_atom_7, z_M_atom_8, z_M_atom_11, z_M_atom_14, z_M_atom_15, z_M_atom_16, z_M_atom_19, z_M_atom_20, z_M_atom_21, z_M_atom_24, z_M_atom_25, z_M_atom_28, z_M_atom_29, z_M_atom_30, false_and, and_false, if_true, if_false, Decidable.not_not, sd_ci, sd_cr, sd_cl9, sd_cu, sd_cat0, sd_cat1, sd_rfS, sd_n01, sd_n11, sd_n1, sd_n10, sd_n00, sd_b01, sd_b0, true_and, and_true, and_self, not_true_eq_false, not_false_eq_true, false_implies, true_implies, implies_true, or_true, true_or, or_false, false_or, Option.toList_some, Option.toList_none, List.cons_append, List.nil_append, Nat.reduceAdd, Nat.reduceLeDiff, nz_sub, nz_lt0, nz_ge0, nz_le0, nz_gt0, nz_eq0, nz_eq1, nz_lt, nz_le, nz_eq, nz_cl, nz_in, nz_add, nz_mul, nz_m1, nz_m1', Nat.reduceMul, Nat.reduceSub, Nat.reduceLT, Nat.reduceEqDiff, not_false_eq_true, false_implies, true_implies, true_and, and_true, h_271, t_272, n_272, t_273, n_273, t_274, n_274, t_275, n_275, t_276, n_276, t_277, n_277, t_278, n_278, t_279, n_279, t_280, n_280, t_281, n_281, t_282, n_282, t_283, n_283, t_284, n_284, t_285, n_285, t_286, n_286, t_287, n_287, t_288, n_288, t_289, n_289, t_290, n_290, t_291, n_291, t_292, n_292, t_293, n_293, t_294, n_294, t_295, n_295, t_296, n_296, t_297, n_297, t_298, n_298, t_299, n_299, t_300, n_300, t_301, n_301, r_271_1, r_271_2, r_271_3, r_271_4, r_271_15, r_271_16, r_271_18, r_271_19, r_271_20, r_271_21, r_271_22, r_271_23, r_271_24, r_271_25, r_271_26, r_271_34, r_271_35, r_271_38, r_271_39, r_271_40, r_271_42, r_271_45, r_271_46, r_271_47, r_271_48, r_271_49, r_271_50, r_271_53, r_271_54, r_271_55, r_271_57, cp, ci, wI_k, wI_wI, el, c128]
          exact hq
        · cases q
          refine ⟨by show a + 1 ≤ _; omega, by omega, fun w hw => ?_, fun ℓ hl => ⟨⟨?_, fun q => q.elim⟩, fun st => ty_El hk6⟩⟩
          · have : w = 10000 + kk := by simpa using hw
            exact ⟨Or.inl (by omega), by omega⟩
          · obtain ⟨m, m1, m2⟩ := hl kk hk6
            show ty_bd (ℓ kk)
            rw [m2]
            exact ty_bd_n (by omega)
      | none =>
        have hps := tp_ps_i (b := b) ha
        have hv := dg_e_v (b := b) (n := n) 4 0 (tp_ps b n a) 0 rfl (by omega) (by omega) (by omega) (by omega) (by omega)
        have hle := nb_e_le (b := b) (dg := 4) (lo := 0) (hi := 9999) hp.2 (by decide)
        have hX1 : ∀ (σ : sd_Mem) t s, ty_X σ b n a t s → ∀ d Q, 7 ≤ d → ∃ Q', (Q' = fun v σ2 => sd_Go (sd_E1 L xs fm) d y_TasteReader_readAtom 120 [.ref 17, .int (nI dp), .int (nI (b (tp_ps b n a))), .int (-1), sd_un] (v.toList ++ []) σ2 Q) ∧ (Q' (some (.int (rw_fv (nb_e b n 4 0 9999 (tp_ps b n a)).2))) (sd_wI σ 1 2 (nI (nb_e b n 4 0 9999 (tp_ps b n a)).1)) → sd_Go (sd_E1 L xs fm) d y_TasteReader_readAtom 0 [.ref 17, .int (nI dp), sd_un, sd_un, sd_un] [] σ Q) := by
          intro σ t s h d Q hd
          refine ⟨_, rfl, fun hq => ?_⟩
          have cp := fun Q => k_peek (L := L) (xs := xs) (fm := fm) (D := d) (Q := Q) h.1 (by omega)
          rw [ea] at cp
          have ci : ∀ (σ : sd_Mem) Q, sd_Call (sd_E1 L xs fm) d y_Str_indexOf [.ref 415, .int (nI (b (tp_ps b n a)))] σ Q ↔ Q (some (.int (-1))) σ := fun σ Q => by
            have := k_indexOf (L := L) (xs := xs) (fm := fm) (σ := σ) (Q := Q) (i := 5) (D := d) (by decide) hbp (by omega)
            rw [hx] at this
            exact this
          have cn := fun Q => k_readNumber (L := L) (xs := xs) (fm := fm) (D := d) (Q := Q) (lo := 0) (hi := 9999) (dg := 4) (by decide) (by decide) (by decide) (by decide) (h.1.at hp.2) (by omega)
          have m1 : (-1 : Int32) < 0 := by decide
          rw [wI_wI] at cn
          simp (disch := first | exact sd_cr | exact sd_ci | exact sd_cu | exact sd_cl9 | assumption | omega | exact t_259 | exact t_260 | exact t_261 | exact t_262 | exact t_263 | exact t_264 | exact t_254 | exact t_255 | exact t_256 | exact t_257 | exact t_266 | exact t_267 | exact t_268 | exact t_269 | exact t_270 | exact t_252 | exact t_240 | exact t_246 | exact t_2 | exact t_4 | exact t_5 | exact t_13 | exact t_14 | exact t_15 | exact t_16 | exact Or.inl t_39 | exact Or.inr t_7) only [z_TasteReader_readAtom_0, z_TasteReader_readAtom_1, z_TasteReader_readAtom_4, z_TasteReader_readAtom_7, z_TasteReader_readAtom_8, z_TasteReader_readAtom_9, z_TasteReader_readAtom_11, z_TasteReader_readAtom_63, z_TasteReader_readAtom_64, z_TasteReader_readAtom_65, z_TasteReader_readAtom_68, z_TasteReader_readAtom_69, z_TasteReader_readAtom_72, z_TasteReader_readAtom_74, z_TasteReader_readAtom_75, z_TasteReader_readAtom_76, z_TasteReader_readAtom_79, z_TasteReader_readAtom_80, z_TasteReader_readAtom_81, z_TasteReader_readAtom_84, z_TasteReader_readAtom_85, z_TasteReader_readAtom_88, z_TasteReader_readAtom_89, z_TasteReader_readAtom_92, z_TasteReader_readAtom_93, z_TasteReader_readAtom_94, z_TasteReader_readAtom_97, z_TasteReader_readAtom_98, z_TasteReader_readAtom_101, z_TasteReader_readAtom_102, z_TasteReader_readAtom_103, z_TasteReader_readAtom_106, z_TasteReader_readAtom_107, z_TasteReader_readAtom_108, z_TasteReader_readAtom_109, z_TasteReader_readAtom_112, z_TasteReader_readAtom_113, z_TasteReader_readAtom_114, z_TasteReader_readAtom_117, false_and, and_false, if_true, if_false, Decidable.not_not, sd_ci, sd_cr, sd_cl9, sd_cu, sd_cat0, sd_cat1, sd_rfS, sd_n01, sd_n11, sd_n1, sd_n10, sd_n00, sd_b01, sd_b0, true_and, and_true, and_self, not_true_eq_false, not_false_eq_true, false_implies, true_implies, implies_true, or_true, true_or, or_false, false_or, Option.toList_some, Option.toList_none, List.cons_append, List.nil_append, Nat.reduceAdd, Nat.reduceLeDiff, nz_sub, nz_lt0, nz_ge0, nz_le0, nz_gt0, nz_eq0, nz_eq1, nz_lt, nz_le, nz_eq, nz_cl, nz_in, nz_add, nz_mul, nz_m1, nz_m1', Nat.reduceMul, Nat.reduceSub, Nat.reduceLT, Nat.reduceEqDiff, not_false_eq_true, false_implies, true_implies, true_and, and_true, h_0, h_1, t_2, n_2, h_3, t_4, n_4, t_5, n_5, h_6, t_7, n_7, t_8, n_8, t_9, n_9, t_10, n_10, t_11, n_11, t_12, n_12, t_13, n_13, t_14, n_14, t_15, n_15, t_16, n_16, h_17, h_18, t_19, n_19, t_20, n_20, t_21, n_21, t_22, n_22, h_28, t_29, n_29, t_30, n_30, t_31, n_31, t_32, n_32, h_38, t_39, n_39, t_240, n_240, t_246, n_246, t_252, n_252, h_253, t_254, n_254, t_255, n_255, t_256, n_256, t_257, n_257, h_258, t_259, n_259, t_260, n_260, t_261, n_261, t_262, n_262, t_263, n_263, t_264, n_264, h_265, t_266, n_266, t_267, n_267, t_268, n_268, t_269, n_269, t_270, n_270, r_0_0, r_0_1, r_0_2, r_0_3, r_0_6, r_0_7, r_0_8, r_0_9, r_0_11, r_0_12, r_0_13, r_0_14, r_0_15, r_1_0, r_3_0, r_3_1, r_3_2, r_6_0, r_6_1, r_6_4, r_6_5, r_6_7, r_7_0, r_7_1, r_7_2, r_7_3, r_7_4, r_17_0, r_17_1, r_18_1, r_18_2, r_18_3, r_18_4, r_18_6, r_28_1, r_28_2, r_28_3, r_28_4, r_28_6, r_38_0, r_253_0, r_253_1, r_253_2, r_253_3, r_258_0, r_258_1, r_258_3, r_258_4, r_258_6, r_258_8, r_265_0, r_265_1, r_265_3, r_265_4, r_265_5, r_0_4, r_0_5, r_17_0, cp, h91, tx_c2 _ hbp, ci, m1, cn]
          exact hq
        have hM1 : ∀ (σ : sd_Mem) t o ℓ, ty_M σ t o b n a dp ℓ → ∀ d Q, 7 ≤ d → sd_Go (sd_E1 L xs fm) d y_M_atom 74 [.ref 271, .int (nI (b (tp_ps b n a))), sd_un, sd_un] [] (sd_wI σ 271 10 (nI (tp_ps b n a))) Q → sd_Go (sd_E1 L xs fm) d y_M_atom 0 [.ref 271, sd_un, sd_un, sd_un] [] σ Q := by
          intro σ t o ℓ h d Q hd hq
          have cp := fun Q => k_look (L := L) (xs := xs) (fm := fm) (D := d) (Q := Q) h.1 (by omega)
          rw [ea] at cp
          have ci : ∀ (σ : sd_Mem) Q, sd_Call (sd_E1 L xs fm) d y_M_isAmong [.ref 415, .int (nI (b (tp_ps b n a)))] σ Q ↔ Q (some (.int (nI 0))) σ := fun σ Q => by
            have := k_isAmong (L := L) (xs := xs) (fm := fm) (σ := σ) (Q := Q) (v := nI (b (tp_ps b n a))) (i := 5) (D := d) (by decide) (by omega)
            rw [hx] at this
            exact this
          simp (disch := first | exact sd_cr | exact sd_ci | exact sd_cu | exact sd_cl9 | assumption | omega | exact t_285 | exact t_283 | exact t_278 | exact t_281 | exact t_276 | exact t_274 | exact t_275 | exact t_277 | exact t_279 | exact t_280 | exact t_282 | exact t_284 | exact t_286 | exact t_287 | exact t_288 | exact t_289 | exact t_290 | exact t_291 | exact t_292 | exact t_293 | exact t_294 | exact t_295 | exact t_296 | exact t_297 | exact t_298 | exact t_299 | exact t_300) only [z_M_atom_0, z_M_atom_1, z_M_atom_4, z_M_atom_5, z_M_atom_7, z_M_atom_8, z_M_atom_11, z_M_atom_14, z_M_atom_15, z_M_atom_16, z_M_atom_19, z_M_atom_20, z_M_atom_21, z_M_atom_24, z_M_atom_25, z_M_atom_28, z_M_atom_29, z_M_atom_30, z_M_atom_31, z_M_atom_32, z_M_atom_34, false_and, and_false, if_true, if_false, Decidable.not_not, sd_ci, sd_cr, sd_cl9, sd_cu, sd_cat0, sd_cat1, sd_rfS, sd_n01, sd_n11, sd_n1, sd_n10, sd_n00, sd_b01, sd_b0, true_and, and_true, and_self, not_true_eq_false, not_false_eq_true, false_implies, true_implies, implies_true, or_true, true_or, or_false, false_or, Option.toList_some, Option.toList_none, List.cons_append, List.nil_append, Nat.reduceAdd, Nat.reduceLeDiff, nz_sub, nz_lt0, nz_ge0, nz_le0, nz_gt0, nz_eq0, nz_eq1, nz_lt, nz_le, nz_eq, nz_cl, nz_in, nz_add, nz_mul, nz_m1, nz_m1', Nat.reduceMul, Nat.reduceSub, Nat.reduceLT, Nat.reduceEqDiff, not_false_eq_true, false_implies, true_implies, true_and, and_true, h_271, t_272, n_272, t_273, n_273, t_274, n_274, t_275, n_275, t_276, n_276, t_277, n_277, t_278, n_278, t_279, n_279, t_280, n_280, t_281, n_281, t_282, n_282, t_283, n_283, t_284, n_284, t_285, n_285, t_286, n_286, t_287, n_287, t_288, n_288, t_289, n_289, t_290, n_290, t_291, n_291, t_292, n_292, t_293, n_293, t_294, n_294, t_295, n_295, t_296, n_296, t_297, n_297, t_298, n_298, t_299, n_299, t_300, n_300, t_301, n_301, r_271_1, r_271_2, r_271_3, r_271_4, r_271_15, r_271_16, r_271_18, r_271_19, r_271_20, r_271_21, r_271_22, r_271_23, r_271_24, r_271_25, r_271_26, r_271_34, r_271_35, r_271_38, r_271_39, r_271_40, r_271_42, r_271_45, r_271_46, r_271_47, r_271_48, r_271_49, r_271_50, r_271_53, r_271_54, r_271_55, r_271_57, cp, ci, h91]
          exact hq
        by_cases hd1 : dg_D b n (tp_ps b n a)
        · have en : nb_e b n 4 0 9999 (tp_ps b n a) = nb_r b n 0 9999 (dg_e b n 4 (tp_ps b n a) 0) := by
            unfold nb_e
            rw [hps, if_pos hd1]
          by_cases hd2 : dg_D b n (dg_e b n 4 (tp_ps b n a) 0).1
          · have en2 : nb_e b n 4 0 9999 (tp_ps b n a) = ((dg_e b n 4 (tp_ps b n a) 0).1, none) := by rw [en]; exact if_pos hd2
            rw [en2] at hX1 hle
            refine ⟨(dg_e b n 4 (tp_ps b n a) 0).1, none, fun _ => nI 0, ?_, ?_, by dsimp only at hle; omega, hle.2.1, fun l q => by cases q⟩
            · intro σ t s h hs
              refine ⟨sd_wI σ 1 2 (nI (dg_e b n 4 (tp_ps b n a) 0).1), ty_f.at, h.1.at hle.2.1, fun l q => (by cases q), fun D Q hD => ?_⟩
              obtain ⟨d, rfl⟩ : ∃ d, D = d + 1 := ⟨D - 1, by omega⟩
              refine sd_Call.iff (fun Q hq => ?_) Q
              rw [sd_Call.start (ls := [.ref 17, .int (nI dp), sd_un, sd_un, sd_un]) m_TasteReader_readAtom (by decide) (Nat.le_of_ble_eq_true rfl) rfl]
              obtain ⟨Q', z1, z2⟩ := hX1 σ t s h d Q (by omega)
              refine z2 ?_
              rw [z1]
              dsimp only [rw_fv]
              simp (disch := first | exact sd_cr | exact sd_ci | exact sd_cu | exact sd_cl9 | assumption | omega | exact t_259 | exact t_260 | exact t_261 | exact t_262 | exact t_263 | exact t_264 | exact t_254 | exact t_255 | exact t_256 | exact t_257 | exact t_266 | exact t_267 | exact t_268 | exact t_269 | exact t_270 | exact t_252 | exact t_240 | exact t_246 | exact t_2 | exact t_4 | exact t_5 | exact t_13 | exact t_14 | exact t_15 | exact t_16 | exact Or.inl t_39 | exact Or.inr t_7) only [z_TasteReader_readAtom_120, z_TasteReader_readAtom_122, z_TasteReader_readAtom_124, z_TasteReader_readAtom_125, z_TasteReader_readAtom_128, z_TasteReader_readAtom_129, z_TasteReader_readAtom_130, z_TasteReader_readAtom_131, z_TasteReader_readAtom_133, z_TasteReader_readAtom_136, z_TasteReader_readAtom_137, false_and, and_false, if_true, if_false, Decidable.not_not, sd_ci, sd_cr, sd_cl9, sd_cu, sd_cat0, sd_cat1, sd_rfS, sd_n01, sd_n11, sd_n1, sd_n10, sd_n00, sd_b01, sd_b0, true_and, and_true, and_self, not_true_eq_false, not_false_eq_true, false_implies, true_implies, implies_true, or_true, true_or, or_false, false_or, Option.toList_some, Option.toList_none, List.cons_append, List.nil_append, Nat.reduceAdd, Nat.reduceLeDiff, nz_sub, nz_lt0, nz_ge0, nz_le0, nz_gt0, nz_eq0, nz_eq1, nz_lt, nz_le, nz_eq, nz_cl, nz_in, nz_add, nz_mul, nz_m1, nz_m1', Nat.reduceMul, Nat.reduceSub, Nat.reduceLT, Nat.reduceEqDiff, not_false_eq_true, false_implies, true_implies, true_and, and_true]
              exact hq
            · intro σ t o ℓ hl h
              refine ⟨sd_wI (sd_wI σ 271 10 (nI (dg_e b n 4 (tp_ps b n a) 0).1)) 271 11 (nI (dg_e b n 4 (tp_ps b n a) 0).1), nI 0, (ty_g.w (by decide)).tr (ty_g.w (by decide)), fun _ => wI_k, fun l q => (by cases q), fun q => q.elim, fun D Q hD => ?_⟩
              obtain ⟨d, rfl⟩ : ∃ d, D = d + 1 := ⟨D - 1, by omega⟩
              refine sd_Call.iff (fun Q hq => ?_) Q
              rw [sd_Call.start (ls := [.ref 271, sd_un, sd_un, sd_un]) m_M_atom (by decide) (Nat.le_of_ble_eq_true rfl) rfl]
              refine hM1 σ t o ℓ h d Q (by omega) ?_
              have hM := h.at hp.2
              have cd := fun Q => k_isDigit (L := L) (xs := xs) (fm := fm) (D := d) (Q := Q) hM.1 (by omega) (by omega)
              have nx := ty_numM (L := L) (xs := xs) (fm := fm) (b := b) (th := nI (b (tp_ps b n a))) hn 4 0 (tp_ps b n a) 0 _ rfl hM.1 hM.2.1 (by omega) (by omega) (by omega) (by omega) (by omega) d Q (by omega) (by rw [if_pos hd2, if_pos hd2, wI_wI]; exact hq)
              simp (disch := first | exact sd_cr | exact sd_ci | exact sd_cu | exact sd_cl9 | assumption | omega | exact t_285 | exact t_283 | exact t_278 | exact t_281 | exact t_276 | exact t_274 | exact t_275 | exact t_277 | exact t_279 | exact t_280 | exact t_282 | exact t_284 | exact t_286 | exact t_287 | exact t_288 | exact t_289 | exact t_290 | exact t_291 | exact t_292 | exact t_293 | exact t_294 | exact t_295 | exact t_296 | exact t_297 | exact t_298 | exact t_299 | exact t_300) only [z_M_atom_74, z_M_atom_75, z_M_atom_78, z_M_atom_81, z_M_atom_82, z_M_atom_85, z_M_atom_86, z_M_atom_87, z_M_atom_88, z_M_atom_89, false_and, and_false, if_true, if_false, Decidable.not_not, sd_ci, sd_cr, sd_cl9, sd_cu, sd_cat0, sd_cat1, sd_rfS, sd_n01, sd_n11, sd_n1, sd_n10, sd_n00, sd_b01, sd_b0, true_and, and_true, and_self, not_true_eq_false, not_false_eq_true, false_implies, true_implies, implies_true, or_true, true_or, or_false, false_or, Option.toList_some, Option.toList_none, List.cons_append, List.nil_append, Nat.reduceAdd, Nat.reduceLeDiff, nz_sub, nz_lt0, nz_ge0, nz_le0, nz_gt0, nz_eq0, nz_eq1, nz_lt, nz_le, nz_eq, nz_cl, nz_in, nz_add, nz_mul, nz_m1, nz_m1', Nat.reduceMul, Nat.reduceSub, Nat.reduceLT, Nat.reduceEqDiff, not_false_eq_true, false_implies, true_implies, true_and, and_true, h_271, t_272, n_272, t_273, n_273, t_274, n_274, t_275, n_275, t_276, n_276, t_277, n_277, t_278, n_278, t_279, n_279, t_280, n_280, t_281, n_281, t_282, n_282, t_283, n_283, t_284, n_284, t_285, n_285, t_286, n_286, t_287, n_287, t_288, n_288, t_289, n_289, t_290, n_290, t_291, n_291, t_292, n_292, t_293, n_293, t_294, n_294, t_295, n_295, t_296, n_296, t_297, n_297, t_298, n_298, t_299, n_299, t_300, n_300, t_301, n_301, r_271_1, r_271_2, r_271_3, r_271_4, r_271_15, r_271_16, r_271_18, r_271_19, r_271_20, r_271_21, r_271_22, r_271_23, r_271_24, r_271_25, r_271_26, r_271_34, r_271_35, r_271_38, r_271_39, r_271_40, r_271_42, r_271_45, r_271_46, r_271_47, r_271_48, r_271_49, r_271_50, r_271_53, r_271_54, r_271_55, r_271_57, cd, sd_bT hd1]
              exact nx
          · have en2 : nb_e b n 4 0 9999 (tp_ps b n a) = ((dg_e b n 4 (tp_ps b n a) 0).1, some (dg_e b n 4 (tp_ps b n a) 0).2) := by
              rw [en]
              unfold nb_r
              rw [if_neg hd2, if_neg (by omega)]
            rw [en2] at hX1 hle
            have hle3 := hle.2.2 rfl
            dsimp only at hle hle3
            generalize hq1 : (dg_e b n 4 (tp_ps b n a) 0).1 = q1 at *
            generalize hq2 : (dg_e b n 4 (tp_ps b n a) 0).2 = q2 at *
            refine ⟨q1, some [q2], fun _ => nI q2, ?_, ?_, by omega, hle.2.1, fun l q => ?_⟩
            · intro σ t s h hs
              have hX := h.at (a' := q1) hle.2.1
              have hw := hX.wr (by omega) (w := q2)
              refine ⟨_, ty_f.at.tr hw.2, hw.1.1, fun l q => (by cases q; exact hw.1), fun D Q hD => ?_⟩
              obtain ⟨d, rfl⟩ : ∃ d, D = d + 1 := ⟨D - 1, by omega⟩
              refine sd_Call.iff (fun Q hq => ?_) Q
              rw [sd_Call.start (ls := [.ref 17, .int (nI dp), sd_un, sd_un, sd_un]) m_TasteReader_readAtom (by decide) (Nat.le_of_ble_eq_true rfl) rfl]
              obtain ⟨Q', z1, z2⟩ := hX1 σ t s h d Q (by omega)
              refine z2 ?_
              rw [z1]
              dsimp only [rw_fv]
              have cw := fun Q => k_write (L := L) (xs := xs) (fm := fm) (D := d) (Q := Q) (w := q2) hX (by omega) (by omega)
              simp (disch := first | exact sd_cr | exact sd_ci | exact sd_cu | exact sd_cl9 | assumption | omega | exact t_259 | exact t_260 | exact t_261 | exact t_262 | exact t_263 | exact t_264 | exact t_254 | exact t_255 | exact t_256 | exact t_257 | exact t_266 | exact t_267 | exact t_268 | exact t_269 | exact t_270 | exact t_252 | exact t_240 | exact t_246 | exact t_2 | exact t_4 | exact t_5 | exact t_13 | exact t_14 | exact t_15 | exact t_16 | exact Or.inl t_39 | exact Or.inr t_7) only [z_TasteReader_readAtom_120, z_TasteReader_readAtom_122, z_TasteReader_readAtom_124, z_TasteReader_readAtom_125, z_TasteReader_readAtom_128, z_TasteReader_readAtom_129, z_TasteReader_readAtom_130, z_TasteReader_readAtom_131, z_TasteReader_readAtom_133, z_TasteReader_readAtom_136, z_TasteReader_readAtom_137, false_and, and_false, if_true, if_false, Decidable.not_not, sd_ci, sd_cr, sd_cl9, sd_cu, sd_cat0, sd_cat1, sd_rfS, sd_n01, sd_n11, sd_n1, sd_n10, sd_n00, sd_b01, sd_b0, true_and, and_true, and_self, not_true_eq_false, not_false_eq_true, false_implies, true_implies, implies_true, or_true, true_or, or_false, false_or, Option.toList_some, Option.toList_none, List.cons_append, List.nil_append, Nat.reduceAdd, Nat.reduceLeDiff, nz_sub, nz_lt0, nz_ge0, nz_le0, nz_gt0, nz_eq0, nz_eq1, nz_lt, nz_le, nz_eq, nz_cl, nz_in, nz_add, nz_mul, nz_m1, nz_m1', Nat.reduceMul, Nat.reduceSub, Nat.reduceLT, Nat.reduceEqDiff, not_false_eq_true, false_implies, true_implies, true_and, and_true, h_0, h_1, t_2, n_2, h_3, t_4, n_4, t_5, n_5, h_6, t_7, n_7, t_8, n_8, t_9, n_9, t_10, n_10, t_11, n_11, t_12, n_12, t_13, n_13, t_14, n_14, t_15, n_15, t_16, n_16, h_17, h_18, t_19, n_19, t_20, n_20, t_21, n_21, t_22, n_22, h_28, t_29, n_29, t_30, n_30, t_31, n_31, t_32, n_32, h_38, t_39, n_39, t_240, n_240, t_246, n_246, t_252, n_252, h_253, t_254, n_254, t_255, n_255, t_256, n_256, t_257, n_257, h_258, t_259, n_259, t_260, n_260, t_261, n_261, t_262, n_262, t_263, n_263, t_264, n_264, h_265, t_266, n_266, t_267, n_267, t_268, n_268, t_269, n_269, t_270, n_270, r_0_0, r_0_1, r_0_2, r_0_3, r_0_6, r_0_7, r_0_8, r_0_9, r_0_11, r_0_12, r_0_13, r_0_14, r_0_15, r_1_0, r_3_0, r_3_1, r_3_2, r_6_0, r_6_1, r_6_4, r_6_5, r_6_7, r_7_0, r_7_1, r_7_2, r_7_3, r_7_4, r_17_0, r_17_1, r_18_1, r_18_2, r_18_3, r_18_4, r_18_6, r_28_1, r_28_2, r_28_3, r_28_4, r_28_6, r_38_0, r_253_0, r_253_1, r_253_2, r_253_3, r_258_0, r_258_1, r_258_3, r_258_4, r_258_6, r_258_8, r_265_0, r_265_1, r_265_3, r_265_4, r_265_5, r_0_4, r_0_5, cw]
              exact hq
            · intro σ t o ℓ hl h
              refine ⟨sd_wI σ 271 10 (nI q1), nI q2, ty_g.w (by decide), fun q => (by cases q), fun l q => ⟨h.at hle.2.1, rfl⟩, fun q => q.elim, fun D Q hD => ?_⟩
              obtain ⟨d, rfl⟩ : ∃ d, D = d + 1 := ⟨D - 1, by omega⟩
              refine sd_Call.iff (fun Q hq => ?_) Q
              rw [sd_Call.start (ls := [.ref 271, sd_un, sd_un, sd_un]) m_M_atom (by decide) (Nat.le_of_ble_eq_true rfl) rfl]
              refine hM1 σ t o ℓ h d Q (by omega) ?_
              have hM := h.at hp.2
              have cd := fun Q => k_isDigit (L := L) (xs := xs) (fm := fm) (D := d) (Q := Q) hM.1 (by omega) (by omega)
              have nx := ty_numM (L := L) (xs := xs) (fm := fm) (b := b) (th := nI (b (tp_ps b n a))) hn 4 0 (tp_ps b n a) 0 _ rfl hM.1 hM.2.1 (by omega) (by omega) (by omega) (by omega) (by omega) d Q (by omega) (by rw [hq1, hq2, if_neg hd2, if_neg hd2, wI_wI]; exact hq)
              simp (disch := first | exact sd_cr | exact sd_ci | exact sd_cu | exact sd_cl9 | assumption | omega | exact t_285 | exact t_283 | exact t_278 | exact t_281 | exact t_276 | exact t_274 | exact t_275 | exact t_277 | exact t_279 | exact t_280 | exact t_282 | exact t_284 | exact t_286 | exact t_287 | exact t_288 | exact t_289 | exact t_290 | exact t_291 | exact t_292 | exact t_293 | exact t_294 | exact t_295 | exact t_296 | exact t_297 | exact t_298 | exact t_299 | exact t_300) only [z_M_atom_74, z_M_atom_75, z_M_atom_78, z_M_atom_81, z_M_atom_82, z_M_atom_85, z_M_atom_86, z_M_atom_87, z_M_atom_88, z_M_atom_89, false_and, and_false, if_true, if_false, Decidable.not_not, sd_ci, sd_cr, sd_cl9, sd_cu, sd_cat0, sd_cat1, sd_rfS, sd_n01, sd_n11, sd_n1, sd_n10, sd_n00, sd_b01, sd_b0, true_and, and_true, and_self, not_true_eq_false, not_false_eq_true, false_implies, true_implies, implies_true, or_true, true_or, or_false, false_or, Option.toList_some, Option.toList_none, List.cons_append, List.nil_append, Nat.reduceAdd, Nat.reduceLeDiff, nz_sub, nz_lt0, nz_ge0, nz_le0, nz_gt0, nz_eq0, nz_eq1, nz_lt, nz_le, nz_eq, nz_cl, nz_in, nz_add, nz_mul, nz_m1, nz_m1', Nat.reduceMul, Nat.reduceSub, Nat.reduceLT, Nat.reduceEqDiff, not_false_eq_true, false_implies, true_implies, true_and, and_true, h_271, t_272, n_272, t_273, n_273, t_274, n_274, t_275, n_275, t_276, n_276, t_277, n_277, t_278, n_278, t_279, n_279, t_280, n_280, t_281, n_281, t_282, n_282, t_283, n_283, t_284, n_284, t_285, n_285, t_286, n_286, t_287, n_287, t_288, n_288, t_289, n_289, t_290, n_290, t_291, n_291, t_292, n_292, t_293, n_293, t_294, n_294, t_295, n_295, t_296, n_296, t_297, n_297, t_298, n_298, t_299, n_299, t_300, n_300, t_301, n_301, r_271_1, r_271_2, r_271_3, r_271_4, r_271_15, r_271_16, r_271_18, r_271_19, r_271_20, r_271_21, r_271_22, r_271_23, r_271_24, r_271_25, r_271_26, r_271_34, r_271_35, r_271_38, r_271_39, r_271_40, r_271_42, r_271_45, r_271_46, r_271_47, r_271_48, r_271_49, r_271_50, r_271_53, r_271_54, r_271_55, r_271_57, cd, sd_bT hd1]
              exact nx
            · cases q
              refine ⟨by show a + 1 ≤ _; omega, by omega, fun w hw => ?_, fun ℓ hl => ⟨⟨ty_bd_n (by omega), fun q => q.elim⟩, fun st => ty_En (by omega)⟩⟩
              have : w = q2 := by simpa using hw
              exact ⟨Or.inl (by omega), by omega⟩
        · have en2 : nb_e b n 4 0 9999 (tp_ps b n a) = (tp_ps b n a, none) := by
            unfold nb_e
            rw [hps, if_neg hd1]
          rw [en2] at hX1
          refine ⟨tp_ps b n a, none, fun _ => nI 0, ?_, ?_, hp.1, hp.2, fun l q => by cases q⟩
          · intro σ t s h hs
            refine ⟨sd_wI σ 1 2 (nI (tp_ps b n a)), ty_f.at, h.1.at hp.2, fun l q => (by cases q), fun D Q hD => ?_⟩
            obtain ⟨d, rfl⟩ : ∃ d, D = d + 1 := ⟨D - 1, by omega⟩
            refine sd_Call.iff (fun Q hq => ?_) Q
            rw [sd_Call.start (ls := [.ref 17, .int (nI dp), sd_un, sd_un, sd_un]) m_TasteReader_readAtom (by decide) (Nat.le_of_ble_eq_true rfl) rfl]
            obtain ⟨Q', z1, z2⟩ := hX1 σ t s h d Q (by omega)
            refine z2 ?_
            rw [z1]
            dsimp only [rw_fv]
            simp (disch := first | exact sd_cr | exact sd_ci | exact sd_cu | exact sd_cl9 | assumption | omega | exact t_259 | exact t_260 | exact t_261 | exact t_262 | exact t_263 | exact t_264 | exact t_254 | exact t_255 | exact t_256 | exact t_257 | exact t_266 | exact t_267 | exact t_268 | exact t_269 | exact t_270 | exact t_252 | exact t_240 | exact t_246 | exact t_2 | exact t_4 | exact t_5 | exact t_13 | exact t_14 | exact t_15 | exact t_16 | exact Or.inl t_39 | exact Or.inr t_7) only [z_TasteReader_readAtom_120, z_TasteReader_readAtom_122, z_TasteReader_readAtom_124, z_TasteReader_readAtom_125, z_TasteReader_readAtom_128, z_TasteReader_readAtom_129, z_TasteReader_readAtom_130, z_TasteReader_readAtom_131, z_TasteReader_readAtom_133, z_TasteReader_readAtom_136, z_TasteReader_readAtom_137, false_and, and_false, if_true, if_false, Decidable.not_not, sd_ci, sd_cr, sd_cl9, sd_cu, sd_cat0, sd_cat1, sd_rfS, sd_n01, sd_n11, sd_n1, sd_n10, sd_n00, sd_b01, sd_b0, true_and, and_true, and_self, not_true_eq_false, not_false_eq_true, false_implies, true_implies, implies_true, or_true, true_or, or_false, false_or, Option.toList_some, Option.toList_none, List.cons_append, List.nil_append, Nat.reduceAdd, Nat.reduceLeDiff, nz_sub, nz_lt0, nz_ge0, nz_le0, nz_gt0, nz_eq0, nz_eq1, nz_lt, nz_le, nz_eq, nz_cl, nz_in, nz_add, nz_mul, nz_m1, nz_m1', Nat.reduceMul, Nat.reduceSub, Nat.reduceLT, Nat.reduceEqDiff, not_false_eq_true, false_implies, true_implies, true_and, and_true]
            exact hq
          · intro σ t o ℓ hl h
            refine ⟨sd_wI (sd_wI σ 271 10 (nI (tp_ps b n a))) 271 11 (nI (tp_ps b n a)), nI 0, (ty_g.w (by decide)).tr (ty_g.w (by decide)), fun _ => wI_k, fun l q => (by cases q), fun q => q.elim, fun D Q hD => ?_⟩
            obtain ⟨d, rfl⟩ : ∃ d, D = d + 1 := ⟨D - 1, by omega⟩
            refine sd_Call.iff (fun Q hq => ?_) Q
            rw [sd_Call.start (ls := [.ref 271, sd_un, sd_un, sd_un]) m_M_atom (by decide) (Nat.le_of_ble_eq_true rfl) rfl]
            refine hM1 σ t o ℓ h d Q (by omega) ?_
            have hM := h.at hp.2
            have cd := fun Q => k_isDigit (L := L) (xs := xs) (fm := fm) (D := d) (Q := Q) hM.1 (by omega) (by omega)
            have cd2 := fun Q => k_isDigit (L := L) (xs := xs) (fm := fm) (D := d) (Q := Q) (tp_M.wf hM.1 (v := nI (tp_ps b n a))) (by omega) (by omega)
            have cf := fun Q => k_fails (L := L) (xs := xs) (fm := fm) (D := d) (Q := Q) hM.2.1 (by omega)
            rw [wI_k] at cf
            simp (disch := first | exact sd_cr | exact sd_ci | exact sd_cu | exact sd_cl9 | assumption | omega | exact t_285 | exact t_283 | exact t_278 | exact t_281 | exact t_276 | exact t_274 | exact t_275 | exact t_277 | exact t_279 | exact t_280 | exact t_282 | exact t_284 | exact t_286 | exact t_287 | exact t_288 | exact t_289 | exact t_290 | exact t_291 | exact t_292 | exact t_293 | exact t_294 | exact t_295 | exact t_296 | exact t_297 | exact t_298 | exact t_299 | exact t_300) only [z_M_atom_74, z_M_atom_75, z_M_atom_78, z_M_atom_81, z_M_atom_82, z_M_atom_85, z_M_atom_86, z_M_atom_87, z_M_atom_88, z_M_atom_89, z_M_atom_90, z_M_atom_91, z_M_atom_94, z_M_atom_156, z_M_atom_157, false_and, and_false, if_true, if_false, Decidable.not_not, sd_ci, sd_cr, sd_cl9, sd_cu, sd_cat0, sd_cat1, sd_rfS, sd_n01, sd_n11, sd_n1, sd_n10, sd_n00, sd_b01, sd_b0, true_and, and_true, and_self, not_true_eq_false, not_false_eq_true, false_implies, true_implies, implies_true, or_true, true_or, or_false, false_or, Option.toList_some, Option.toList_none, List.cons_append, List.nil_append, Nat.reduceAdd, Nat.reduceLeDiff, nz_sub, nz_lt0, nz_ge0, nz_le0, nz_gt0, nz_eq0, nz_eq1, nz_lt, nz_le, nz_eq, nz_cl, nz_in, nz_add, nz_mul, nz_m1, nz_m1', Nat.reduceMul, Nat.reduceSub, Nat.reduceLT, Nat.reduceEqDiff, not_false_eq_true, false_implies, true_implies, true_and, and_true, h_271, t_272, n_272, t_273, n_273, t_274, n_274, t_275, n_275, t_276, n_276, t_277, n_277, t_278, n_278, t_279, n_279, t_280, n_280, t_281, n_281, t_282, n_282, t_283, n_283, t_284, n_284, t_285, n_285, t_286, n_286, t_287, n_287, t_288, n_288, t_289, n_289, t_290, n_290, t_291, n_291, t_292, n_292, t_293, n_293, t_294, n_294, t_295, n_295, t_296, n_296, t_297, n_297, t_298, n_298, t_299, n_299, t_300, n_300, t_301, n_301, r_271_1, r_271_2, r_271_3, r_271_4, r_271_15, r_271_16, r_271_18, r_271_19, r_271_20, r_271_21, r_271_22, r_271_23, r_271_24, r_271_25, r_271_26, r_271_34, r_271_35, r_271_38, r_271_39, r_271_40, r_271_42, r_271_45, r_271_46, r_271_47, r_271_48, r_271_49, r_271_50, r_271_53, r_271_54, r_271_55, r_271_57, cd, cd2, cf, sd_bF hd1]
            exact hq
  · have ea : tp_at b n a = -1 := if_neg hq
    have hd1 : ¬ dg_D b n (tp_ps b n a) := fun q => hq q.1
    have hps := tp_ps_i (b := b) ha
    have en2 : nb_e b n 4 0 9999 (tp_ps b n a) = (tp_ps b n a, none) := by
      unfold nb_e
      rw [hps, if_neg hd1]
    refine ⟨tp_ps b n a, none, fun _ => nI 0, ?_, ?_, hp.1, hp.2, fun l q => by cases q⟩
    · intro σ t s h hs
      refine ⟨sd_wI σ 1 2 (nI (tp_ps b n a)), ty_f.at, h.1.at hp.2, fun l q => (by cases q), fun D Q hD => ?_⟩
      obtain ⟨d, rfl⟩ : ∃ d, D = d + 1 := ⟨D - 1, by omega⟩
      refine sd_Call.iff (fun Q hq => ?_) Q
      have cp := fun Q => k_peek (L := L) (xs := xs) (fm := fm) (D := d) (Q := Q) h.1 (by omega)
      rw [ea] at cp
      have cn := fun Q => k_readNumber (L := L) (xs := xs) (fm := fm) (D := d) (Q := Q) (lo := 0) (hi := 9999) (dg := 4) (by decide) (by decide) (by decide) (by decide) (h.1.at hp.2) (by omega)
      rw [en2, wI_wI] at cn
      dsimp only [rw_fv] at cn
      have m1 : (-1 : Int32) < 0 := by decide
      have m2 : ¬ (-1 : Int32) = nI 91 := by decide
      rw [sd_Call.start (ls := [.ref 17, .int (nI dp), sd_un, sd_un, sd_un]) m_TasteReader_readAtom (by decide) (Nat.le_of_ble_eq_true rfl) rfl]
      simp (disch := first | exact sd_cr | exact sd_ci | exact sd_cu | exact sd_cl9 | assumption | omega | exact t_259 | exact t_260 | exact t_261 | exact t_262 | exact t_263 | exact t_264 | exact t_254 | exact t_255 | exact t_256 | exact t_257 | exact t_266 | exact t_267 | exact t_268 | exact t_269 | exact t_270 | exact t_252 | exact t_240 | exact t_246 | exact t_2 | exact t_4 | exact t_5 | exact t_13 | exact t_14 | exact t_15 | exact t_16 | exact Or.inl t_39 | exact Or.inr t_7) only [z_TasteReader_readAtom_0, z_TasteReader_readAtom_1, z_TasteReader_readAtom_4, z_TasteReader_readAtom_7, z_TasteReader_readAtom_8, z_TasteReader_readAtom_9, z_TasteReader_readAtom_11, z_TasteReader_readAtom_63, z_TasteReader_readAtom_64, z_TasteReader_readAtom_65, z_TasteReader_readAtom_68, z_TasteReader_readAtom_69, z_TasteReader_readAtom_72, z_TasteReader_readAtom_74, z_TasteReader_readAtom_75, z_TasteReader_readAtom_76, z_TasteReader_readAtom_79, z_TasteReader_readAtom_80, z_TasteReader_readAtom_81, z_TasteReader_readAtom_84, z_TasteReader_readAtom_85, z_TasteReader_readAtom_88, z_TasteReader_readAtom_89, z_TasteReader_readAtom_92, z_TasteReader_readAtom_93, z_TasteReader_readAtom_94, z_TasteReader_readAtom_97, z_TasteReader_readAtom_98, z_TasteReader_readAtom_101, z_TasteReader_readAtom_102, z_TasteReader_readAtom_103, z_TasteReader_readAtom_106, z_TasteReader_readAtom_107, z_TasteReader_readAtom_108, z_TasteReader_readAtom_109, z_TasteReader_readAtom_112, z_TasteReader_readAtom_113, z_TasteReader_readAtom_114, z_TasteReader_readAtom_117, z_TasteReader_readAtom_120, z_TasteReader_readAtom_122, z_TasteReader_readAtom_124, z_TasteReader_readAtom_125, z_TasteReader_readAtom_128, z_TasteReader_readAtom_129, z_TasteReader_readAtom_130, z_TasteReader_readAtom_131, z_TasteReader_readAtom_133, z_TasteReader_readAtom_136, z_TasteReader_readAtom_137, false_and, and_false, if_true, if_false, Decidable.not_not, sd_ci, sd_cr, sd_cl9, sd_cu, sd_cat0, sd_cat1, sd_rfS, sd_n01, sd_n11, sd_n1, sd_n10, sd_n00, sd_b01, sd_b0, true_and, and_true, and_self, not_true_eq_false, not_false_eq_true, false_implies, true_implies, implies_true, or_true, true_or, or_false, false_or, Option.toList_some, Option.toList_none, List.cons_append, List.nil_append, Nat.reduceAdd, Nat.reduceLeDiff, nz_sub, nz_lt0, nz_ge0, nz_le0, nz_gt0, nz_eq0, nz_eq1, nz_lt, nz_le, nz_eq, nz_cl, nz_in, nz_add, nz_mul, nz_m1, nz_m1', Nat.reduceMul, Nat.reduceSub, Nat.reduceLT, Nat.reduceEqDiff, not_false_eq_true, false_implies, true_implies, true_and, and_true, h_0, h_1, t_2, n_2, h_3, t_4, n_4, t_5, n_5, h_6, t_7, n_7, t_8, n_8, t_9, n_9, t_10, n_10, t_11, n_11, t_12, n_12, t_13, n_13, t_14, n_14, t_15, n_15, t_16, n_16, h_17, h_18, t_19, n_19, t_20, n_20, t_21, n_21, t_22, n_22, h_28, t_29, n_29, t_30, n_30, t_31, n_31, t_32, n_32, h_38, t_39, n_39, t_240, n_240, t_246, n_246, t_252, n_252, h_253, t_254, n_254, t_255, n_255, t_256, n_256, t_257, n_257, h_258, t_259, n_259, t_260, n_260, t_261, n_261, t_262, n_262, t_263, n_263, t_264, n_264, h_265, t_266, n_266, t_267, n_267, t_268, n_268, t_269, n_269, t_270, n_270, r_0_0, r_0_1, r_0_2, r_0_3, r_0_6, r_0_7, r_0_8, r_0_9, r_0_11, r_0_12, r_0_13, r_0_14, r_0_15, r_1_0, r_3_0, r_3_1, r_3_2, r_6_0, r_6_1, r_6_4, r_6_5, r_6_7, r_7_0, r_7_1, r_7_2, r_7_3, r_7_4, r_17_0, r_17_1, r_18_1, r_18_2, r_18_3, r_18_4, r_18_6, r_28_1, r_28_2, r_28_3, r_28_4, r_28_6, r_38_0, r_253_0, r_253_1, r_253_2, r_253_3, r_258_0, r_258_1, r_258_3, r_258_4, r_258_6, r_258_8, r_265_0, r_265_1, r_265_3, r_265_4, r_265_5, r_0_4, r_0_5, r_17_0, cp, m1, m2, cn]
      exact hq
    · intro σ t o ℓ hl h
      refine ⟨sd_wI (sd_wI σ 271 10 (nI (tp_ps b n a))) 271 11 (nI (tp_ps b n a)), nI 0, (ty_g.w (by decide)).tr (ty_g.w (by decide)), fun _ => wI_k, fun l q => (by cases q), fun q => q.elim, fun D Q hD => ?_⟩
      obtain ⟨d, rfl⟩ : ∃ d, D = d + 1 := ⟨D - 1, by omega⟩
      refine sd_Call.iff (fun Q hq => ?_) Q
      have cp := fun Q => k_look (L := L) (xs := xs) (fm := fm) (D := d) (Q := Q) h.1 (by omega)
      rw [ea] at cp
      have ci : ∀ (σ : sd_Mem) Q, sd_Call (sd_E1 L xs fm) d y_M_isAmong [.ref 415, .int (-1)] σ Q ↔ Q (some (.int (nI 0))) σ := fun σ Q => by
        have := k_isAmong (L := L) (xs := xs) (fm := fm) (σ := σ) (Q := Q) (v := -1) (i := 5) (D := d) (by decide) (by omega)
        rw [ty_x5m] at this
        exact this
      have hM := h.at hp.2
      have cd := fun Q => k_isDigit (L := L) (xs := xs) (fm := fm) (D := d) (Q := Q) hM.1 (by omega) (by omega)
      have cd2 := fun Q => k_isDigit (L := L) (xs := xs) (fm := fm) (D := d) (Q := Q) (tp_M.wf hM.1 (v := nI (tp_ps b n a))) (by omega) (by omega)
      have cf := fun Q => k_fails (L := L) (xs := xs) (fm := fm) (D := d) (Q := Q) hM.2.1 (by omega)
      rw [wI_k] at cf
      have m2 : ¬ (-1 : Int32) = nI 91 := by decide
      rw [sd_Call.start (ls := [.ref 271, sd_un, sd_un, sd_un]) m_M_atom (by decide) (Nat.le_of_ble_eq_true rfl) rfl]
      simp (disch := first | exact sd_cr | exact sd_ci | exact sd_cu | exact sd_cl9 | assumption | omega | exact t_285 | exact t_283 | exact t_278 | exact t_281 | exact t_276 | exact t_274 | exact t_275 | exact t_277 | exact t_279 | exact t_280 | exact t_282 | exact t_284 | exact t_286 | exact t_287 | exact t_288 | exact t_289 | exact t_290 | exact t_291 | exact t_292 | exact t_293 | exact t_294 | exact t_295 | exact t_296 | exact t_297 | exact t_298 | exact t_299 | exact t_300) only [z_M_atom_0, z_M_atom_1, z_M_atom_4, z_M_atom_5, z_M_atom_7, z_M_atom_8, z_M_atom_11, z_M_atom_14, z_M_atom_15, z_M_atom_16, z_M_atom_19, z_M_atom_20, z_M_atom_21, z_M_atom_24, z_M_atom_25, z_M_atom_28, z_M_atom_29, z_M_atom_30, z_M_atom_31, z_M_atom_32, z_M_atom_34, z_M_atom_74, z_M_atom_75, z_M_atom_78, z_M_atom_81, z_M_atom_82, z_M_atom_85, z_M_atom_86, z_M_atom_87, z_M_atom_88, z_M_atom_89, z_M_atom_90, z_M_atom_91, z_M_atom_94, z_M_atom_156, z_M_atom_157, false_and, and_false, if_true, if_false, Decidable.not_not, sd_ci, sd_cr, sd_cl9, sd_cu, sd_cat0, sd_cat1, sd_rfS, sd_n01, sd_n11, sd_n1, sd_n10, sd_n00, sd_b01, sd_b0, true_and, and_true, and_self, not_true_eq_false, not_false_eq_true, false_implies, true_implies, implies_true, or_true, true_or, or_false, false_or, Option.toList_some, Option.toList_none, List.cons_append, List.nil_append, Nat.reduceAdd, Nat.reduceLeDiff, nz_sub, nz_lt0, nz_ge0, nz_le0, nz_gt0, nz_eq0, nz_eq1, nz_lt, nz_le, nz_eq, nz_cl, nz_in, nz_add, nz_mul, nz_m1, nz_m1', Nat.reduceMul, Nat.reduceSub, Nat.reduceLT, Nat.reduceEqDiff, not_false_eq_true, false_implies, true_implies, true_and, and_true, h_271, t_272, n_272, t_273, n_273, t_274, n_274, t_275, n_275, t_276, n_276, t_277, n_277, t_278, n_278, t_279, n_279, t_280, n_280, t_281, n_281, t_282, n_282, t_283, n_283, t_284, n_284, t_285, n_285, t_286, n_286, t_287, n_287, t_288, n_288, t_289, n_289, t_290, n_290, t_291, n_291, t_292, n_292, t_293, n_293, t_294, n_294, t_295, n_295, t_296, n_296, t_297, n_297, t_298, n_298, t_299, n_299, t_300, n_300, t_301, n_301, r_271_1, r_271_2, r_271_3, r_271_4, r_271_15, r_271_16, r_271_18, r_271_19, r_271_20, r_271_21, r_271_22, r_271_23, r_271_24, r_271_25, r_271_26, r_271_34, r_271_35, r_271_38, r_271_39, r_271_40, r_271_42, r_271_45, r_271_46, r_271_47, r_271_48, r_271_49, r_271_50, r_271_53, r_271_54, r_271_55, r_271_57, cp, ci, m2, cd, cd2, cf, sd_bF hd1]
      exact hq
end SDBI
