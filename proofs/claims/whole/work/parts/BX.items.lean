/-! the items of a country's clause, whole; the draft -/
section SDBX
variable {L : Nat} {xs : Nat → Int32} {fm : Option Nat} {b : Nat → Nat} {n s : Nat}
theorem ct_initM (hs : s < 4) {k2 fr : Nat} (k1 : sd_tg k2 = 0) (k2' : fr + tx_n (1 + s) ≤ sd_ln k2) (k3 : fr ≤ 500) {l6 : Value} : ∀ f k (σ : sd_Mem), f + k = tx_n (1 + s) → ∃ σ', (∀ e j, ¬ (e = k2 ∧ fr + k ≤ j ∧ j < fr + tx_n (1 + s)) → σ'.1 e j = σ.1 e j) ∧ σ'.2 = σ.2 ∧ (∀ j, k ≤ j → j < tx_n (1 + s) → σ'.1 k2 (fr + j) = nI (ct_us s j)) ∧ ∀ D Q, 6 ≤ D → sd_Go (sd_E1 L xs fm) D y_M_readItems 31 [.ref 271, .int (nI (tx_b 0 s)), .ref k2, .int (nI fr), .ref (410 + (1 + s)), .int (nI (tx_n (1 + s))), l6] [] σ' Q → sd_Go (sd_E1 L xs fm) D y_M_readItems 3 [.ref 271, .int (nI (tx_b 0 s)), .ref k2, .int (nI fr), .ref (410 + (1 + s)), .int (nI k), l6] [] σ Q := by
  have hs7 : 1 + s < 7 := by omega
  have hn6 := ct_n s hs
  have c410 : 410 ≤ 410 + (1 + s) ∧ 410 + (1 + s) < 419 := by omega
  have cl : ∀ D (σ : sd_Mem) Q, 6 ≤ D → (sd_Call (sd_E1 L xs fm) D y_Str_length [.ref (410 + (1 + s))] σ Q ↔ Q (some (.int (nI (tx_n (1 + s))))) σ) := fun D σ Q hD => by
    obtain ⟨d, rfl⟩ : ∃ d, D = d + 2 := ⟨D - 2, by omega⟩
    exact c_Str_length hs7
  intro f
  induction f with
  | zero =>
    intro k σ hk
    refine ⟨σ, fun _ _ _ => rfl, rfl, fun j h1 h2 => by omega, fun D Q hD hq => ?_⟩
    obtain rfl : k = tx_n (1 + s) := by omega
    have cl := fun (σ : sd_Mem) Q => cl D σ Q hD
    have c0 : tx_n (1 + s) ≤ tx_n (1 + s) := Nat.le_refl _
    simp (disch := first | exact sd_cr | exact sd_ci | exact sd_cu | exact sd_cl9 | assumption | omega | exact t_285 | exact t_283 | exact t_278 | exact t_281 | exact t_276 | exact t_274 | exact t_275 | exact t_277 | exact t_279 | exact t_280 | exact t_282 | exact t_284 | exact t_286 | exact t_287 | exact t_288 | exact t_289 | exact t_290 | exact t_291 | exact t_292 | exact t_293 | exact t_294 | exact t_295 | exact t_296 | exact t_297 | exact t_298 | exact t_299 | exact t_300) only [z_M_readItems_3, z_M_readItems_5, z_M_readItems_7, z_M_readItems_10, false_and, and_false, if_true, if_false, Decidable.not_not, sd_ci, sd_cr, sd_cl9, sd_cu, sd_cat0, sd_cat1, sd_rfS, sd_n01, sd_n11, sd_n1, sd_n10, sd_n00, sd_b01, sd_b0, true_and, and_true, and_self, not_true_eq_false, not_false_eq_true, false_implies, true_implies, implies_true, or_true, true_or, or_false, false_or, Option.toList_some, Option.toList_none, List.cons_append, List.nil_append, Nat.reduceAdd, Nat.reduceLeDiff, nz_sub, nz_lt0, nz_ge0, nz_le0, nz_gt0, nz_eq0, nz_eq1, nz_lt, nz_le, nz_eq, nz_cl, nz_in, nz_add, nz_mul, nz_m1, nz_m1', Nat.reduceMul, Nat.reduceSub, Nat.reduceLT, Nat.reduceEqDiff, not_false_eq_true, false_implies, true_implies, true_and, and_true, cl, c0]
    exact hq
  | succ f ih =>
    intro k σ hk
    obtain ⟨σ', s1, s2, s3, s4⟩ := ih (k + 1) (sd_wI σ k2 (fr + k) (nI (ct_us s k))) (by omega)
    refine ⟨σ', fun e j hj => ?_, s2, fun j h1 h2 => ?_, fun D Q hD hq => ?_⟩
    · rw [s1 e j (fun q => hj ⟨q.1, by omega, q.2.2⟩), wI_1, if_neg (fun q => hj ⟨q.1, by omega, by omega⟩)]
    · by_cases q : j = k
      · subst q
        rw [s1 k2 (fr + j) (fun q => by omega), wI_k]
      · exact s3 j (by omega) h2
    · have nx := s4 D Q hD hq
      have cl := fun (σ : sd_Mem) Q => cl D σ Q hD
      have cu := fun (σ : sd_Mem) Q => k_usual (L := L) (xs := xs) (fm := fm) (σ := σ) (D := D) (Q := Q) hs (show k < tx_n (1 + s) by omega) (by omega)
      have c0 : ¬ tx_n (1 + s) ≤ k := by omega
      have c1 : fr + k < sd_ln k2 := by omega
      rw [z_M_readItems_3]
      simp (disch := first | exact sd_cr | exact sd_ci | exact sd_cu | exact sd_cl9 | assumption | omega | exact t_285 | exact t_283 | exact t_278 | exact t_281 | exact t_276 | exact t_274 | exact t_275 | exact t_277 | exact t_279 | exact t_280 | exact t_282 | exact t_284 | exact t_286 | exact t_287 | exact t_288 | exact t_289 | exact t_290 | exact t_291 | exact t_292 | exact t_293 | exact t_294 | exact t_295 | exact t_296 | exact t_297 | exact t_298 | exact t_299 | exact t_300) only [z_M_readItems_5, z_M_readItems_7, z_M_readItems_10, z_M_readItems_13, z_M_readItems_14, z_M_readItems_15, z_M_readItems_17, z_M_readItems_18, z_M_readItems_19, z_M_readItems_21, z_M_readItems_24, z_M_readItems_25, z_M_readItems_28, false_and, and_false, if_true, if_false, Decidable.not_not, sd_ci, sd_cr, sd_cl9, sd_cu, sd_cat0, sd_cat1, sd_rfS, sd_n01, sd_n11, sd_n1, sd_n10, sd_n00, sd_b01, sd_b0, true_and, and_true, and_self, not_true_eq_false, not_false_eq_true, false_implies, true_implies, implies_true, or_true, true_or, or_false, false_or, Option.toList_some, Option.toList_none, List.cons_append, List.nil_append, Nat.reduceAdd, Nat.reduceLeDiff, nz_sub, nz_lt0, nz_ge0, nz_le0, nz_gt0, nz_eq0, nz_eq1, nz_lt, nz_le, nz_eq, nz_cl, nz_in, nz_add, nz_mul, nz_m1, nz_m1', Nat.reduceMul, Nat.reduceSub, Nat.reduceLT, Nat.reduceEqDiff, not_false_eq_true, false_implies, true_implies, true_and, and_true, cl, cu, c0, c1]
      exact nx
theorem ct_items (hs : s < 4) (hn : n ≤ 240) (hb : ∀ i, i < n → b i < 256) {a : Nat} (ha : a ≤ n) : ∃ (e : Nat) (r : Option (Nat → Nat)), (∀ σ, tp_X σ b n a → ∃ σ', (∀ e' j, ¬ (e' = 1 ∧ j = 2) → e' ≠ 4 → σ'.1 e' j = σ.1 e' j) ∧ σ'.2 = σ.2 ∧ tp_X σ' b n e ∧ (∀ v', r = some v' → ∀ k, k < 6 → σ'.1 4 k = nI (v' k)) ∧ ∀ D Q, 7 ≤ D → (sd_Call (sd_E1 L xs fm) D y_CountryReader_readItems [.ref 3, .int (nI s)] σ Q ↔ Q (some (.int (sd_b (r.isSome = true)))) σ')) ∧ (∀ σ t o k2 fr, tp_M σ t o b n a → σ.1 271 11 = -1 → sd_tg k2 = 0 → fr + tx_n (1 + s) ≤ sd_ln k2 → fr ≤ 500 → k2 ≠ 271 → k2 ≠ t → ∃ σ', (∀ e' j, ¬ (e' = 271 ∧ (j = 10 ∨ j = 11)) → ¬ (e' = k2 ∧ fr ≤ j ∧ j < fr + tx_n (1 + s)) → σ'.1 e' j = σ.1 e' j) ∧ σ'.2 = σ.2 ∧ (r = none → σ'.1 271 11 = nI e) ∧ (∀ v', r = some v' → tp_M σ' t o b n e ∧ σ'.1 271 11 = -1 ∧ ∀ k, k < tx_n (1 + s) → σ'.1 k2 (fr + k) = nI (v' k)) ∧ ∀ D Q, 7 ≤ D → (sd_Call (sd_E1 L xs fm) D y_M_readItems [.ref 271, .int (nI (tx_b 0 s)), .ref k2, .int (nI fr), .ref (410 + (1 + s))] σ Q ↔ Q none σ')) ∧ a ≤ e ∧ e ≤ n ∧ ∀ v', r = some v' → ∀ k, k < tx_n (1 + s) → v' k ≤ ct_hi s k := by
  have hs7 : 1 + s < 7 := by omega
  have hn6 := ct_n s hs
  have c410 : 410 ≤ 410 + (1 + s) ∧ 410 + (1 + s) < 419 := by omega
  have hp := tp_ps_le (b := b) ha
  obtain ⟨e, r, x, m, p1, p2, p3⟩ := ct_itemsL (L := L) (xs := xs) (fm := fm) hs hn hb 7 0 a (ct_us s) rfl (by decide) ha (fun k hk => (ct_b s hs k (by omega)).2.2.2)
  refine ⟨e, r, ?_, ?_, p1, p2, p3⟩
  · intro σ h
    have hX : tp_X (sd_wA σ 4 (va_cpy (fun j => (sd_stat 1).getD j 0) (σ.1 4) (6 * s) 0 6)) b n a := by
      obtain ⟨g1, g2, g3, g4, g5, g6⟩ := h
      exact ⟨by rw [wA_c (by decide)]; exact g1, fun i hi => by rw [wA_c (by decide)]; exact g2 i hi, by rw [wA_c (by decide)]; exact g3, g4, g5, g6⟩
    obtain ⟨σ', y1, y2, y3, y4, y5⟩ := x _ sd_un sd_un sd_un hX (fun k hk => by
      rw [wA_k, pk_cpy_in (Nat.zero_le _) (by omega), Nat.sub_zero]
      exact ct_e1 s hs k hk)
    refine ⟨σ', fun e' j q1 q2 => (y1 e' j q1 q2).trans (by rw [wA_c q2]), y2, y3, y4, fun D Q hD => ?_⟩
    obtain ⟨d, rfl⟩ : ∃ d, D = d + 1 := ⟨D - 1, by omega⟩
    refine sd_Call.iff (fun Q hq => ?_) Q
    have nx := y5 d Q (by omega) hq
    have ci := fun (σ : sd_Mem) Q => k_itemsOf (L := L) (xs := xs) (fm := fm) (σ := σ) (D := d) (Q := Q) hs (by omega)
    have e0 : ct_pop 0 = 0 := rfl
    rw [e0] at nx
    rw [sd_Call.start (ls := [.ref 3, .int (nI s), sd_un, sd_un, sd_un, sd_un, sd_un, sd_un]) m_CountryReader_readItems (by decide) (Nat.le_of_ble_eq_true rfl) rfl]
    simp (disch := first | exact sd_cr | exact sd_ci | exact sd_cu | exact sd_cl9 | assumption | omega | exact t_259 | exact t_260 | exact t_261 | exact t_262 | exact t_263 | exact t_264 | exact t_254 | exact t_255 | exact t_256 | exact t_257 | exact t_266 | exact t_267 | exact t_268 | exact t_269 | exact t_270 | exact t_252 | exact t_240 | exact t_246 | exact t_2 | exact t_4 | exact t_5 | exact t_13 | exact t_14 | exact t_15 | exact t_16 | exact Or.inl t_39 | exact Or.inr t_7) only [z_CountryReader_readItems_0, z_CountryReader_readItems_3, z_CountryReader_readItems_4, z_CountryReader_readItems_6, z_CountryReader_readItems_7, z_CountryReader_readItems_8, z_CountryReader_readItems_11, z_CountryReader_readItems_12, false_and, and_false, if_true, if_false, Decidable.not_not, sd_ci, sd_cr, sd_cl9, sd_cu, sd_cat0, sd_cat1, sd_rfS, sd_n01, sd_n11, sd_n1, sd_n10, sd_n00, sd_b01, sd_b0, true_and, and_true, and_self, not_true_eq_false, not_false_eq_true, false_implies, true_implies, implies_true, or_true, true_or, or_false, false_or, Option.toList_some, Option.toList_none, List.cons_append, List.nil_append, Nat.reduceAdd, Nat.reduceLeDiff, h_0, h_1, t_2, n_2, h_3, t_4, n_4, t_5, n_5, h_6, t_7, n_7, t_8, n_8, t_9, n_9, t_10, n_10, t_11, n_11, t_12, n_12, t_13, n_13, t_14, n_14, t_15, n_15, t_16, n_16, h_17, h_18, t_19, n_19, t_20, n_20, t_21, n_21, t_22, n_22, h_28, t_29, n_29, t_30, n_30, t_31, n_31, t_32, n_32, h_38, t_39, n_39, t_240, n_240, t_246, n_246, t_252, n_252, h_253, t_254, n_254, t_255, n_255, t_256, n_256, t_257, n_257, h_258, t_259, n_259, t_260, n_260, t_261, n_261, t_262, n_262, t_263, n_263, t_264, n_264, h_265, t_266, n_266, t_267, n_267, t_268, n_268, t_269, n_269, t_270, n_270, r_0_0, r_0_1, r_0_2, r_0_3, r_0_6, r_0_7, r_0_8, r_0_9, r_0_11, r_0_12, r_0_13, r_0_14, r_0_15, r_1_0, r_3_0, r_3_1, r_3_2, r_6_0, r_6_1, r_6_4, r_6_5, r_6_7, r_7_0, r_7_1, r_7_2, r_7_3, r_7_4, r_17_0, r_17_1, r_18_1, r_18_2, r_18_3, r_18_4, r_18_6, r_28_1, r_28_2, r_28_3, r_28_4, r_28_6, r_38_0, r_253_0, r_253_1, r_253_2, r_253_3, r_258_0, r_258_1, r_258_3, r_258_4, r_258_6, r_258_8, r_265_0, r_265_1, r_265_3, r_265_4, r_265_5, r_0_4, r_0_5, r_3_1, nz_mul, Nat.mul_comm s 6]
    rw [ct_cpy (by omega)]
    simp (disch := first | exact sd_cr | exact sd_ci | exact sd_cu | exact sd_cl9 | assumption | omega | exact t_259 | exact t_260 | exact t_261 | exact t_262 | exact t_263 | exact t_264 | exact t_254 | exact t_255 | exact t_256 | exact t_257 | exact t_266 | exact t_267 | exact t_268 | exact t_269 | exact t_270 | exact t_252 | exact t_240 | exact t_246 | exact t_2 | exact t_4 | exact t_5 | exact t_13 | exact t_14 | exact t_15 | exact t_16 | exact Or.inl t_39 | exact Or.inr t_7) only [z_CountryReader_readItems_17, z_CountryReader_readItems_18, z_CountryReader_readItems_21, z_CountryReader_readItems_22, z_CountryReader_readItems_23, z_CountryReader_readItems_24, z_CountryReader_readItems_25, false_and, and_false, if_true, if_false, Decidable.not_not, sd_ci, sd_cr, sd_cl9, sd_cu, sd_cat0, sd_cat1, sd_rfS, sd_n01, sd_n11, sd_n1, sd_n10, sd_n00, sd_b01, sd_b0, true_and, and_true, and_self, not_true_eq_false, not_false_eq_true, false_implies, true_implies, implies_true, or_true, true_or, or_false, false_or, Option.toList_some, Option.toList_none, List.cons_append, List.nil_append, Nat.reduceAdd, Nat.reduceLeDiff, ci]
    exact nx
  · intro σ t o k2 fr h hf k1 k2' k3 k4 k5
    obtain ⟨σ1, s1, s2, s3, s4⟩ := ct_initM (L := L) (xs := xs) (fm := fm) (s := s) hs k1 k2' k3 (l6 := sd_un) (tx_n (1 + s)) 0 σ rfl
    have hM1 : tp_M σ1 t o b n a := by
      obtain ⟨g1, g2, g3, g4, g5, g6, g7, g8, g9, g10, g11⟩ := h
      exact ⟨by rw [s2]; exact g1, by rw [s1 271 8 (fun q => k4 q.1.symm)]; exact g2, by rw [s1 271 9 (fun q => k4 q.1.symm)]; exact g3, by rw [s1 271 10 (fun q => k4 q.1.symm)]; exact g4, fun i hi => by rw [s1 t _ (fun q => k5 q.1.symm)]; exact g5 i hi, g6, g7, g8, g9, g10, g11⟩
    have hf1 : σ1.1 271 11 = -1 := by rw [s1 271 11 (fun q => k4 q.1.symm)]; exact hf
    obtain ⟨σ', y1, y2, y3, y4, y5⟩ := m (sd_wI σ1 271 10 (nI (tp_ps b n a))) t o k2 fr (hM1.at hp.2) (by rw [wI_o (by decide)]; exact hf1) k1 k2' k3 k4 k5 (fun k hk => by
      rw [wI_c k4]
      exact s3 k (by omega) hk)
    refine ⟨σ', fun e' j q1 q2 => ?_, by rw [y2]; exact s2, y3, y4, fun D Q hD => ?_⟩
    · rw [y1 e' j q1 q2, wI_1, if_neg (fun q => q1 ⟨q.1, Or.inl q.2⟩), s1 e' j (fun q => q2 ⟨q.1, by omega, q.2.2⟩)]
    · obtain ⟨d, rfl⟩ : ∃ d, D = d + 1 := ⟨D - 1, by omega⟩
      refine sd_Call.iff (fun Q hq => ?_) Q
      have nx := y5 d Q (by omega) hq
      have cl := fun Q => k_look (L := L) (xs := xs) (fm := fm) (D := d) (Q := Q) hM1 (by omega)
      have csp := fun (σ : sd_Mem) (v : Int32) Q => k_spotOf (L := L) (xs := xs) (fm := fm) (σ := σ) (Q := Q) (v := v) (i := 1 + s) (D := d) hs7 (by omega)
      rw [sd_Call.start (ls := [.ref 271, .int (nI (tx_b 0 s)), .ref k2, .int (nI fr), .ref (410 + (1 + s)), sd_un, sd_un]) m_M_readItems (by decide) (Nat.le_of_ble_eq_true rfl) rfl]
      rw [z_M_readItems_0, z_M_readItems_1 sd_cr]
      refine s4 d Q (by omega) ?_
      simp (disch := first | exact sd_cr | exact sd_ci | exact sd_cu | exact sd_cl9 | assumption | omega | exact t_285 | exact t_283 | exact t_278 | exact t_281 | exact t_276 | exact t_274 | exact t_275 | exact t_277 | exact t_279 | exact t_280 | exact t_282 | exact t_284 | exact t_286 | exact t_287 | exact t_288 | exact t_289 | exact t_290 | exact t_291 | exact t_292 | exact t_293 | exact t_294 | exact t_295 | exact t_296 | exact t_297 | exact t_298 | exact t_299 | exact t_300) only [z_M_readItems_31, z_M_readItems_32, z_M_readItems_34, z_M_readItems_36, z_M_readItems_37, z_M_readItems_40, z_M_readItems_43, false_and, and_false, if_true, if_false, Decidable.not_not, sd_ci, sd_cr, sd_cl9, sd_cu, sd_cat0, sd_cat1, sd_rfS, sd_n01, sd_n11, sd_n1, sd_n10, sd_n00, sd_b01, sd_b0, true_and, and_true, and_self, not_true_eq_false, not_false_eq_true, false_implies, true_implies, implies_true, or_true, true_or, or_false, false_or, Option.toList_some, Option.toList_none, List.cons_append, List.nil_append, Nat.reduceAdd, Nat.reduceLeDiff, h_271, t_272, n_272, t_273, n_273, t_274, n_274, t_275, n_275, t_276, n_276, t_277, n_277, t_278, n_278, t_279, n_279, t_280, n_280, t_281, n_281, t_282, n_282, t_283, n_283, t_284, n_284, t_285, n_285, t_286, n_286, t_287, n_287, t_288, n_288, t_289, n_289, t_290, n_290, t_291, n_291, t_292, n_292, t_293, n_293, t_294, n_294, t_295, n_295, t_296, n_296, t_297, n_297, t_298, n_298, t_299, n_299, t_300, n_300, t_301, n_301, r_271_1, r_271_2, r_271_3, r_271_4, r_271_15, r_271_16, r_271_18, r_271_19, r_271_20, r_271_21, r_271_22, r_271_23, r_271_24, r_271_25, r_271_26, r_271_34, r_271_35, r_271_38, r_271_39, r_271_40, r_271_42, r_271_45, r_271_46, r_271_47, r_271_48, r_271_49, r_271_50, r_271_53, r_271_54, r_271_55, r_271_57, cl, csp]
      exact nx
end SDBX
/-- the class's draft at c -/
def ct_X (σ : sd_Mem) (c : Nat) (A W : sw_T) (dn : Nat) : Prop := sd_isC c ∧ sw_X σ c A ∧ sw_S σ (c + 5) (A 0 0 0) W ∧ σ.1 5 0 = nI (A 0 0 0) ∧ σ.1 5 1 = nI dn ∧ σ.1 5 2 = nI (W 0 0 0) ∧ σ.1 5 3 = nI (A 5 0 0)
/-- the reference's -/
def ct_M (σ : sd_Mem) (A W : sw_T) (dn : Nat) : Prop := σ.1 271 30 = nI (A 0 0 0) ∧ σ.1 271 31 = nI dn ∧ σ.1 271 32 = nI (W 0 0 0) ∧ σ.1 271 33 = nI (A 5 0 0) ∧ (∀ p, p < A 0 0 0 → σ.1 277 (15 * p) = nI (A 1 p 0) ∧ σ.1 277 (15 * p + 1) = nI (W 3 p 0) ∧ σ.1 277 (15 * p + 2) = nI (W 2 p 0) ∧ ∀ i, i < W 2 p 0 → σ.1 277 (15 * p + 3 + i) = nI (W 4 p i)) ∧ (∀ e, e < 8 → σ.1 279 (2 * e) = nI (A 2 e 0) ∧ σ.1 279 (2 * e + 1) = nI (A 3 e 0)) ∧ (∀ v, v < W 0 0 0 → ∀ j, j < 6 → σ.1 280 (6 * v + j) = nI (W 1 v j)) ∧ ∀ e, e < A 5 0 0 → ∀ j, j < 4 → σ.1 282 (4 * e + j) = nI (A 4 e j)
/-- what holds of a draft -/
def ct_P (A W : sw_T) (dn : Nat) : Prop := sw_bd A ∧ sw_bd W ∧ A 0 0 0 ≤ 5 ∧ A 5 0 0 ≤ 8 ∧ W 0 0 0 ≤ 8 ∧ dn ≤ 8 ∧ (∀ p, A 1 p 0 ≤ 8) ∧ (∀ e, A 2 e 0 ≤ 9) ∧ (∀ e, A 3 e 0 ≤ 9) ∧ (∀ p, p < A 0 0 0 → 0 < W 2 p 0 ∧ W 2 p 0 ≤ 12 ∧ W 3 p 0 ≤ 9) ∧ (∀ p i, W 4 p i < 8) ∧ (∀ v, v < W 0 0 0 → W 1 v 0 ≤ 4 ∧ W 1 v 1 ≤ 7 ∧ W 1 v 2 ≤ 7 ∧ W 1 v 3 ≤ 7 ∧ W 1 v 4 ≤ 9) ∧ (∀ v j, W 1 v j < 1000) ∧ (∀ e, e < A 5 0 0 → A 4 e 0 ≤ 4 ∧ A 4 e 1 ≤ 4 ∧ A 4 e 2 ≤ 11 ∧ A 4 e 3 ≤ 11) ∧ W 5 0 0 = 0
/-- what reading a draft may change -/
def ct_fX (σ σ' : sd_Mem) (c : Nat) : Prop := (∀ e j, ¬ (e = 1 ∧ j = 2) → e ≠ 4 → e ≠ 5 → ¬ (c ≤ e ∧ e < c + 10) → σ'.1 e j = σ.1 e j) ∧ σ'.2 = σ.2
def ct_fM (σ σ' : sd_Mem) : Prop := (∀ e j, ¬ (e = 271 ∧ (j = 10 ∨ j = 11 ∨ (30 ≤ j ∧ j ≤ 33))) → e ≠ 277 → e ≠ 279 → e ≠ 280 → e ≠ 282 → e ≠ 284 → σ'.1 e j = σ.1 e j) ∧ σ'.2 = σ.2
theorem ct_fX.tr {σ σ1 σ2 : sd_Mem} {c : Nat} (h1 : ct_fX σ σ1 c) (h2 : ct_fX σ1 σ2 c) : ct_fX σ σ2 c := ⟨fun e j a b d g => (h2.1 e j a b d g).trans (h1.1 e j a b d g), h2.2.trans h1.2⟩
theorem ct_fM.tr {σ σ1 σ2 : sd_Mem} (h1 : ct_fM σ σ1) (h2 : ct_fM σ1 σ2) : ct_fM σ σ2 := ⟨fun e j a b d g h i => (h2.1 e j a b d g h i).trans (h1.1 e j a b d g h i), h2.2.trans h1.2⟩
theorem tp_X.fr {σ σ' : sd_Mem} {b : Nat → Nat} {n a : Nat} (h : tp_X σ b n a) (e1 : ∀ j, j = 1 ∨ j = 2 → σ'.1 1 j = σ.1 1 j) (e2 : ∀ j, σ'.1 2 j = σ.1 2 j) : tp_X σ' b n a := by
  obtain ⟨g1, g2, g3, g4, g5, g6⟩ := h
  exact ⟨(e1 1 (by decide)).trans g1, fun i hi => (e2 i).trans (g2 i hi), (e1 2 (by decide)).trans g3, g4, g5, g6⟩
theorem tp_M.fr {σ σ' : sd_Mem} {b : Nat → Nat} {n a t o : Nat} (h : tp_M σ t o b n a) (e1 : ∀ j, j = 8 ∨ j = 9 ∨ j = 10 → σ'.1 271 j = σ.1 271 j) (e2 : ∀ j, σ'.1 t j = σ.1 t j) (e3 : σ'.2 = σ.2) : tp_M σ' t o b n a := by
  obtain ⟨g1, g2, g3, g4, g5, g6⟩ := h
  exact ⟨by rw [e3]; exact g1, (e1 8 (by decide)).trans g2, (e1 9 (by decide)).trans g3, (e1 10 (by decide)).trans g4, fun i hi => (e2 _).trans (g5 i hi), g6⟩
