/-! a row told: the class reads it -/
section SDBB
variable {L : Nat} {xs : Nat → Int32} {fm : Option Nat} {σ : sd_Mem} {b : Nat → Nat} {n a T : Nat}
theorem c_Told_read (hn : σ.1 1 1 = nI n) (hby : ∀ i, i < n → σ.1 2 i = nI (b i)) (h240 : n ≤ 240) (hb : ∀ i, i < n → b i < 256) (hT : σ.1 258 2 = nI T) (hT6 : T ≤ 6) : ∃ σ', (∀ e j, ¬ (e = 1 ∧ j = 2) → ¬ (e = 259 ∧ 12 * T ≤ j) → ¬ (e = 260 ∧ j = T) → σ'.1 e j = σ.1 e j) ∧ σ'.2 = σ.2 ∧ (rw_f b n = none → σ'.1 260 T = nI (rw_e b n 12 0).2.2.length ∧ ∀ j, j < (rw_e b n 12 0).2.2.length → σ'.1 259 (12 * T + j) = nI ((rw_e b n 12 0).2.2.getD j 0)) ∧ ∀ (d : Nat) (Q : Option Value → sd_Mem → Prop), sd_Call (sd_E1 L xs fm) (d + 4) y_Told_read [.ref 258, .ref 1] σ Q ↔ Q (some (.int (rw_fv (rw_f b n)))) σ' := by
  have h0 : tp_X (sd_wI σ 1 2 (nI 0)) b n 0 := ⟨by rw [wI_o (by decide)]; exact hn, fun i hi => by rw [wI_c (by decide)]; exact hby i hi, wI_k, h240, hb, Nat.zero_le _⟩
  obtain ⟨σ1, s1, s2, s3, s4, s5⟩ := c_Tape_readRow (L := L) (xs := xs) (fm := fm) (k := 259) (fr := 12 * T) t_259 (by rw [n_259]; omega) (by omega) (by decide) (by decide) h0
  have hle := rw_e_le (b := b) (n := n) 12 0 (Nat.zero_le _)
  have hT1 : σ1.1 258 2 = nI T := by rw [s2 258 2 (by decide) (by omega), wI_c (by decide)]; exact hT
  have hpi := rw_e_i (b := b) (n := n) 12 0 (Nat.zero_le _)
  have s13 := s1.2.2.1
  have hT0 : (sd_wI σ 1 2 (nI 0)).1 258 2 = nI T := by rw [wI_c (by decide)]; exact hT
  by_cases hbad : rw_bad 0 (rw_e b n 12 0)
  · have ef : rw_f b n = some (rw_e b n 12 0).1 := if_neg (fun q => q.1 hbad)
    have ev : rw_v 0 (rw_e b n 12 0) = -1 := by
      unfold rw_v
      rcases hbad with q | q
      · exact if_pos q
      · rw [if_pos q]
        split <;> rfl
    refine ⟨σ1, fun e j h1 h2 _ => ?_, s3, fun q => (by rw [ef] at q; cases q), fun d Q => sd_Call.iff (fun Q hq => ?_) Q⟩
    · rw [s2 e j h1 (fun q => h2 ⟨q.1, q.2.1⟩), wI_1, if_neg h1]
    rw [ef] at hq
    have hq : Q (some (.int (nI (rw_e b n 12 0).1))) σ1 := hq
    rw [sd_Call.start (ls := [.ref 258, .ref 1, sd_un]) m_Told_read (by decide) (Nat.le_of_ble_eq_true rfl) rfl]
    have s5 := s5 d
    rw [ev, Nat.mul_comm] at s5
    simp (disch := first | exact sd_cr | exact sd_ci | exact sd_cu | exact sd_cl9 | assumption | omega | exact t_259 | exact t_260 | exact t_261 | exact t_262 | exact t_263 | exact t_264 | exact t_254 | exact t_255 | exact t_256 | exact t_257 | exact t_266 | exact t_267 | exact t_268 | exact t_269 | exact t_270 | exact t_252 | exact t_240 | exact t_246 | exact t_2 | exact t_4 | exact t_5 | exact t_13 | exact t_14 | exact t_15 | exact t_16 | exact Or.inl t_39 | exact Or.inr t_7) only [z_Told_read_0, z_Told_read_1, z_Told_read_2, z_Told_read_5, z_Told_read_6, z_Told_read_7, z_Told_read_10, z_Told_read_11, z_Told_read_14, z_Told_read_16, z_Told_read_17, z_Told_read_20, z_Told_read_21, z_Told_read_22, z_Told_read_23, z_Told_read_26, z_Told_read_27, z_Told_read_30, z_Told_read_31, z_Told_read_34, z_Told_read_35, z_Told_read_38, z_Told_read_39, z_Told_read_40, z_Told_read_43, z_Told_read_44, z_Told_read_47, z_Told_read_48, z_Told_read_49, z_Told_read_50, false_and, and_false, if_true, if_false, Decidable.not_not, sd_ci, sd_cr, sd_cl9, sd_cu, sd_cat0, sd_cat1, sd_rfS, sd_n01, sd_n11, sd_n1, sd_n10, sd_n00, sd_b01, sd_b0, true_and, and_true, and_self, not_true_eq_false, not_false_eq_true, false_implies, true_implies, implies_true, or_true, true_or, or_false, false_or, Option.toList_some, Option.toList_none, List.cons_append, List.nil_append, Nat.reduceAdd, Nat.reduceLeDiff, nz_sub, nz_lt0, nz_ge0, nz_le0, nz_gt0, nz_eq0, nz_eq1, nz_lt, nz_le, nz_eq, nz_cl, nz_in, nz_add, nz_mul, nz_m1, nz_m1', Nat.reduceMul, Nat.reduceSub, Nat.reduceLT, Nat.reduceEqDiff, not_false_eq_true, false_implies, true_implies, true_and, and_true, h_0, h_1, t_2, n_2, h_3, t_4, n_4, t_5, n_5, h_6, t_7, n_7, t_8, n_8, t_9, n_9, t_10, n_10, t_11, n_11, t_12, n_12, t_13, n_13, t_14, n_14, t_15, n_15, t_16, n_16, h_17, h_18, t_19, n_19, t_20, n_20, t_21, n_21, t_22, n_22, h_28, t_29, n_29, t_30, n_30, t_31, n_31, t_32, n_32, h_38, t_39, n_39, t_240, n_240, t_246, n_246, t_252, n_252, h_253, t_254, n_254, t_255, n_255, t_256, n_256, t_257, n_257, h_258, t_259, n_259, t_260, n_260, t_261, n_261, t_262, n_262, t_263, n_263, t_264, n_264, h_265, t_266, n_266, t_267, n_267, t_268, n_268, t_269, n_269, t_270, n_270, r_0_0, r_0_1, r_0_2, r_0_3, r_0_6, r_0_7, r_0_8, r_0_9, r_0_11, r_0_12, r_0_13, r_0_14, r_0_15, r_1_0, r_3_0, r_3_1, r_3_2, r_6_0, r_6_1, r_6_4, r_6_5, r_6_7, r_7_0, r_7_1, r_7_2, r_7_3, r_7_4, r_17_0, r_17_1, r_18_1, r_18_2, r_18_3, r_18_4, r_18_6, r_28_1, r_28_2, r_28_3, r_28_4, r_28_6, r_38_0, r_253_0, r_253_1, r_253_2, r_253_3, r_258_0, r_258_1, r_258_3, r_258_4, r_258_6, r_258_8, r_265_0, r_265_1, r_265_3, r_265_4, r_265_5, r_0_4, r_0_5, h_1, hT0, s5, s13]
    exact hq
  · have ev : rw_v 0 (rw_e b n 12 0) = nI (rw_e b n 12 0).2.2.length := by
      unfold rw_v
      rw [if_neg (fun q => hbad (Or.inl q)), if_neg (fun q => hbad (Or.inr q)), Nat.zero_add]
    have cp := fun d Q => c_Tape_peek (L := L) (xs := xs) (fm := fm) (d := d) (Q := Q) s1
    rw [hpi, wI_same s13] at cp
    by_cases hp : (rw_e b n 12 0).1 < n
    · have ef : rw_f b n = some (rw_e b n 12 0).1 := if_neg (fun q => q.2 hp)
      have ea : tp_at b n (rw_e b n 12 0).1 = nI (b (rw_e b n 12 0).1) := by unfold tp_at; rw [hpi, if_pos hp]
      have hbp := hb _ hp
      refine ⟨σ1, fun e j h1 h2 _ => ?_, s3, fun q => (by rw [ef] at q; cases q), fun d Q => sd_Call.iff (fun Q hq => ?_) Q⟩
      · rw [s2 e j h1 (fun q => h2 ⟨q.1, q.2.1⟩), wI_1, if_neg h1]
      rw [ef] at hq
      have hq : Q (some (.int (nI (rw_e b n 12 0).1))) σ1 := hq
      rw [sd_Call.start (ls := [.ref 258, .ref 1, sd_un]) m_Told_read (by decide) (Nat.le_of_ble_eq_true rfl) rfl]
      have s5 := s5 d
      have cp := cp (d + 2)
      rw [ev, Nat.mul_comm] at s5
      rw [ea] at cp
      simp (disch := first | exact sd_cr | exact sd_ci | exact sd_cu | exact sd_cl9 | assumption | omega | exact t_259 | exact t_260 | exact t_261 | exact t_262 | exact t_263 | exact t_264 | exact t_254 | exact t_255 | exact t_256 | exact t_257 | exact t_266 | exact t_267 | exact t_268 | exact t_269 | exact t_270 | exact t_252 | exact t_240 | exact t_246 | exact t_2 | exact t_4 | exact t_5 | exact t_13 | exact t_14 | exact t_15 | exact t_16 | exact Or.inl t_39 | exact Or.inr t_7) only [z_Told_read_0, z_Told_read_1, z_Told_read_2, z_Told_read_5, z_Told_read_6, z_Told_read_7, z_Told_read_10, z_Told_read_11, z_Told_read_14, z_Told_read_16, z_Told_read_17, z_Told_read_20, z_Told_read_21, z_Told_read_22, z_Told_read_23, z_Told_read_26, z_Told_read_27, z_Told_read_30, z_Told_read_31, z_Told_read_34, z_Told_read_35, z_Told_read_38, z_Told_read_39, z_Told_read_40, z_Told_read_43, z_Told_read_44, z_Told_read_47, z_Told_read_48, z_Told_read_49, z_Told_read_50, false_and, and_false, if_true, if_false, Decidable.not_not, sd_ci, sd_cr, sd_cl9, sd_cu, sd_cat0, sd_cat1, sd_rfS, sd_n01, sd_n11, sd_n1, sd_n10, sd_n00, sd_b01, sd_b0, true_and, and_true, and_self, not_true_eq_false, not_false_eq_true, false_implies, true_implies, implies_true, or_true, true_or, or_false, false_or, Option.toList_some, Option.toList_none, List.cons_append, List.nil_append, Nat.reduceAdd, Nat.reduceLeDiff, nz_sub, nz_lt0, nz_ge0, nz_le0, nz_gt0, nz_eq0, nz_eq1, nz_lt, nz_le, nz_eq, nz_cl, nz_in, nz_add, nz_mul, nz_m1, nz_m1', Nat.reduceMul, Nat.reduceSub, Nat.reduceLT, Nat.reduceEqDiff, not_false_eq_true, false_implies, true_implies, true_and, and_true, h_0, h_1, t_2, n_2, h_3, t_4, n_4, t_5, n_5, h_6, t_7, n_7, t_8, n_8, t_9, n_9, t_10, n_10, t_11, n_11, t_12, n_12, t_13, n_13, t_14, n_14, t_15, n_15, t_16, n_16, h_17, h_18, t_19, n_19, t_20, n_20, t_21, n_21, t_22, n_22, h_28, t_29, n_29, t_30, n_30, t_31, n_31, t_32, n_32, h_38, t_39, n_39, t_240, n_240, t_246, n_246, t_252, n_252, h_253, t_254, n_254, t_255, n_255, t_256, n_256, t_257, n_257, h_258, t_259, n_259, t_260, n_260, t_261, n_261, t_262, n_262, t_263, n_263, t_264, n_264, h_265, t_266, n_266, t_267, n_267, t_268, n_268, t_269, n_269, t_270, n_270, r_0_0, r_0_1, r_0_2, r_0_3, r_0_6, r_0_7, r_0_8, r_0_9, r_0_11, r_0_12, r_0_13, r_0_14, r_0_15, r_1_0, r_3_0, r_3_1, r_3_2, r_6_0, r_6_1, r_6_4, r_6_5, r_6_7, r_7_0, r_7_1, r_7_2, r_7_3, r_7_4, r_17_0, r_17_1, r_18_1, r_18_2, r_18_3, r_18_4, r_18_6, r_28_1, r_28_2, r_28_3, r_28_4, r_28_6, r_38_0, r_253_0, r_253_1, r_253_2, r_253_3, r_258_0, r_258_1, r_258_3, r_258_4, r_258_6, r_258_8, r_265_0, r_265_1, r_265_3, r_265_4, r_265_5, r_0_4, r_0_5, h_1, hT0, s5, s13, cp]
      exact hq
    · have ef : rw_f b n = none := if_pos ⟨hbad, hp⟩
      have ea : tp_at b n (rw_e b n 12 0).1 = -1 := by unfold tp_at; rw [hpi, if_neg hp]
      refine ⟨sd_wI σ1 260 T (nI (rw_e b n 12 0).2.2.length), fun e j h1 h2 h3 => ?_, s3, fun _ => ⟨wI_k, fun j hj => ?_⟩, fun d Q => sd_Call.iff (fun Q hq => ?_) Q⟩
      · rw [wI_1, if_neg h3, s2 e j h1 (fun q => h2 ⟨q.1, q.2.1⟩), wI_1, if_neg h1]
      · rw [wI_c (by decide)]
        exact s4 j hj
      rw [ef] at hq
      have hq : Q (some (.int (-1))) (sd_wI σ1 260 T (nI (rw_e b n 12 0).2.2.length)) := hq
      rw [sd_Call.start (ls := [.ref 258, .ref 1, sd_un]) m_Told_read (by decide) (Nat.le_of_ble_eq_true rfl) rfl]
      have s5 := s5 d
      have cp := cp (d + 2)
      rw [ev, Nat.mul_comm] at s5
      rw [ea] at cp
      have c7 : T < 7 := by omega
      simp (disch := first | exact sd_cr | exact sd_ci | exact sd_cu | exact sd_cl9 | assumption | omega | exact t_259 | exact t_260 | exact t_261 | exact t_262 | exact t_263 | exact t_264 | exact t_254 | exact t_255 | exact t_256 | exact t_257 | exact t_266 | exact t_267 | exact t_268 | exact t_269 | exact t_270 | exact t_252 | exact t_240 | exact t_246 | exact t_2 | exact t_4 | exact t_5 | exact t_13 | exact t_14 | exact t_15 | exact t_16 | exact Or.inl t_39 | exact Or.inr t_7) only [z_Told_read_0, z_Told_read_1, z_Told_read_2, z_Told_read_5, z_Told_read_6, z_Told_read_7, z_Told_read_10, z_Told_read_11, z_Told_read_14, z_Told_read_16, z_Told_read_17, z_Told_read_20, z_Told_read_21, z_Told_read_22, z_Told_read_23, z_Told_read_26, z_Told_read_27, z_Told_read_30, z_Told_read_31, z_Told_read_34, z_Told_read_35, z_Told_read_38, z_Told_read_39, z_Told_read_40, z_Told_read_43, z_Told_read_44, z_Told_read_47, z_Told_read_48, z_Told_read_49, z_Told_read_50, false_and, and_false, if_true, if_false, Decidable.not_not, sd_ci, sd_cr, sd_cl9, sd_cu, sd_cat0, sd_cat1, sd_rfS, sd_n01, sd_n11, sd_n1, sd_n10, sd_n00, sd_b01, sd_b0, true_and, and_true, and_self, not_true_eq_false, not_false_eq_true, false_implies, true_implies, implies_true, or_true, true_or, or_false, false_or, Option.toList_some, Option.toList_none, List.cons_append, List.nil_append, Nat.reduceAdd, Nat.reduceLeDiff, nz_sub, nz_lt0, nz_ge0, nz_le0, nz_gt0, nz_eq0, nz_eq1, nz_lt, nz_le, nz_eq, nz_cl, nz_in, nz_add, nz_mul, nz_m1, nz_m1', Nat.reduceMul, Nat.reduceSub, Nat.reduceLT, Nat.reduceEqDiff, not_false_eq_true, false_implies, true_implies, true_and, and_true, h_0, h_1, t_2, n_2, h_3, t_4, n_4, t_5, n_5, h_6, t_7, n_7, t_8, n_8, t_9, n_9, t_10, n_10, t_11, n_11, t_12, n_12, t_13, n_13, t_14, n_14, t_15, n_15, t_16, n_16, h_17, h_18, t_19, n_19, t_20, n_20, t_21, n_21, t_22, n_22, h_28, t_29, n_29, t_30, n_30, t_31, n_31, t_32, n_32, h_38, t_39, n_39, t_240, n_240, t_246, n_246, t_252, n_252, h_253, t_254, n_254, t_255, n_255, t_256, n_256, t_257, n_257, h_258, t_259, n_259, t_260, n_260, t_261, n_261, t_262, n_262, t_263, n_263, t_264, n_264, h_265, t_266, n_266, t_267, n_267, t_268, n_268, t_269, n_269, t_270, n_270, r_0_0, r_0_1, r_0_2, r_0_3, r_0_6, r_0_7, r_0_8, r_0_9, r_0_11, r_0_12, r_0_13, r_0_14, r_0_15, r_1_0, r_3_0, r_3_1, r_3_2, r_6_0, r_6_1, r_6_4, r_6_5, r_6_7, r_7_0, r_7_1, r_7_2, r_7_3, r_7_4, r_17_0, r_17_1, r_18_1, r_18_2, r_18_3, r_18_4, r_18_6, r_28_1, r_28_2, r_28_3, r_28_4, r_28_6, r_38_0, r_253_0, r_253_1, r_253_2, r_253_3, r_258_0, r_258_1, r_258_3, r_258_4, r_258_6, r_258_8, r_265_0, r_265_1, r_265_3, r_265_4, r_265_5, r_0_4, r_0_5, h_1, hT0, hT1, s5, s13, cp, c7]
      exact hq
end SDBB
