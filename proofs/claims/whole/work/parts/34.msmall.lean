/-! the reference's small methods -/
section SD34
variable {L : Nat} {xs : Nat → Int32} {fm : Option Nat} {σ : sd_Mem} {d : Nat} {Q : Option Value → sd_Mem → Prop} {c s : Nat} {u : Nat → Nat → Nat}
theorem c_M_isIn {a b e : Int64} : sd_Call (sd_E1 L xs fm) (d + 1) y_M_isIn [.long a, .long b, .long e] σ Q ↔ Q (some (.int (sd_b (b ≤ a ∧ a ≤ e)))) σ := by
  refine sd_Call.iff (fun Q hq => ?_) Q
  rw [sd_Call.start (ls := [.long a, sd_un, .long b, sd_un, .long e, sd_un]) m_M_isIn (by decide) (Nat.le_of_ble_eq_true rfl) rfl]
  simp only [z_M_isIn_0, z_M_isIn_1, z_M_isIn_2, z_M_isIn_3, z_M_isIn_6, z_M_isIn_7, z_M_isIn_9, z_M_isIn_10, z_M_isIn_13, z_M_isIn_14, z_M_isIn_17, z_M_isIn_18, sd_ci, sd_cr, sd_cl9, sd_cu, sd_cat0, sd_cat1, sd_rfS, sd_n01, sd_n11, sd_n10, sd_n00, sd_b01, sd_b0, true_and, and_true, and_self, not_true_eq_false, not_false_eq_true, false_implies, true_implies, implies_true, or_true, true_or, or_false, false_or, Option.toList_some, Option.toList_none, List.cons_append, List.nil_append, Nat.reduceAdd, Nat.reduceLeDiff, lg_cmp_lt, lg_cmp_gt]
  refine ⟨fun q => ?_, fun q => ⟨fun q2 => ?_, fun q2 => ?_⟩⟩
  · rw [sd_bF (fun z => Int64.not_le.mpr q z.1)] at hq; exact hq
  · rw [sd_bF (fun z => Int64.not_le.mpr q2 z.2)] at hq; exact hq
  · rw [sd_bT ⟨Int64.not_lt.mp q, Int64.not_lt.mp q2⟩] at hq; exact hq
theorem c_M_isForce (hV : sd_VM σ c s u) {v : Nat} (hv : v < 2147483648) : sd_Call (sd_E1 L xs fm) (d + 1) y_M_isForce [.ref 271, .ref c, .int (nI v)] σ Q ↔ Q (some (.int (sd_b (sd_fo s u v)))) σ := by
  refine sd_Call.iff (fun Q hq => ?_) Q
  obtain ⟨k1, k2, h1, h2, h3, h4⟩ := id hV
  rw [sd_Call.start (ls := [.ref 271, .ref c, .int (nI v)]) m_M_isForce (by decide) (Nat.le_of_ble_eq_true rfl) rfl]
  by_cases hs : v < s
  · simp (disch := first | assumption | omega | exact nz_big (h4 _ _)) only [z_M_isForce_0, z_M_isForce_1, z_M_isForce_4, z_M_isForce_5, z_M_isForce_6, z_M_isForce_9, z_M_isForce_10, z_M_isForce_13, z_M_isForce_14, z_M_isForce_16, z_M_isForce_18, z_M_isForce_19, z_M_isForce_20, z_M_isForce_21, z_M_isForce_22, z_M_isForce_23, z_M_isForce_24, z_M_isForce_27, z_M_isForce_28, z_M_isForce_31, z_M_isForce_32, sd_ci, sd_cr, sd_cl9, sd_cu, sd_cat0, sd_cat1, sd_rfS, sd_n01, sd_n11, sd_n10, sd_n00, sd_b01, sd_b0, true_and, and_true, and_self, not_true_eq_false, not_false_eq_true, false_implies, true_implies, implies_true, or_true, true_or, or_false, false_or, Option.toList_some, Option.toList_none, List.cons_append, List.nil_append, Nat.reduceAdd, Nat.reduceLeDiff, nz_lt0, nz_ge0, nz_le0, nz_gt0, nz_eq0, nz_eq1, nz_lt, nz_le, nz_eq, nz_cl, nz_in, nz_add, nz_mul, nz_m1, nz_m1', Nat.reduceMul, Nat.reduceSub, Nat.reduceLT, Nat.reduceEqDiff, not_false_eq_true, false_implies, true_implies, true_and, and_true, k1, k2, h1, h3 v hs]
    refine ⟨by omega, fun q => ⟨by omega, fun q => ?_, fun q => ?_⟩⟩ <;> first | (rw [sd_bT (by omega)] at hq; exact hq) | (rw [sd_bF (by omega)] at hq; exact hq)
  · simp (disch := first | assumption | omega | exact nz_big (h4 _ _)) only [z_M_isForce_0, z_M_isForce_1, z_M_isForce_4, z_M_isForce_5, z_M_isForce_6, z_M_isForce_9, z_M_isForce_10, z_M_isForce_13, z_M_isForce_14, z_M_isForce_16, z_M_isForce_18, z_M_isForce_19, z_M_isForce_20, z_M_isForce_21, z_M_isForce_22, z_M_isForce_23, z_M_isForce_24, z_M_isForce_27, z_M_isForce_28, z_M_isForce_31, z_M_isForce_32, sd_ci, sd_cr, sd_cl9, sd_cu, sd_cat0, sd_cat1, sd_rfS, sd_n01, sd_n11, sd_n10, sd_n00, sd_b01, sd_b0, true_and, and_true, and_self, not_true_eq_false, not_false_eq_true, false_implies, true_implies, implies_true, or_true, true_or, or_false, false_or, Option.toList_some, Option.toList_none, List.cons_append, List.nil_append, Nat.reduceAdd, Nat.reduceLeDiff, nz_lt0, nz_ge0, nz_le0, nz_gt0, nz_eq0, nz_eq1, nz_lt, nz_le, nz_eq, nz_cl, nz_in, nz_add, nz_mul, nz_m1, nz_m1', Nat.reduceMul, Nat.reduceSub, Nat.reduceLT, Nat.reduceEqDiff, not_false_eq_true, false_implies, true_implies, true_and, and_true, k1, k2, h1]
    refine ⟨fun q => ?_, fun q => by omega⟩
    rw [sd_bF (by omega)] at hq; exact hq
theorem c_M_isForce_n {x : Int32} (hx : x < 0) : sd_Call (sd_E1 L xs fm) (d + 1) y_M_isForce [.ref 271, .ref c, .int x] σ Q ↔ Q (some (.int (nI 0))) σ := by
  refine sd_Call.iff (fun Q hq => ?_) Q
  rw [sd_Call.start (ls := [.ref 271, .ref c, .int x]) m_M_isForce (by decide) (Nat.le_of_ble_eq_true rfl) rfl]
  simp only [z_M_isForce_0, z_M_isForce_1, z_M_isForce_4, z_M_isForce_5, z_M_isForce_6, z_M_isForce_9, z_M_isForce_10, z_M_isForce_13, z_M_isForce_14, z_M_isForce_16, z_M_isForce_18, z_M_isForce_19, z_M_isForce_20, z_M_isForce_21, z_M_isForce_22, z_M_isForce_23, z_M_isForce_24, z_M_isForce_27, z_M_isForce_28, z_M_isForce_31, z_M_isForce_32, sd_ci, sd_cr, sd_cl9, sd_cu, sd_cat0, sd_cat1, sd_rfS, sd_n01, sd_n11, sd_n10, sd_n00, sd_b01, sd_b0, true_and, and_true, and_self, not_true_eq_false, not_false_eq_true, false_implies, true_implies, implies_true, or_true, true_or, or_false, false_or, Option.toList_some, Option.toList_none, List.cons_append, List.nil_append, Nat.reduceAdd, Nat.reduceLeDiff, hx]
  exact hq
theorem c_M_isPlain (hV : sd_VM σ c s u) {v : Nat} (hs : v < s) : sd_Call (sd_E1 L xs fm) (d + 1) y_M_isPlain [.ref c, .int (nI v)] σ Q ↔ Q (some (.int (sd_b (u v 1 < 6)))) σ := by
  refine sd_Call.iff (fun Q hq => ?_) Q
  obtain ⟨k1, k2, h1, h2, h3, h4⟩ := id hV
  rw [sd_Call.start (ls := [.ref c, .int (nI v)]) m_M_isPlain (by decide) (Nat.le_of_ble_eq_true rfl) rfl]
  simp (disch := first | assumption | omega | exact nz_big (h4 _ _)) only [z_M_isPlain_0, z_M_isPlain_1, z_M_isPlain_3, z_M_isPlain_5, z_M_isPlain_6, z_M_isPlain_7, z_M_isPlain_8, z_M_isPlain_9, z_M_isPlain_10, z_M_isPlain_11, z_M_isPlain_13, z_M_isPlain_16, z_M_isPlain_17, z_M_isPlain_20, z_M_isPlain_21, sd_ci, sd_cr, sd_cl9, sd_cu, sd_cat0, sd_cat1, sd_rfS, sd_n01, sd_n11, sd_n10, sd_n00, sd_b01, sd_b0, true_and, and_true, and_self, not_true_eq_false, not_false_eq_true, false_implies, true_implies, implies_true, or_true, true_or, or_false, false_or, Option.toList_some, Option.toList_none, List.cons_append, List.nil_append, Nat.reduceAdd, Nat.reduceLeDiff, nz_lt0, nz_ge0, nz_le0, nz_gt0, nz_eq0, nz_eq1, nz_lt, nz_le, nz_eq, nz_cl, nz_in, nz_add, nz_mul, nz_m1, nz_m1', Nat.reduceMul, Nat.reduceSub, Nat.reduceLT, Nat.reduceEqDiff, not_false_eq_true, false_implies, true_implies, true_and, and_true, k1, k2, h1, h3 v hs]
  refine ⟨by omega, fun q => ?_, fun q => ?_⟩ <;> first | (rw [sd_bT (by omega)] at hq; exact hq) | (rw [sd_bF (by omega)] at hq; exact hq)
end SD34
