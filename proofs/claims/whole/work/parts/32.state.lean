/-! the State's small methods -/
section SD32
variable {L : Nat} {xs : Nat → Int32} {fm : Option Nat} {σ : sd_Mem} {d : Nat} {Q : Option Value → sd_Mem → Prop} {k s : Nat} {u : Nat → Nat → Nat}
abbrev sd_fo (s : Nat) (u : Nat → Nat → Nat) (v : Nat) : Prop := v < s ∧ 0 < u v 5
theorem c_State_inForce (hk : sd_isS k) (hV : sd_VS σ k s u) {v : Nat} (hv : v < 2147483648) : sd_Call (sd_E1 L xs fm) (d + 1) y_State_inForce [.ref k, .int (nI v)] σ Q ↔ Q (some (.int (sd_b (sd_fo s u v)))) σ := by
  refine sd_Call.iff (fun Q hq => ?_) Q
  obtain ⟨k0, k1, k2, k3, k4, k5, k6, k7, k8, r0, r1, r2, r3⟩ := hk.all (L := L) (xs := xs) (fm := fm)
  obtain ⟨h1, h2, h3, h4⟩ := hV
  rw [sd_Call.start (ls := [.ref k, .int (nI v)]) m_State_inForce (by decide) (Nat.le_of_ble_eq_true rfl) rfl]
  by_cases hs : v < s
  · simp (disch := first | omega | exact nz_big (h4 _ _)) only [z_State_inForce_0, z_State_inForce_1, z_State_inForce_4, z_State_inForce_5, z_State_inForce_6, z_State_inForce_9, z_State_inForce_12, z_State_inForce_13, z_State_inForce_16, z_State_inForce_17, z_State_inForce_19, z_State_inForce_20, z_State_inForce_21, z_State_inForce_22, z_State_inForce_23, z_State_inForce_26, z_State_inForce_27, z_State_inForce_30, z_State_inForce_31, sd_ci, sd_cr, sd_cl9, sd_cu, sd_cat0, sd_cat1, sd_rfS, sd_n01, sd_n11, sd_n10, sd_n00, sd_b01, sd_b0, true_and, and_true, and_self, not_true_eq_false, not_false_eq_true, false_implies, true_implies, implies_true, or_true, true_or, or_false, false_or, Option.toList_some, Option.toList_none, List.cons_append, List.nil_append, Nat.reduceAdd, Nat.reduceLeDiff, nz_lt0, nz_ge0, nz_le0, nz_gt0, nz_eq0, nz_eq1, nz_lt, nz_le, nz_eq, nz_cl, nz_in, nz_add, nz_mul, nz_m1, nz_m1', Nat.reduceMul, Nat.reduceSub, Nat.reduceLT, Nat.reduceEqDiff, not_false_eq_true, false_implies, true_implies, true_and, and_true, r3, k0, k7, k8, h1, h3 v hs]
    trace_state
    refine ⟨by omega, by omega, fun q => ?_, fun q => ?_⟩ <;> first | (rw [sd_bT (by omega)] at hq; exact hq) | (rw [sd_bF (by omega)] at hq; exact hq)
  · simp (disch := first | omega | exact nz_big (h4 _ _)) only [z_State_inForce_0, z_State_inForce_1, z_State_inForce_4, z_State_inForce_5, z_State_inForce_6, z_State_inForce_9, z_State_inForce_12, z_State_inForce_13, z_State_inForce_16, z_State_inForce_17, z_State_inForce_19, z_State_inForce_20, z_State_inForce_21, z_State_inForce_22, z_State_inForce_23, z_State_inForce_26, z_State_inForce_27, z_State_inForce_30, z_State_inForce_31, sd_ci, sd_cr, sd_cl9, sd_cu, sd_cat0, sd_cat1, sd_rfS, sd_n01, sd_n11, sd_n10, sd_n00, sd_b01, sd_b0, true_and, and_true, and_self, not_true_eq_false, not_false_eq_true, false_implies, true_implies, implies_true, or_true, true_or, or_false, false_or, Option.toList_some, Option.toList_none, List.cons_append, List.nil_append, Nat.reduceAdd, Nat.reduceLeDiff, nz_lt0, nz_ge0, nz_le0, nz_gt0, nz_eq0, nz_eq1, nz_lt, nz_le, nz_eq, nz_cl, nz_in, nz_add, nz_mul, nz_m1, nz_m1', Nat.reduceMul, Nat.reduceSub, Nat.reduceLT, Nat.reduceEqDiff, not_false_eq_true, false_implies, true_implies, true_and, and_true, r3, k0, k7, k8, h1]
    trace_state
    grind [sd_b]
theorem c_State_inForce_n (hk : sd_isS k) {x : Int32} (hx : x < 0) : sd_Call (sd_E1 L xs fm) (d + 1) y_State_inForce [.ref k, .int x] σ Q ↔ Q (some (.int (nI 0))) σ := by
  refine sd_Call.iff (fun Q hq => ?_) Q
  rw [sd_Call.start (ls := [.ref k, .int x]) m_State_inForce (by decide) (Nat.le_of_ble_eq_true rfl) rfl]
  simp only [z_State_inForce_0, z_State_inForce_1, z_State_inForce_4, z_State_inForce_5, z_State_inForce_6, z_State_inForce_9, z_State_inForce_12, z_State_inForce_13, z_State_inForce_16, z_State_inForce_17, z_State_inForce_19, z_State_inForce_20, z_State_inForce_21, z_State_inForce_22, z_State_inForce_23, z_State_inForce_26, z_State_inForce_27, z_State_inForce_30, z_State_inForce_31, sd_ci, sd_cr, sd_cl9, sd_cu, sd_cat0, sd_cat1, sd_rfS, sd_n01, sd_n11, sd_n10, sd_n00, sd_b01, sd_b0, true_and, and_true, and_self, not_true_eq_false, not_false_eq_true, false_implies, true_implies, implies_true, or_true, true_or, or_false, false_or, Option.toList_some, Option.toList_none, List.cons_append, List.nil_append, Nat.reduceAdd, Nat.reduceLeDiff, hx]
  trace_state
  exact hq
theorem c_State_isAboutVow (hk : sd_isS k) (hV : sd_VS σ k s u) {v : Nat} (hv : v < s) : sd_Call (sd_E1 L xs fm) (d + 1) y_State_isAboutVow [.ref k, .int (nI v)] σ Q ↔ Q (some (.int (sd_b (5 < u v 1)))) σ := by
  refine sd_Call.iff (fun Q hq => ?_) Q
  obtain ⟨k0, k1, k2, k3, k4, k5, k6, k7, k8, r0, r1, r2, r3⟩ := hk.all (L := L) (xs := xs) (fm := fm)
  obtain ⟨h1, h2, h3, h4⟩ := hV
  rw [sd_Call.start (ls := [.ref k, .int (nI v)]) m_State_isAboutVow (by decide) (Nat.le_of_ble_eq_true rfl) rfl]
  simp (disch := first | omega | exact nz_big (h4 _ _)) only [z_State_isAboutVow_0, z_State_isAboutVow_1, z_State_isAboutVow_4, z_State_isAboutVow_5, z_State_isAboutVow_7, z_State_isAboutVow_8, z_State_isAboutVow_9, z_State_isAboutVow_10, z_State_isAboutVow_11, z_State_isAboutVow_12, z_State_isAboutVow_15, z_State_isAboutVow_16, z_State_isAboutVow_19, z_State_isAboutVow_20, sd_ci, sd_cr, sd_cl9, sd_cu, sd_cat0, sd_cat1, sd_rfS, sd_n01, sd_n11, sd_n10, sd_n00, sd_b01, sd_b0, true_and, and_true, and_self, not_true_eq_false, not_false_eq_true, false_implies, true_implies, implies_true, or_true, true_or, or_false, false_or, Option.toList_some, Option.toList_none, List.cons_append, List.nil_append, Nat.reduceAdd, Nat.reduceLeDiff, nz_lt0, nz_ge0, nz_le0, nz_gt0, nz_eq0, nz_eq1, nz_lt, nz_le, nz_eq, nz_cl, nz_in, nz_add, nz_mul, nz_m1, nz_m1', Nat.reduceMul, Nat.reduceSub, Nat.reduceLT, Nat.reduceEqDiff, not_false_eq_true, false_implies, true_implies, true_and, and_true, r3, k0, k7, k8, h1, h3 v hv]
  trace_state
  grind [sd_b]
theorem c_State_binds (hk : sd_isS k) (hV : sd_VS σ k s u) {v p : Nat} (hv : v < s) (hp : p < 1000) : sd_Call (sd_E1 L xs fm) (d + 2) y_State_binds [.ref k, .int (nI v), .int (nI p)] σ Q ↔ Q (some (.int (sd_b (0 < u v 5 ∧ u v 0 = p ∧ u v 1 ≤ 5)))) σ := by
  refine sd_Call.iff (fun Q hq => ?_) Q
  obtain ⟨k0, k1, k2, k3, k4, k5, k6, k7, k8, r0, r1, r2, r3⟩ := hk.all (L := L) (xs := xs) (fm := fm)
  obtain ⟨h1, h2, h3, h4⟩ := id hV
  rw [sd_Call.start (ls := [.ref k, .int (nI v), .int (nI p)]) m_State_binds (by decide) (Nat.le_of_ble_eq_true rfl) rfl]
  simp (disch := first | assumption | omega | exact nz_big (h4 _ _)) only [z_State_binds_0, z_State_binds_1, z_State_binds_2, z_State_binds_5, z_State_binds_8, z_State_binds_9, z_State_binds_12, z_State_binds_13, z_State_binds_15, z_State_binds_16, z_State_binds_17, z_State_binds_18, z_State_binds_19, z_State_binds_20, z_State_binds_23, z_State_binds_24, z_State_binds_25, z_State_binds_28, z_State_binds_31, z_State_binds_32, z_State_binds_35, z_State_binds_36, sd_ci, sd_cr, sd_cl9, sd_cu, sd_cat0, sd_cat1, sd_rfS, sd_n01, sd_n11, sd_n10, sd_n00, sd_b01, sd_b0, true_and, and_true, and_self, not_true_eq_false, not_false_eq_true, false_implies, true_implies, implies_true, or_true, true_or, or_false, false_or, Option.toList_some, Option.toList_none, List.cons_append, List.nil_append, Nat.reduceAdd, Nat.reduceLeDiff, nz_lt0, nz_ge0, nz_le0, nz_gt0, nz_eq0, nz_eq1, nz_lt, nz_le, nz_eq, nz_cl, nz_in, nz_add, nz_mul, nz_m1, nz_m1', Nat.reduceMul, Nat.reduceSub, Nat.reduceLT, Nat.reduceEqDiff, not_false_eq_true, false_implies, true_implies, true_and, and_true, r3, k0, k7, k8, h1, h3 v hv, c_State_inForce hk hV, c_State_isAboutVow hk hV]
  trace_state
  grind [sd_b]
end SD32
