/-! free and bound -/
section SD85
variable {L : Nat} {xs : Nat → Int32} {fm : Option Nat} {σ : sd_Mem} {d : Nat} {Q : Option Value → sd_Mem → Prop} {k c s p : Nat} {u : Nat → Nat → Nat}
theorem sd_terms_s (s : Nat) : sd_terms (s + 1) u p = if u s 0 = p then sd_terms s u p + u s 5 else sd_terms s u p := by
  unfold sd_terms
  rw [sd_fold_succ, Nat.zero_add]
theorem sd_terms_le (h : ∀ v j, u v j < 1000) : ∀ s, sd_terms s u p ≤ 1000 * s
  | 0 => Nat.le_refl _
  | s + 1 => by
    have := sd_terms_le h s
    have := h s 5
    rw [sd_terms_s]
    split <;> omega
theorem sd_terms_0 : ∀ s, sd_terms s u p = 0 ↔ ∀ v, v < s → u v 0 = p → u v 5 = 0
  | 0 => ⟨fun _ v hv => by omega, fun _ => rfl⟩
  | s + 1 => by
    have ih := sd_terms_0 s
    rw [sd_terms_s]
    split
    · rename_i h1
      constructor
      · intro h v hv hu
        rcases Nat.lt_or_ge v s with r | r
        · exact ih.mp (by omega) v r hu
        · rw [show v = s by omega]; omega
      · intro h
        have a1 := ih.mpr (fun v hv => h v (by omega))
        have a2 := h s (by omega) h1
        omega
    · rename_i h1
      rw [ih]
      constructor
      · intro h v hv hu
        rcases Nat.lt_or_ge v s with r | r
        · exact h v r hu
        · rw [show v = s by omega] at hu; exact absurd hu h1
      · exact fun h v hv => h v (by omega)
theorem c_State_isFree (hk : sd_isS k) (hV : sd_VS σ k s u) (hp : p < 1000) : sd_Call (sd_E1 L xs fm) (d + 2) y_State_isFree [.ref k, .int (nI p)] σ Q ↔ Q (some (.int (sd_b (sd_terms s u p = 0)))) σ := by
  refine sd_Call.iff (fun Q hq => ?_) Q
  have h12 := hV.2.1
  have ht := sd_terms_le (p := p) hV.2.2.2 s
  have hb : sd_terms s u p < 2147483648 := by omega
  have k0 := hk.1
  rw [sd_Call.start (ls := [.ref k, .int (nI p)]) m_State_isFree (by decide) (Nat.le_of_ble_eq_true rfl) rfl]
  simp (disch := first | exact sd_cr | exact sd_ci | exact sd_cu | exact sd_cl9 | assumption | omega | (apply nz_k; apply h4)) only [z_State_isFree_0, z_State_isFree_1, z_State_isFree_2, z_State_isFree_5, z_State_isFree_8, z_State_isFree_9, z_State_isFree_12, z_State_isFree_13, false_and, and_false, if_true, if_false, Decidable.not_not, sd_ci, sd_cr, sd_cl9, sd_cu, sd_cat0, sd_cat1, sd_rfS, sd_n01, sd_n11, sd_n1, sd_n10, sd_n00, sd_b01, sd_b0, true_and, and_true, and_self, not_true_eq_false, not_false_eq_true, false_implies, true_implies, implies_true, or_true, true_or, or_false, false_or, Option.toList_some, Option.toList_none, List.cons_append, List.nil_append, Nat.reduceAdd, Nat.reduceLeDiff, nz_sub, nz_lt0, nz_ge0, nz_le0, nz_gt0, nz_eq0, nz_eq1, nz_lt, nz_le, nz_eq, nz_cl, nz_in, nz_add, nz_mul, nz_m1, nz_m1', Nat.reduceMul, Nat.reduceSub, Nat.reduceLT, Nat.reduceEqDiff, not_false_eq_true, false_implies, true_implies, true_and, and_true, c_State_termsOf hk hV hp, k0]
  ((repeat' first | (refine And.intro ?_ ?_) | (intro _)) <;> first | omega | (rw [sd_bT (by omega)] at hq; exact hq) | (rw [sd_bF (by omega)] at hq; exact hq) | exact hq)
theorem c_M_isBound (hV : sd_VM σ c s u) (hp : p < 1000) : sd_Call (sd_E1 L xs fm) (d + 1) y_M_isBound [.ref c, .int (nI p)] σ Q ↔ Q (some (.int (sd_b (¬ sd_terms s u p = 0)))) σ := by
  refine sd_Call.iff (fun Q hq => ?_) Q
  obtain ⟨k1, k2, h1, h2, h3, h4⟩ := id hV
  have hany : (sw_any (fun v => decide (u v 0 = p ∧ 0 < u v 5)) s 0 = true) ↔ ¬ sd_terms s u p = 0 := by
    rw [sw_any_iff, sd_terms_0]
    constructor
    · rintro ⟨v, _, hv, hd⟩ h
      have hd := of_decide_eq_true hd
      have := h v (by omega) hd.1
      omega
    · intro h
      refine Classical.byContradiction fun q => h fun v hv hu => ?_
      refine Classical.byContradiction fun q2 => q ⟨v, by omega, by omega, decide_eq_true ⟨hu, by omega⟩⟩
  rw [sd_Call.start (ls := [.ref c, .int (nI p), sd_un]) m_M_isBound (by decide) (Nat.le_of_ble_eq_true rfl) rfl]
  simp (disch := first | exact sd_cr | exact sd_ci | exact sd_cu | exact sd_cl9 | assumption | omega) only [z_M_isBound_0, z_M_isBound_1, false_and, and_false, if_true, if_false, Decidable.not_not, sd_ci, sd_cr, sd_cl9, sd_cu, sd_cat0, sd_cat1, sd_rfS, sd_n01, sd_n11, sd_n1, sd_n10, sd_n00, sd_b01, sd_b0, true_and, and_true, and_self, not_true_eq_false, not_false_eq_true, false_implies, true_implies, implies_true, or_true, true_or, or_false, false_or, Option.toList_some, Option.toList_none, List.cons_append, List.nil_append, Nat.reduceAdd, Nat.reduceLeDiff]
  refine sd_loopS (fun i => sd_Go (sd_E1 L xs fm) d y_M_isBound 2 [.ref c, .int (nI p), .int (nI i)] [] σ Q) (fun v => decide (u v 0 = p ∧ 0 < u v 5)) s (fun b => Q (some (.int (sd_b (b = true)))) σ) ?_ ?_ s 0 (by omega) ?_
  · intro i hi h5 h6
    have hu := h4 i 5
    have h30 : σ.1 c (70 + 6 * i) = nI (u i 0) := h3 i hi 0 (by decide)
    rw [z_M_isBound_2]
    simp (disch := first | exact sd_cr | exact sd_ci | exact sd_cu | exact sd_cl9 | assumption | omega | (apply nz_k; apply h4)) only [z_M_isBound_0, z_M_isBound_1, z_M_isBound_3, z_M_isBound_4, z_M_isBound_7, z_M_isBound_8, z_M_isBound_11, z_M_isBound_12, z_M_isBound_14, z_M_isBound_16, z_M_isBound_17, z_M_isBound_18, z_M_isBound_19, z_M_isBound_20, z_M_isBound_21, z_M_isBound_24, z_M_isBound_25, z_M_isBound_27, z_M_isBound_29, z_M_isBound_30, z_M_isBound_31, z_M_isBound_32, z_M_isBound_33, z_M_isBound_34, z_M_isBound_35, z_M_isBound_38, z_M_isBound_39, z_M_isBound_40, z_M_isBound_43, z_M_isBound_46, z_M_isBound_47, false_and, and_false, if_true, if_false, Decidable.not_not, sd_ci, sd_cr, sd_cl9, sd_cu, sd_cat0, sd_cat1, sd_rfS, sd_n01, sd_n11, sd_n1, sd_n10, sd_n00, sd_b01, sd_b0, true_and, and_true, and_self, not_true_eq_false, not_false_eq_true, false_implies, true_implies, implies_true, or_true, true_or, or_false, false_or, Option.toList_some, Option.toList_none, List.cons_append, List.nil_append, Nat.reduceAdd, Nat.reduceLeDiff, nz_sub, nz_lt0, nz_ge0, nz_le0, nz_gt0, nz_eq0, nz_eq1, nz_lt, nz_le, nz_eq, nz_cl, nz_in, nz_add, nz_mul, nz_m1, nz_m1', Nat.reduceMul, Nat.reduceSub, Nat.reduceLT, Nat.reduceEqDiff, not_false_eq_true, false_implies, true_implies, true_and, and_true, k1, k2, h1, h30, h3 i hi]
    have f1 : u i 0 = p ∧ 0 < u i 5 → Q (some (.int (nI 1))) σ := fun q => by
      have := h5 (decide_eq_true q)
      rw [sd_bT rfl] at this; exact this
    have f2 : ¬ (u i 0 = p ∧ 0 < u i 5) → sd_Go (sd_E1 L xs fm) d y_M_isBound 2 [.ref c, .int (nI p), .int (nI (i + 1))] [] σ Q := fun q => h6 (decide_eq_false q)
    ((repeat' first | (refine And.intro ?_ ?_) | (intro _)) <;> first | omega | exact f1 (by omega) | (refine f2 ?_; omega))
  · intro h
    rw [sd_bF (by decide)] at h
    rw [z_M_isBound_2]
    simp (disch := first | exact sd_cr | exact sd_ci | exact sd_cu | exact sd_cl9 | assumption | omega | (apply nz_k; apply h4)) only [z_M_isBound_0, z_M_isBound_1, z_M_isBound_3, z_M_isBound_4, z_M_isBound_7, z_M_isBound_8, z_M_isBound_11, z_M_isBound_12, z_M_isBound_14, z_M_isBound_16, z_M_isBound_17, z_M_isBound_18, z_M_isBound_19, z_M_isBound_20, z_M_isBound_21, z_M_isBound_24, z_M_isBound_25, z_M_isBound_27, z_M_isBound_29, z_M_isBound_30, z_M_isBound_31, z_M_isBound_32, z_M_isBound_33, z_M_isBound_34, z_M_isBound_35, z_M_isBound_38, z_M_isBound_39, z_M_isBound_40, z_M_isBound_43, z_M_isBound_46, z_M_isBound_47, false_and, and_false, if_true, if_false, Decidable.not_not, sd_ci, sd_cr, sd_cl9, sd_cu, sd_cat0, sd_cat1, sd_rfS, sd_n01, sd_n11, sd_n1, sd_n10, sd_n00, sd_b01, sd_b0, true_and, and_true, and_self, not_true_eq_false, not_false_eq_true, false_implies, true_implies, implies_true, or_true, true_or, or_false, false_or, Option.toList_some, Option.toList_none, List.cons_append, List.nil_append, Nat.reduceAdd, Nat.reduceLeDiff, nz_sub, nz_lt0, nz_ge0, nz_le0, nz_gt0, nz_eq0, nz_eq1, nz_lt, nz_le, nz_eq, nz_cl, nz_in, nz_add, nz_mul, nz_m1, nz_m1', Nat.reduceMul, Nat.reduceSub, Nat.reduceLT, Nat.reduceEqDiff, not_false_eq_true, false_implies, true_implies, true_and, and_true, k1, k2, h1]
    ((repeat' first | (refine And.intro ?_ ?_) | (intro _)) <;> first | omega | exact h)
  · have : sd_b (sw_any (fun v => decide (u v 0 = p ∧ 0 < u v 5)) s 0 = true) = sd_b (¬ sd_terms s u p = 0) := by
      unfold sd_b
      simp only [hany]
    rw [this]; exact hq
end SD85
