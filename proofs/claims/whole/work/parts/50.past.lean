/-! copies of states; rows copied by loops -/
theorem wA_wI {σ : sd_Mem} {k i : Nat} {f : Nat → Int32} {v : Int32} : sd_wI (sd_wA σ k f) k i v = sd_wA σ k (fun j => if j = i then v else f j) := by
  unfold sd_wI sd_wA
  refine congrArg (fun z => (z, σ.2)) (funext fun a => funext fun j => ?_)
  show (if a = k ∧ j = i then v else if a = k then f j else σ.1 a j) = if a = k then (if j = i then v else f j) else σ.1 a j
  by_cases h : a = k
  · simp [h]
  · simp [h]
theorem wA_same {σ : sd_Mem} {k : Nat} : sd_wA σ k (σ.1 k) = σ := by
  obtain ⟨a, b⟩ := σ
  unfold sd_wA
  refine congrArg (fun z => (z, b)) (funext fun x => funext fun j => ?_)
  show (if x = k then a k j else a x j) = a x j
  split
  · rename_i q; rw [q]
  · rfl
/-- j from s on, n of them, are h; the others as they were -/
theorem sw_fill {h : Nat → Int32} {s : Nat} : ∀ (n i : Nat) (f : Nat → Int32) (j : Nat), sd_fold (fun i f => fun j => if j = s + i then h i else f j) n i f j = if s + i ≤ j ∧ j < s + i + n then h (j - s) else f j
  | 0, i, f, j => by
    rw [if_neg (by omega)]; rfl
  | n + 1, i, f, j => by
    show sd_fold _ n (i + 1) (fun j => if j = s + i then h i else f j) j = _
    rw [sw_fill n (i + 1)]
    by_cases h1 : s + (i + 1) ≤ j ∧ j < s + (i + 1) + n
    · rw [if_pos h1, if_pos (by omega)]
    · rw [if_neg h1]
      by_cases h2 : j = s + i
      · rw [if_pos h2, if_pos (by omega), h2, Nat.add_sub_cancel_left]
      · rw [if_neg h2, if_neg (by omega)]
section SD50
variable {L : Nat} {xs : Nat → Int32} {fm : Option Nat} {A W : sw_T} {σ : sd_Mem} {c d : Nat} {Q : Option Value → sd_Mem → Prop}
def sw_cpA (σ : sd_Mem) (a b n : Nat) : sd_Mem := sd_wA σ a (va_cpy (σ.1 b) (σ.1 a) 0 0 n)
theorem cpA_1 {σ : sd_Mem} {a b n : Nat} {i : Nat} (h : i < n) : (sw_cpA σ a b n).1 a i = σ.1 b i := by
  unfold sw_cpA
  rw [wA_1, if_pos rfl, pk_cpy_in (Nat.zero_le _) (by omega), Nat.zero_add, Nat.sub_zero]
theorem cpA_2 {σ : sd_Mem} {a b n : Nat} {e : Nat} (h : e ≠ a) : (sw_cpA σ a b n).1 e = σ.1 e := funext fun i => by
  unfold sw_cpA
  rw [wA_1, if_neg h]
theorem wI_c {σ : sd_Mem} {k i e : Nat} {v : Int32} (h : e ≠ k) : (sd_wI σ k i v).1 e = σ.1 e := funext fun j => wI_1.trans (if_neg (fun q => h q.1))
theorem wA_c {σ : sd_Mem} {k e : Nat} {f : Nat → Int32} (h : e ≠ k) : (sd_wA σ k f).1 e = σ.1 e := funext fun j => wA_1.trans (if_neg h)
theorem wA_k {σ : sd_Mem} {k : Nat} {f : Nat → Int32} : (sd_wA σ k f).1 k = f := funext fun j => wA_1.trans (if_pos rfl)
theorem wI_k {σ : sd_Mem} {k i : Nat} {v : Int32} : (sd_wI σ k i v).1 k i = v := wI_1.trans (if_pos ⟨rfl, rfl⟩)
theorem wI_o {σ : sd_Mem} {k i j : Nat} {v : Int32} (h : j ≠ i) : (sd_wI σ k i v).1 k j = σ.1 k j := wI_1.trans (if_neg (fun q => h q.2))
def sw_cp4 (σ : sd_Mem) (k o : Nat) : sd_Mem := sw_cpA (sw_cpA (sw_cpA (sw_cpA σ (k + 1) (o + 1) 60) (k + 2) (o + 2) 5) (k + 3) (o + 3) 5) (k + 4) (o + 4) 72
def sw_cp5 (σ : sd_Mem) (k o : Nat) : sd_Mem := sd_wI (sw_cp4 σ k o) k 4 ((sw_cp4 σ k o).1 o 4)
def sw_cp (σ : sd_Mem) (k o : Nat) : sd_Mem := sd_wI (sw_cp5 σ k o) k 5 ((sw_cp5 σ k o).1 o 5)
theorem c_State_copyFrom {k o : Nat} (hk : sd_isS k) (ho : sd_isS o) : sd_Call (sd_E1 L xs fm) (d + 1) y_State_copyFrom [.ref k, .ref o] σ Q ↔ Q none (sw_cp σ k o) := by
  obtain ⟨k0, k1, k2, k3, k4, k5, k6, k7, k8, r0, r1, r2, r3⟩ := hk.all (L := L) (xs := xs) (fm := fm)
  obtain ⟨j0, j1, j2, j3, j4, j5, j6, j7, j8, q0, q1, q2, q3⟩ := ho.all (L := L) (xs := xs) (fm := fm)
  refine sd_Call.iff (fun Q hq => ?_) Q
  rw [sd_Call.start (ls := [.ref k, .ref o]) m_State_copyFrom (by decide) (Nat.le_of_ble_eq_true rfl) rfl]
  simp (disch := first | exact sd_cr | exact sd_ci | exact sd_cu | exact sd_cl9 | assumption | omega) only [z_State_copyFrom_0, z_State_copyFrom_1, z_State_copyFrom_4, z_State_copyFrom_5, z_State_copyFrom_6, z_State_copyFrom_9, z_State_copyFrom_10, z_State_copyFrom_11, z_State_copyFrom_14, z_State_copyFrom_15, z_State_copyFrom_18, z_State_copyFrom_19, z_State_copyFrom_22, z_State_copyFrom_23, z_State_copyFrom_24, z_State_copyFrom_27, z_State_copyFrom_28, z_State_copyFrom_29, z_State_copyFrom_32, z_State_copyFrom_33, z_State_copyFrom_36, z_State_copyFrom_37, z_State_copyFrom_40, z_State_copyFrom_41, z_State_copyFrom_42, z_State_copyFrom_45, z_State_copyFrom_46, z_State_copyFrom_47, z_State_copyFrom_50, z_State_copyFrom_51, z_State_copyFrom_54, z_State_copyFrom_55, z_State_copyFrom_58, z_State_copyFrom_59, z_State_copyFrom_60, z_State_copyFrom_63, z_State_copyFrom_64, z_State_copyFrom_65, z_State_copyFrom_68, z_State_copyFrom_69, z_State_copyFrom_72, z_State_copyFrom_73, z_State_copyFrom_74, z_State_copyFrom_77, z_State_copyFrom_80, z_State_copyFrom_81, z_State_copyFrom_82, z_State_copyFrom_85, z_State_copyFrom_88, false_and, and_false, if_true, if_false, Decidable.not_not, sd_ci, sd_cr, sd_cl9, sd_cu, sd_cat0, sd_cat1, sd_rfS, sd_n01, sd_n11, sd_n1, sd_n10, sd_n00, sd_b01, sd_b0, true_and, and_true, and_self, not_true_eq_false, not_false_eq_true, false_implies, true_implies, implies_true, or_true, true_or, or_false, false_or, Option.toList_some, Option.toList_none, List.cons_append, List.nil_append, Nat.reduceAdd, Nat.reduceLeDiff, nz_sub, nz_lt0, nz_ge0, nz_le0, nz_gt0, nz_eq0, nz_eq1, nz_lt, nz_le, nz_eq, nz_cl, nz_in, nz_add, nz_mul, nz_m1, nz_m1', Nat.reduceMul, Nat.reduceSub, Nat.reduceLT, Nat.reduceEqDiff, not_false_eq_true, false_implies, true_implies, true_and, and_true, k0, k1, k2, k3, k4, k5, k6, k7, k8, r0, r1, r2, r3, j0, j1, j2, j3, j4, j5, j6, j7, j8, q0, q1, q2, q3, Nat.zero_add, Nat.le_refl]
  exact hq
/-- what a copy holds -/
theorem sw_cp_all {k o : Nat} (hko : k + 5 ≤ o ∨ o + 5 ≤ k) : (∀ i, i < 60 → (sw_cp σ k o).1 (k + 1) i = σ.1 (o + 1) i) ∧ (∀ i, i < 5 → (sw_cp σ k o).1 (k + 2) i = σ.1 (o + 2) i) ∧ (∀ i, i < 5 → (sw_cp σ k o).1 (k + 3) i = σ.1 (o + 3) i) ∧ (∀ i, i < 72 → (sw_cp σ k o).1 (k + 4) i = σ.1 (o + 4) i) ∧ (sw_cp σ k o).1 k 4 = σ.1 o 4 ∧ (sw_cp σ k o).1 k 5 = σ.1 o 5 ∧ (∀ e, (e < k ∨ k + 5 ≤ e) → (sw_cp σ k o).1 e = σ.1 e) ∧ (sw_cp σ k o).2 = σ.2 := by
  unfold sw_cp sw_cp5 sw_cp4
  refine ⟨fun i hi => ?_, fun i hi => ?_, fun i hi => ?_, fun i hi => ?_, ?_, ?_, fun e he => ?_, rfl⟩
  · rw [wI_c (by omega), wI_c (by omega), cpA_2 (by omega), cpA_2 (by omega), cpA_2 (by omega), cpA_1 hi]
  · rw [wI_c (by omega), wI_c (by omega), cpA_2 (by omega), cpA_2 (by omega), cpA_1 hi, cpA_2 (by omega)]
  · rw [wI_c (by omega), wI_c (by omega), cpA_2 (by omega), cpA_1 hi, cpA_2 (by omega), cpA_2 (by omega)]
  · rw [wI_c (by omega), wI_c (by omega), cpA_1 hi, cpA_2 (by omega), cpA_2 (by omega), cpA_2 (by omega)]
  · rw [wI_o (by decide), wI_k, cpA_2 (by omega), cpA_2 (by omega), cpA_2 (by omega), cpA_2 (by omega)]
  · rw [wI_k, wI_c (by omega), cpA_2 (by omega), cpA_2 (by omega), cpA_2 (by omega), cpA_2 (by omega)]
  · rw [wI_c (by omega), wI_c (by omega), cpA_2 (by omega), cpA_2 (by omega), cpA_2 (by omega), cpA_2 (by omega)]
theorem sw_cp_S {k o P : Nat} (hko : k + 5 ≤ o ∨ o + 5 ≤ k) (h : sw_S σ o P W) (hW : sw_OK P W) : sw_S (sw_cp σ k o) k P W := by
  obtain ⟨e1, e2, e3, e4, e5, e6, e7, e8⟩ := sw_cp_all (σ := σ) hko
  obtain ⟨⟨w1, w2, w3, w4⟩, w5, w6⟩ := h
  obtain ⟨bP2, bW, bz, bf, bs, bv, bu⟩ := hW
  refine ⟨⟨e5.trans w1, w2, fun v hv j hj => (e4 _ (by omega)).trans (w3 v hv j hj), w4⟩, fun p hp => ⟨(e2 p (by omega)).trans (w5 p hp).1, (e3 p (by omega)).trans (w5 p hp).2.1, fun i hi => (e1 _ ?_).trans ((w5 p hp).2.2 i hi)⟩, e6.trans w6⟩
  have := bz p hp
  omega
/-- M's copy of a row -/
theorem c_M_copy {a b : Nat} (ha : sd_tg a = 0 ∧ sd_ln a = 385) (hb : sd_tg b = 0 ∧ sd_ln b = 385) (hab : a ≠ b) : sd_Call (sd_E1 L xs fm) (d + 1) y_M_copy [.ref a, .ref b] σ Q ↔ Q none (sd_wA σ b (fun j => if j < 385 then σ.1 a j else σ.1 b j)) := by
  refine sd_Call.iff (fun Q hq => ?_) Q
  obtain ⟨a1, a2⟩ := ha
  obtain ⟨b1, b2⟩ := hb
  rw [sd_Call.start (ls := [.ref a, .ref b, sd_un]) m_M_copy (by decide) (Nat.le_of_ble_eq_true rfl) rfl]
  simp (disch := first | exact sd_cr | exact sd_ci | exact sd_cu | exact sd_cl9 | assumption | omega) only [z_M_copy_0, z_M_copy_1, false_and, and_false, if_true, if_false, Decidable.not_not, sd_ci, sd_cr, sd_cl9, sd_cu, sd_cat0, sd_cat1, sd_rfS, sd_n01, sd_n11, sd_n1, sd_n10, sd_n00, sd_b01, sd_b0, true_and, and_true, and_self, not_true_eq_false, not_false_eq_true, false_implies, true_implies, implies_true, or_true, true_or, or_false, false_or, Option.toList_some, Option.toList_none, List.cons_append, List.nil_append, Nat.reduceAdd, Nat.reduceLeDiff]
  have key := sd_loopF (fun i f => sd_Go (sd_E1 L xs fm) d y_M_copy 2 [.ref a, .ref b, .int (nI i)] [] (sd_wA σ b f) Q) (fun i f => fun j => if j = 0 + i then σ.1 a i else f j) 385 (σ.1 b) ?_ ?_
  · rw [wA_same] at key; exact key
  · intro i f hi hh
    rw [z_M_copy_2]
    simp (disch := first | exact sd_cr | exact sd_ci | exact sd_cu | exact sd_cl9 | assumption | omega) only [z_M_copy_0, z_M_copy_1, z_M_copy_3, z_M_copy_6, z_M_copy_9, z_M_copy_10, z_M_copy_11, z_M_copy_12, z_M_copy_13, z_M_copy_14, z_M_copy_15, z_M_copy_18, z_M_copy_21, false_and, and_false, if_true, if_false, Decidable.not_not, sd_ci, sd_cr, sd_cl9, sd_cu, sd_cat0, sd_cat1, sd_rfS, sd_n01, sd_n11, sd_n1, sd_n10, sd_n00, sd_b01, sd_b0, true_and, and_true, and_self, not_true_eq_false, not_false_eq_true, false_implies, true_implies, implies_true, or_true, true_or, or_false, false_or, Option.toList_some, Option.toList_none, List.cons_append, List.nil_append, Nat.reduceAdd, Nat.reduceLeDiff, nz_sub, nz_lt0, nz_ge0, nz_le0, nz_gt0, nz_eq0, nz_eq1, nz_lt, nz_le, nz_eq, nz_cl, nz_in, nz_add, nz_mul, nz_m1, nz_m1', Nat.reduceMul, Nat.reduceSub, Nat.reduceLT, Nat.reduceEqDiff, not_false_eq_true, false_implies, true_implies, true_and, and_true, a1, a2, b1, b2, wA_c hab, wA_wI]
    simp only [Nat.zero_add] at hh
    ((repeat' first | (refine And.intro ?_ ?_) | (intro _)) <;> first | omega | exact hh)
  · rw [z_M_copy_2]
    simp (disch := first | exact sd_cr | exact sd_ci | exact sd_cu | exact sd_cl9 | assumption | omega) only [z_M_copy_0, z_M_copy_1, z_M_copy_3, z_M_copy_6, z_M_copy_9, z_M_copy_10, z_M_copy_11, z_M_copy_12, z_M_copy_13, z_M_copy_14, z_M_copy_15, z_M_copy_18, z_M_copy_21, false_and, and_false, if_true, if_false, Decidable.not_not, sd_ci, sd_cr, sd_cl9, sd_cu, sd_cat0, sd_cat1, sd_rfS, sd_n01, sd_n11, sd_n1, sd_n10, sd_n00, sd_b01, sd_b0, true_and, and_true, and_self, not_true_eq_false, not_false_eq_true, false_implies, true_implies, implies_true, or_true, true_or, or_false, false_or, Option.toList_some, Option.toList_none, List.cons_append, List.nil_append, Nat.reduceAdd, Nat.reduceLeDiff, nz_sub, nz_lt0, nz_ge0, nz_le0, nz_gt0, nz_eq0, nz_eq1, nz_lt, nz_le, nz_eq, nz_cl, nz_in, nz_add, nz_mul, nz_m1, nz_m1', Nat.reduceMul, Nat.reduceSub, Nat.reduceLT, Nat.reduceEqDiff, not_false_eq_true, false_implies, true_implies, true_and, and_true]
    have e : (sd_fold (fun i f => fun j => if j = 0 + i then σ.1 a i else f j) 385 0 (σ.1 b)) = fun j => if j < 385 then σ.1 a j else σ.1 b j := funext fun j => by
      rw [sw_fill]
      simp
    rw [e]
    exact hq
end SD50
