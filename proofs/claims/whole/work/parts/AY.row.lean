/-! a row from the tape: the class -/
/-- a letter of a row comes next -/
abbrev rw_L (b : Nat → Nat) (n a : Nat) : Prop := tp_ps b n a < n ∧ 97 ≤ b (tp_ps b n a) ∧ b (tp_ps b n a) ≤ 104
/-- where a row of at most f letters ends, whether one more comes, its deeds -/
def rw_e (b : Nat → Nat) (n : Nat) : Nat → Nat → Nat × Bool × List Nat
  | 0, a => (tp_ps b n a, decide (rw_L b n a), [])
  | f + 1, a => if rw_L b n a then ((rw_e b n f (tp_ps b n a + 1)).1, (rw_e b n f (tp_ps b n a + 1)).2.1, (b (tp_ps b n a) - 97) :: (rw_e b n f (tp_ps b n a + 1)).2.2) else (tp_ps b n a, false, [])
/-- what a row of i deeds and these answers -/
def rw_v (i : Nat) (r : Nat × Bool × List Nat) : Int32 := if r.2.1 = true then -1 else if i + r.2.2.length = 0 then -1 else nI (i + r.2.2.length)
section SDAY
variable {L : Nat} {xs : Nat → Int32} {fm : Option Nat} {σ : sd_Mem} {b : Nat → Nat} {n a d : Nat}
theorem c_Tape_atRowLetter {Q : Option Value → sd_Mem → Prop} (h : tp_X σ b n a) : sd_Call (sd_E1 L xs fm) (d + 2) y_Tape_atRowLetter [.ref 1] σ Q ↔ Q (some (.int (sd_b (rw_L b n a)))) (sd_wI σ 1 2 (nI (tp_ps b n a))) := by
  refine sd_Call.iff (fun Q hq => ?_) Q
  rw [sd_Call.start (ls := [.ref 1, sd_un]) m_Tape_atRowLetter (by decide) (Nat.le_of_ble_eq_true rfl) rfl]
  have cp := fun Q => c_Tape_peek (L := L) (xs := xs) (fm := fm) (d := d) (Q := Q) h
  by_cases hp : tp_ps b n a < n
  · have e : tp_at b n a = nI (b (tp_ps b n a)) := if_pos hp
    have hb := h.2.2.2.2.1 _ hp
    by_cases hl : rw_L b n a
    · rw [sd_bT hl] at hq
      have h1 : ¬ b (tp_ps b n a) < 97 := by have := hl.2.1; omega
      have h2 : ¬ 104 < b (tp_ps b n a) := by have := hl.2.2; omega
      simp (disch := first | exact sd_cr | exact sd_ci | exact sd_cu | exact sd_cl9 | assumption | omega | exact t_259 | exact t_260 | exact t_261 | exact t_262 | exact t_263 | exact t_264 | exact t_254 | exact t_255 | exact t_256 | exact t_257 | exact t_266 | exact t_267 | exact t_268 | exact t_269 | exact t_270 | exact t_252 | exact t_240 | exact t_246 | exact t_2 | exact t_4 | exact t_5 | exact t_13 | exact t_14 | exact t_15 | exact t_16 | exact Or.inl t_39 | exact Or.inr t_7) only [z_Tape_atRowLetter_0, z_Tape_atRowLetter_1, z_Tape_atRowLetter_4, z_Tape_atRowLetter_5, z_Tape_atRowLetter_6, z_Tape_atRowLetter_8, z_Tape_atRowLetter_11, z_Tape_atRowLetter_12, z_Tape_atRowLetter_14, z_Tape_atRowLetter_17, z_Tape_atRowLetter_18, z_Tape_atRowLetter_21, z_Tape_atRowLetter_22, false_and, and_false, if_true, if_false, Decidable.not_not, sd_ci, sd_cr, sd_cl9, sd_cu, sd_cat0, sd_cat1, sd_rfS, sd_n01, sd_n11, sd_n1, sd_n10, sd_n00, sd_b01, sd_b0, true_and, and_true, and_self, not_true_eq_false, not_false_eq_true, false_implies, true_implies, implies_true, or_true, true_or, or_false, false_or, Option.toList_some, Option.toList_none, List.cons_append, List.nil_append, Nat.reduceAdd, Nat.reduceLeDiff, nz_sub, nz_lt0, nz_ge0, nz_le0, nz_gt0, nz_eq0, nz_eq1, nz_lt, nz_le, nz_eq, nz_cl, nz_in, nz_add, nz_mul, nz_m1, nz_m1', Nat.reduceMul, Nat.reduceSub, Nat.reduceLT, Nat.reduceEqDiff, not_false_eq_true, false_implies, true_implies, true_and, and_true, h_1, cp, e, h1, h2]
      exact hq
    · rw [sd_bF hl] at hq
      by_cases h1 : b (tp_ps b n a) < 97
      · simp (disch := first | exact sd_cr | exact sd_ci | exact sd_cu | exact sd_cl9 | assumption | omega | exact t_259 | exact t_260 | exact t_261 | exact t_262 | exact t_263 | exact t_264 | exact t_254 | exact t_255 | exact t_256 | exact t_257 | exact t_266 | exact t_267 | exact t_268 | exact t_269 | exact t_270 | exact t_252 | exact t_240 | exact t_246 | exact t_2 | exact t_4 | exact t_5 | exact t_13 | exact t_14 | exact t_15 | exact t_16 | exact Or.inl t_39 | exact Or.inr t_7) only [z_Tape_atRowLetter_0, z_Tape_atRowLetter_1, z_Tape_atRowLetter_4, z_Tape_atRowLetter_5, z_Tape_atRowLetter_6, z_Tape_atRowLetter_8, z_Tape_atRowLetter_11, z_Tape_atRowLetter_12, z_Tape_atRowLetter_14, z_Tape_atRowLetter_17, z_Tape_atRowLetter_18, z_Tape_atRowLetter_21, z_Tape_atRowLetter_22, false_and, and_false, if_true, if_false, Decidable.not_not, sd_ci, sd_cr, sd_cl9, sd_cu, sd_cat0, sd_cat1, sd_rfS, sd_n01, sd_n11, sd_n1, sd_n10, sd_n00, sd_b01, sd_b0, true_and, and_true, and_self, not_true_eq_false, not_false_eq_true, false_implies, true_implies, implies_true, or_true, true_or, or_false, false_or, Option.toList_some, Option.toList_none, List.cons_append, List.nil_append, Nat.reduceAdd, Nat.reduceLeDiff, nz_sub, nz_lt0, nz_ge0, nz_le0, nz_gt0, nz_eq0, nz_eq1, nz_lt, nz_le, nz_eq, nz_cl, nz_in, nz_add, nz_mul, nz_m1, nz_m1', Nat.reduceMul, Nat.reduceSub, Nat.reduceLT, Nat.reduceEqDiff, not_false_eq_true, false_implies, true_implies, true_and, and_true, h_1, cp, e, h1]
        exact hq
      · have h2 : 104 < b (tp_ps b n a) := Nat.lt_of_not_le (fun q => hl ⟨hp, by omega, q⟩)
        simp (disch := first | exact sd_cr | exact sd_ci | exact sd_cu | exact sd_cl9 | assumption | omega | exact t_259 | exact t_260 | exact t_261 | exact t_262 | exact t_263 | exact t_264 | exact t_254 | exact t_255 | exact t_256 | exact t_257 | exact t_266 | exact t_267 | exact t_268 | exact t_269 | exact t_270 | exact t_252 | exact t_240 | exact t_246 | exact t_2 | exact t_4 | exact t_5 | exact t_13 | exact t_14 | exact t_15 | exact t_16 | exact Or.inl t_39 | exact Or.inr t_7) only [z_Tape_atRowLetter_0, z_Tape_atRowLetter_1, z_Tape_atRowLetter_4, z_Tape_atRowLetter_5, z_Tape_atRowLetter_6, z_Tape_atRowLetter_8, z_Tape_atRowLetter_11, z_Tape_atRowLetter_12, z_Tape_atRowLetter_14, z_Tape_atRowLetter_17, z_Tape_atRowLetter_18, z_Tape_atRowLetter_21, z_Tape_atRowLetter_22, false_and, and_false, if_true, if_false, Decidable.not_not, sd_ci, sd_cr, sd_cl9, sd_cu, sd_cat0, sd_cat1, sd_rfS, sd_n01, sd_n11, sd_n1, sd_n10, sd_n00, sd_b01, sd_b0, true_and, and_true, and_self, not_true_eq_false, not_false_eq_true, false_implies, true_implies, implies_true, or_true, true_or, or_false, false_or, Option.toList_some, Option.toList_none, List.cons_append, List.nil_append, Nat.reduceAdd, Nat.reduceLeDiff, nz_sub, nz_lt0, nz_ge0, nz_le0, nz_gt0, nz_eq0, nz_eq1, nz_lt, nz_le, nz_eq, nz_cl, nz_in, nz_add, nz_mul, nz_m1, nz_m1', Nat.reduceMul, Nat.reduceSub, Nat.reduceLT, Nat.reduceEqDiff, not_false_eq_true, false_implies, true_implies, true_and, and_true, h_1, cp, e, h1, h2]
        exact hq
  · have e : tp_at b n a = -1 := if_neg hp
    rw [sd_bF (fun q => hp q.1)] at hq
    have h1 : (-1 : Int32) < nI 97 := by decide
    simp (disch := first | exact sd_cr | exact sd_ci | exact sd_cu | exact sd_cl9 | assumption | omega | exact t_259 | exact t_260 | exact t_261 | exact t_262 | exact t_263 | exact t_264 | exact t_254 | exact t_255 | exact t_256 | exact t_257 | exact t_266 | exact t_267 | exact t_268 | exact t_269 | exact t_270 | exact t_252 | exact t_240 | exact t_246 | exact t_2 | exact t_4 | exact t_5 | exact t_13 | exact t_14 | exact t_15 | exact t_16 | exact Or.inl t_39 | exact Or.inr t_7) only [z_Tape_atRowLetter_0, z_Tape_atRowLetter_1, z_Tape_atRowLetter_4, z_Tape_atRowLetter_5, z_Tape_atRowLetter_6, z_Tape_atRowLetter_8, z_Tape_atRowLetter_11, z_Tape_atRowLetter_12, z_Tape_atRowLetter_14, z_Tape_atRowLetter_17, z_Tape_atRowLetter_18, z_Tape_atRowLetter_21, z_Tape_atRowLetter_22, false_and, and_false, if_true, if_false, Decidable.not_not, sd_ci, sd_cr, sd_cl9, sd_cu, sd_cat0, sd_cat1, sd_rfS, sd_n01, sd_n11, sd_n1, sd_n10, sd_n00, sd_b01, sd_b0, true_and, and_true, and_self, not_true_eq_false, not_false_eq_true, false_implies, true_implies, implies_true, or_true, true_or, or_false, false_or, Option.toList_some, Option.toList_none, List.cons_append, List.nil_append, Nat.reduceAdd, Nat.reduceLeDiff, nz_sub, nz_lt0, nz_ge0, nz_le0, nz_gt0, nz_eq0, nz_eq1, nz_lt, nz_le, nz_eq, nz_cl, nz_in, nz_add, nz_mul, nz_m1, nz_m1', Nat.reduceMul, Nat.reduceSub, Nat.reduceLT, Nat.reduceEqDiff, not_false_eq_true, false_implies, true_implies, true_and, and_true, h_1, cp, e, h1]
    exact hq
theorem rw_loop {k fr : Nat} (hk : sd_tg k = 0) (hl : fr + 12 ≤ sd_ln k) (hf : fr ≤ 1000) (hk1 : k ≠ 1) (hk2 : k ≠ 2) : ∀ f i a (σ : sd_Mem), f + i = 12 → tp_X σ b n a → ∃ σ', tp_X σ' b n (rw_e b n f a).1 ∧ (∀ e j, ¬ (e = 1 ∧ j = 2) → ¬ (e = k ∧ fr + i ≤ j ∧ j < fr + 12) → σ'.1 e j = σ.1 e j) ∧ σ'.2 = σ.2 ∧ (∀ j, j < (rw_e b n f a).2.2.length → σ'.1 k (fr + i + j) = nI ((rw_e b n f a).2.2.getD j 0)) ∧ ∀ (d : Nat) (Q : Option Value → sd_Mem → Prop), Q (some (.int (rw_v i (rw_e b n f a)))) σ' → sd_Go (sd_E1 L xs fm) (d + 2) y_Tape_readRow 2 [.ref 1, .ref k, .int (nI fr), .int (nI i)] [] σ Q := by
  intro f
  induction f with
  | zero =>
    intro i a σ hi h
    have hle := tp_ps_le (b := b) h.2.2.2.2.2
    refine ⟨sd_wI σ 1 2 (nI (tp_ps b n a)), h.at hle.2, fun e j h1 _ => ?_, rfl, fun j hj => absurd hj (Nat.not_lt_zero _), fun d Q hq => ?_⟩
    · exact wI_1.trans (if_neg h1)
    have ca := fun Q => c_Tape_atRowLetter (L := L) (xs := xs) (fm := fm) (d := d) (Q := Q) h
    obtain rfl : i = 12 := by omega
    by_cases hL : rw_L b n a
    · have e : rw_v 12 (rw_e b n 0 a) = -1 := if_pos (decide_eq_true hL)
      rw [e] at hq
      simp (disch := first | exact sd_cr | exact sd_ci | exact sd_cu | exact sd_cl9 | assumption | omega | exact t_259 | exact t_260 | exact t_261 | exact t_262 | exact t_263 | exact t_264 | exact t_254 | exact t_255 | exact t_256 | exact t_257 | exact t_266 | exact t_267 | exact t_268 | exact t_269 | exact t_270 | exact t_252 | exact t_240 | exact t_246 | exact t_2 | exact t_4 | exact t_5 | exact t_13 | exact t_14 | exact t_15 | exact t_16 | exact Or.inl t_39 | exact Or.inr t_7) only [z_Tape_readRow_2, z_Tape_readRow_3, z_Tape_readRow_5, z_Tape_readRow_58, z_Tape_readRow_59, z_Tape_readRow_62, z_Tape_readRow_65, z_Tape_readRow_66, z_Tape_readRow_69, z_Tape_readRow_71, false_and, and_false, if_true, if_false, Decidable.not_not, sd_ci, sd_cr, sd_cl9, sd_cu, sd_cat0, sd_cat1, sd_rfS, sd_n01, sd_n11, sd_n1, sd_n10, sd_n00, sd_b01, sd_b0, true_and, and_true, and_self, not_true_eq_false, not_false_eq_true, false_implies, true_implies, implies_true, or_true, true_or, or_false, false_or, Option.toList_some, Option.toList_none, List.cons_append, List.nil_append, Nat.reduceAdd, Nat.reduceLeDiff, nz_sub, nz_lt0, nz_ge0, nz_le0, nz_gt0, nz_eq0, nz_eq1, nz_lt, nz_le, nz_eq, nz_cl, nz_in, nz_add, nz_mul, nz_m1, nz_m1', Nat.reduceMul, Nat.reduceSub, Nat.reduceLT, Nat.reduceEqDiff, not_false_eq_true, false_implies, true_implies, true_and, and_true, h_1, ca, sd_bT hL]
      exact hq
    · have e : rw_v 12 (rw_e b n 0 a) = nI 12 := (if_neg (by show ¬ decide (rw_L b n a) = true; rw [decide_eq_false hL]; decide)).trans rfl
      rw [e] at hq
      simp (disch := first | exact sd_cr | exact sd_ci | exact sd_cu | exact sd_cl9 | assumption | omega | exact t_259 | exact t_260 | exact t_261 | exact t_262 | exact t_263 | exact t_264 | exact t_254 | exact t_255 | exact t_256 | exact t_257 | exact t_266 | exact t_267 | exact t_268 | exact t_269 | exact t_270 | exact t_252 | exact t_240 | exact t_246 | exact t_2 | exact t_4 | exact t_5 | exact t_13 | exact t_14 | exact t_15 | exact t_16 | exact Or.inl t_39 | exact Or.inr t_7) only [z_Tape_readRow_2, z_Tape_readRow_3, z_Tape_readRow_5, z_Tape_readRow_58, z_Tape_readRow_59, z_Tape_readRow_62, z_Tape_readRow_65, z_Tape_readRow_66, z_Tape_readRow_69, z_Tape_readRow_71, false_and, and_false, if_true, if_false, Decidable.not_not, sd_ci, sd_cr, sd_cl9, sd_cu, sd_cat0, sd_cat1, sd_rfS, sd_n01, sd_n11, sd_n1, sd_n10, sd_n00, sd_b01, sd_b0, true_and, and_true, and_self, not_true_eq_false, not_false_eq_true, false_implies, true_implies, implies_true, or_true, true_or, or_false, false_or, Option.toList_some, Option.toList_none, List.cons_append, List.nil_append, Nat.reduceAdd, Nat.reduceLeDiff, nz_sub, nz_lt0, nz_ge0, nz_le0, nz_gt0, nz_eq0, nz_eq1, nz_lt, nz_le, nz_eq, nz_cl, nz_in, nz_add, nz_mul, nz_m1, nz_m1', Nat.reduceMul, Nat.reduceSub, Nat.reduceLT, Nat.reduceEqDiff, not_false_eq_true, false_implies, true_implies, true_and, and_true, h_1, ca, sd_bF hL]
      exact hq
  | succ f ih =>
    intro i a σ hi h
    have hle := tp_ps_le (b := b) h.2.2.2.2.2
    have ca := fun d Q => c_Tape_atRowLetter (L := L) (xs := xs) (fm := fm) (d := d) (Q := Q) h
    have hi12 : ¬ 12 ≤ i := by omega
    by_cases hL : rw_L b n a
    · have hX := h.at (a' := tp_ps b n a) hle.2
      have hX2 : tp_X (sd_wI (sd_wI (sd_wI σ 1 2 (nI (tp_ps b n a))) k (fr + i) (nI (b (tp_ps b n a) - 97))) 1 2 (nI (tp_ps b n a + 1))) b n (tp_ps b n a + 1) := by
        obtain ⟨g1, g2, g3, g4, g5, g6⟩ := hX
        have hp := hL.1
        exact ⟨by rw [wI_o (by decide), wI_c hk1.symm]; exact g1, fun j hj => by rw [wI_c (by decide), wI_c hk2.symm]; exact g2 j hj, wI_k, g4, g5, by omega⟩
      obtain ⟨σ', s1, s2, s3, s4, s5⟩ := ih (i + 1) (tp_ps b n a + 1) _ (by omega) hX2
      have ee : rw_e b n (f + 1) a = ((rw_e b n f (tp_ps b n a + 1)).1, (rw_e b n f (tp_ps b n a + 1)).2.1, (b (tp_ps b n a) - 97) :: (rw_e b n f (tp_ps b n a + 1)).2.2) := by rw [rw_e, if_pos hL]
      rw [ee]
      refine ⟨σ', s1, fun e j h1 h2 => ?_, s3, fun j hj => ?_, fun d Q hq => ?_⟩
      · rw [s2 e j h1 (fun q => h2 ⟨q.1, by omega, q.2.2⟩), wI_1, if_neg h1, wI_1, if_neg (fun q => h2 ⟨q.1, by omega, by omega⟩), wI_1, if_neg h1]
      · cases j with
        | zero =>
          rw [s2 k (fr + i + 0) (fun q => hk1 q.1) (fun q => by omega), wI_1, if_neg (fun q => hk1 q.1), wI_1, if_pos ⟨rfl, rfl⟩]
          rfl
        | succ j =>
          have := s4 j (by simpa using hj)
          rw [show fr + i + (j + 1) = fr + (i + 1) + j by omega, this]
          rfl
      · have hb := h.2.2.2.2.1 _ hL.1
        have h97 := hL.2.1
        have hp := hL.1
        have hn := h.2.2.2.1
        have g2 := hX.2.1 _ hL.1
        have g3 := hX.2.2.1
        have ev : rw_v i ((rw_e b n f (tp_ps b n a + 1)).1, (rw_e b n f (tp_ps b n a + 1)).2.1, (b (tp_ps b n a) - 97) :: (rw_e b n f (tp_ps b n a + 1)).2.2) = rw_v (i + 1) (rw_e b n f (tp_ps b n a + 1)) := by
          unfold rw_v
          dsimp only
          rw [List.length_cons, show i + ((rw_e b n f (tp_ps b n a + 1)).2.2.length + 1) = i + 1 + (rw_e b n f (tp_ps b n a + 1)).2.2.length by omega]
        rw [ev] at hq
        have nx := s5 d Q hq
        rw [z_Tape_readRow_2]
        have c1 : fr + i < sd_ln k := by omega
        have c2 : tp_ps b n a < 240 := by omega
        have w1 : (sd_wI (sd_wI σ 1 2 (nI (tp_ps b n a))) k (fr + i) (nI (b (tp_ps b n a) - 97))).1 1 2 = nI (tp_ps b n a) := by rw [wI_c hk1.symm]; exact wI_k
        simp (disch := first | exact sd_cr | exact sd_ci | exact sd_cu | exact sd_cl9 | assumption | omega | exact t_259 | exact t_260 | exact t_261 | exact t_262 | exact t_263 | exact t_264 | exact t_254 | exact t_255 | exact t_256 | exact t_257 | exact t_266 | exact t_267 | exact t_268 | exact t_269 | exact t_270 | exact t_252 | exact t_240 | exact t_246 | exact t_2 | exact t_4 | exact t_5 | exact t_13 | exact t_14 | exact t_15 | exact t_16 | exact Or.inl t_39 | exact Or.inr t_7) only [z_Tape_readRow_3, z_Tape_readRow_5, z_Tape_readRow_8, z_Tape_readRow_9, z_Tape_readRow_12, z_Tape_readRow_15, z_Tape_readRow_16, z_Tape_readRow_19, z_Tape_readRow_20, z_Tape_readRow_23, z_Tape_readRow_24, z_Tape_readRow_25, z_Tape_readRow_26, z_Tape_readRow_27, z_Tape_readRow_28, z_Tape_readRow_29, z_Tape_readRow_30, z_Tape_readRow_33, z_Tape_readRow_34, z_Tape_readRow_37, z_Tape_readRow_38, z_Tape_readRow_40, z_Tape_readRow_41, z_Tape_readRow_42, z_Tape_readRow_43, z_Tape_readRow_44, z_Tape_readRow_47, z_Tape_readRow_48, z_Tape_readRow_49, z_Tape_readRow_52, z_Tape_readRow_55, false_and, and_false, if_true, if_false, Decidable.not_not, sd_ci, sd_cr, sd_cl9, sd_cu, sd_cat0, sd_cat1, sd_rfS, sd_n01, sd_n11, sd_n1, sd_n10, sd_n00, sd_b01, sd_b0, true_and, and_true, and_self, not_true_eq_false, not_false_eq_true, false_implies, true_implies, implies_true, or_true, true_or, or_false, false_or, Option.toList_some, Option.toList_none, List.cons_append, List.nil_append, Nat.reduceAdd, Nat.reduceLeDiff, nz_sub, nz_lt0, nz_ge0, nz_le0, nz_gt0, nz_eq0, nz_eq1, nz_lt, nz_le, nz_eq, nz_cl, nz_in, nz_add, nz_mul, nz_m1, nz_m1', Nat.reduceMul, Nat.reduceSub, Nat.reduceLT, Nat.reduceEqDiff, not_false_eq_true, false_implies, true_implies, true_and, and_true, h_1, ca, sd_bT hL, hi12, r_1_0, n_2, g2, g3, c1, c2, w1]
        exact nx
    · have ee : rw_e b n (f + 1) a = (tp_ps b n a, false, []) := by rw [rw_e, if_neg hL]
      rw [ee]
      refine ⟨sd_wI σ 1 2 (nI (tp_ps b n a)), h.at hle.2, fun e j h1 _ => wI_1.trans (if_neg h1), rfl, fun j hj => absurd hj (Nat.not_lt_zero _), fun d Q hq => ?_⟩
      have ca := ca d
      by_cases h0 : i = 0
      · subst h0
        simp (disch := first | exact sd_cr | exact sd_ci | exact sd_cu | exact sd_cl9 | assumption | omega | exact t_259 | exact t_260 | exact t_261 | exact t_262 | exact t_263 | exact t_264 | exact t_254 | exact t_255 | exact t_256 | exact t_257 | exact t_266 | exact t_267 | exact t_268 | exact t_269 | exact t_270 | exact t_252 | exact t_240 | exact t_246 | exact t_2 | exact t_4 | exact t_5 | exact t_13 | exact t_14 | exact t_15 | exact t_16 | exact Or.inl t_39 | exact Or.inr t_7) only [z_Tape_readRow_2, z_Tape_readRow_3, z_Tape_readRow_5, z_Tape_readRow_8, z_Tape_readRow_9, z_Tape_readRow_12, z_Tape_readRow_15, z_Tape_readRow_16, z_Tape_readRow_19, z_Tape_readRow_20, z_Tape_readRow_23, z_Tape_readRow_24, false_and, and_false, if_true, if_false, Decidable.not_not, sd_ci, sd_cr, sd_cl9, sd_cu, sd_cat0, sd_cat1, sd_rfS, sd_n01, sd_n11, sd_n1, sd_n10, sd_n00, sd_b01, sd_b0, true_and, and_true, and_self, not_true_eq_false, not_false_eq_true, false_implies, true_implies, implies_true, or_true, true_or, or_false, false_or, Option.toList_some, Option.toList_none, List.cons_append, List.nil_append, Nat.reduceAdd, Nat.reduceLeDiff, nz_sub, nz_lt0, nz_ge0, nz_le0, nz_gt0, nz_eq0, nz_eq1, nz_lt, nz_le, nz_eq, nz_cl, nz_in, nz_add, nz_mul, nz_m1, nz_m1', Nat.reduceMul, Nat.reduceSub, Nat.reduceLT, Nat.reduceEqDiff, not_false_eq_true, false_implies, true_implies, true_and, and_true, h_1, ca, sd_bF hL]
        exact hq
      · have e : rw_v i (tp_ps b n a, false, []) = nI i := by
          unfold rw_v
          rw [if_neg (by show ¬ false = true; decide), if_neg (by show ¬ i + 0 = 0; omega)]
          rfl
        rw [e] at hq
        simp (disch := first | exact sd_cr | exact sd_ci | exact sd_cu | exact sd_cl9 | assumption | omega | exact t_259 | exact t_260 | exact t_261 | exact t_262 | exact t_263 | exact t_264 | exact t_254 | exact t_255 | exact t_256 | exact t_257 | exact t_266 | exact t_267 | exact t_268 | exact t_269 | exact t_270 | exact t_252 | exact t_240 | exact t_246 | exact t_2 | exact t_4 | exact t_5 | exact t_13 | exact t_14 | exact t_15 | exact t_16 | exact Or.inl t_39 | exact Or.inr t_7) only [z_Tape_readRow_2, z_Tape_readRow_3, z_Tape_readRow_5, z_Tape_readRow_8, z_Tape_readRow_9, z_Tape_readRow_12, z_Tape_readRow_15, z_Tape_readRow_16, z_Tape_readRow_19, z_Tape_readRow_20, z_Tape_readRow_23, z_Tape_readRow_24, false_and, and_false, if_true, if_false, Decidable.not_not, sd_ci, sd_cr, sd_cl9, sd_cu, sd_cat0, sd_cat1, sd_rfS, sd_n01, sd_n11, sd_n1, sd_n10, sd_n00, sd_b01, sd_b0, true_and, and_true, and_self, not_true_eq_false, not_false_eq_true, false_implies, true_implies, implies_true, or_true, true_or, or_false, false_or, Option.toList_some, Option.toList_none, List.cons_append, List.nil_append, Nat.reduceAdd, Nat.reduceLeDiff, nz_sub, nz_lt0, nz_ge0, nz_le0, nz_gt0, nz_eq0, nz_eq1, nz_lt, nz_le, nz_eq, nz_cl, nz_in, nz_add, nz_mul, nz_m1, nz_m1', Nat.reduceMul, Nat.reduceSub, Nat.reduceLT, Nat.reduceEqDiff, not_false_eq_true, false_implies, true_implies, true_and, and_true, h_1, ca, sd_bF hL, hi12, h0]
        exact hq
end SDAY
