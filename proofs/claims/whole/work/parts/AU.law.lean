/-! the law's person (written by wip/whole/mkAU.py) -/
section SDAU
variable {L : Nat} {xs : Nat → Int32} {fm : Option Nat} {A W : sw_T} {B T : Nat} {V : Nat → sw_T} {im : Nat} {I U : sw_T} {σ : sd_Mem} {c : Nat} {n kk i : Nat}
theorem c_M_thrown {d : Nat} {Q : Option Value → sd_Mem → Prop} : sd_Call (sd_E1 L xs fm) (d + 1) y_M_thrown [.ref 271] σ Q ↔ Q (some (.int (σ.1 271 0))) σ := by
  refine sd_Call.iff (fun Q hq => ?_) Q
  rw [sd_Call.start (ls := [.ref 271]) m_M_thrown (by decide) (Nat.le_of_ble_eq_true rfl) rfl]
  simp (disch := first | exact sd_cr | exact sd_ci | exact sd_cu | exact sd_cl9 | assumption | omega) only [z_M_thrown_0, z_M_thrown_1, z_M_thrown_4, false_and, and_false, if_true, if_false, Decidable.not_not, sd_ci, sd_cr, sd_cl9, sd_cu, sd_cat0, sd_cat1, sd_rfS, sd_n01, sd_n11, sd_n1, sd_n10, sd_n00, sd_b01, sd_b0, true_and, and_true, and_self, not_true_eq_false, not_false_eq_true, false_implies, true_implies, implies_true, or_true, true_or, or_false, false_or, Option.toList_some, Option.toList_none, List.cons_append, List.nil_append, Nat.reduceAdd, Nat.reduceLeDiff, h_271]
  exact hq
theorem sw_Inv.p (h : sw_Inv L xs fm B σ c A W T V im I U) {v : Int32} (σ' : sd_Mem) (e1 : σ'.1 = σ.1) (e2 : σ'.2.2 = σ.2.2) : sw_Inv L xs fm B (sd_wI σ' 271 0 v) c A W T V im I U := by
  refine h.q (fun k i hk _ => ?_) (fun k i _ => ?_) (fun j hj => ?_) (fun k hk => ?_) ?_
  · rw [wI_c (by omega), e1]
  · rw [wI_2, e2]
  · rw [wI_o (by omega), e1]
  · rw [wI_c (by omega), e1]
  · exact h.2.2.2.2.2.2.2.1.fr (by rw [wI_o (by decide), e1]) (by rw [wI_o (by decide), e1]) (fun k hk => by rw [wI_c (by omega), e1])
theorem lw_c4 (hI : sw_Inv L xs fm B σ c A W T V im I U) (hi : i + 6 ≤ L) (hL : L ≤ 3072) (k : lw_kk L xs fm (B + 60) kk i) : lw_go L xs fm (kk + 1) i 388 σ := by
  obtain ⟨o, hX, hM⟩ : ∃ o : Option Int32, sd_PX (sd_E1 L xs fm) 1000 [.ref 0, .int (xs (i + 1)), .int (xs (i + 2))] σ (sw_px o) σ ∧ ∀ σ', sw_RM σ' A W → ∀ Q, sd_Call (sd_E1 L xs fm) 1000 y_M_person [.ref 271, .int (xs (i + 1)), .int (xs (i + 2))] σ' Q ↔ Q (some (.int (o.getD (nI 0)))) (sd_wI σ' 271 0 (nI (if o.isSome then 0 else 1))) := by
    by_cases hv : (∃ n : Nat, xs (i + 1) = nI n ∧ n < A 0 0 0) ∧ ∃ n : Nat, n < 2147483648 ∧ xs (i + 2) = nI n
    · obtain ⟨⟨p, ep, hp⟩, y, hy, ey⟩ := hv
      rw [ep, ey]
      exact ⟨sw_pe A W p y, c_X_person (d := 999) hI.2.1.1 hp hy, fun σ' h Q => c_M_person (d := 997) h hp hy⟩
    · exact ⟨none, c_X_person_no (d := 999) hI.2.1.1 hv, fun σ' h Q => c_M_person_no (d := 997) h hv⟩
  intro l5 l6
  have ct := fun (σ : sd_Mem) Q => c_M_thrown (L := L) (xs := xs) (fm := fm) (d := 999) (σ := σ) (Q := Q)
  simp (disch := first | exact sd_cr | exact sd_ci | exact sd_cu | exact sd_cl9 | exact t_400 | exact t_301 | assumption | omega) only [z_L_law_388, z_L_law_389, z_L_law_390, z_L_law_392, z_L_law_393, zx_L_law_394, z_L_law_395, z_L_law_396, z_L_law_398, z_L_law_399, zx_L_law_400, z_L_law_401, false_and, and_false, if_true, if_false, Decidable.not_not, sd_ci, sd_cr, sd_cl9, sd_cu, sd_cat0, sd_cat1, sd_rfS, sd_n01, sd_n11, sd_n1, sd_n10, sd_n00, sd_b01, sd_b0, true_and, and_true, and_self, not_true_eq_false, not_false_eq_true, false_implies, true_implies, implies_true, or_true, true_or, or_false, false_or, Option.toList_some, Option.toList_none, List.cons_append, List.nil_append, Nat.reduceAdd, Nat.reduceLeDiff, nz_add, nz_cl, nz_in, x_400q, x_400e, h_0, h_271, (eq_true (show i + 1 < L by omega)), (eq_true (show i + 2 < L by omega))]
  cases o with
  | none =>
    refine sd_lgP sd_m297 (Or.inl rfl) hX ?_
    have hM := hM σ hI.2.2.1.1
    have fin := k _ _ _ _ _ _ _ _ _ (show sw_Inv L xs fm (B + 60) (sd_wI σ 271 0 (nI 1)) c A W T V im I U from ⟨(hI.p (v := nI 1) σ rfl rfl).1.mono (by omega), (hI.p (v := nI 1) σ rfl rfl).2⟩)
    show sd_LG (sd_E1 L xs fm) 1000 y_L_law kk 405 _ [.int (nI 1)] σ _
    have hM : ∀ Q, sd_Call (sd_E1 L xs fm) 1000 y_M_person [.ref 271, .int (xs (i + 1)), .int (xs (i + 2))] σ Q ↔ Q (some (.int (nI 0))) (sd_wI σ 271 0 (nI 1)) := hM
    simp (disch := first | exact sd_cr | exact sd_ci | exact sd_cu | exact sd_cl9 | exact t_400 | exact t_301 | assumption | omega) only [z_L_law_405, z_L_law_407, z_L_law_408, z_L_law_409, z_L_law_411, z_L_law_412, zx_L_law_413, z_L_law_414, z_L_law_415, z_L_law_417, z_L_law_418, zx_L_law_419, z_L_law_420, z_L_law_423, z_L_law_425, z_L_law_426, z_L_law_429, z_L_law_431, z_L_law_434, z_L_law_435, z_L_law_436, z_L_law_438, z_L_law_441, z_L_law_442, z_L_law_443, z_L_law_444, z_L_law_446, z_L_law_447, z_L_law_448, z_L_law_451, z_L_law_452, z_L_law_453, false_and, and_false, if_true, if_false, Decidable.not_not, sd_ci, sd_cr, sd_cl9, sd_cu, sd_cat0, sd_cat1, sd_rfS, sd_n01, sd_n11, sd_n1, sd_n10, sd_n00, sd_b01, sd_b0, true_and, and_true, and_self, not_true_eq_false, not_false_eq_true, false_implies, true_implies, implies_true, or_true, true_or, or_false, false_or, Option.toList_some, Option.toList_none, List.cons_append, List.nil_append, Nat.reduceAdd, Nat.reduceLeDiff, nz_sub, nz_lt0, nz_ge0, nz_le0, nz_gt0, nz_eq0, nz_eq1, nz_lt, nz_le, nz_eq, nz_cl, nz_in, nz_add, nz_mul, nz_m1, nz_m1', Nat.reduceMul, Nat.reduceSub, Nat.reduceLT, Nat.reduceEqDiff, not_false_eq_true, false_implies, true_implies, true_and, and_true, x_400q, x_400e, h_0, h_271, (eq_true (show i + 1 < L by omega)), (eq_true (show i + 2 < L by omega)), hM, ct, wI_k]
    exact fin _ _
  | some v =>
    refine sd_lgP sd_m297 (Or.inr ⟨v, rfl⟩) hX ?_
    have hM := hM (sd_wL σ 301 0 v.toInt64) hI.2.2.1.1
    have fin := k _ _ _ _ _ _ _ _ _ (show sw_Inv L xs fm (B + 60) (sd_wI (sd_wL σ 301 0 v.toInt64) 271 0 (nI 0)) c A W T V im I U from ⟨(hI.p (v := nI 0) (sd_wL σ 301 0 v.toInt64) rfl rfl).1.mono (by omega), (hI.p (v := nI 0) (sd_wL σ 301 0 v.toInt64) rfl rfl).2⟩)
    show sd_LG (sd_E1 L xs fm) 1000 y_L_law kk 405 _ [.int (nI 0)] (sd_wL σ 301 0 v.toInt64) _
    have hM : ∀ Q, sd_Call (sd_E1 L xs fm) 1000 y_M_person [.ref 271, .int (xs (i + 1)), .int (xs (i + 2))] (sd_wL σ 301 0 v.toInt64) Q ↔ Q (some (.int v)) (sd_wI (sd_wL σ 301 0 v.toInt64) 271 0 (nI 0)) := hM
    have e0 : lg_cmp v.toInt64 v.toInt64 = nI 0 := by
      unfold lg_cmp
      simp
      rfl
    simp (disch := first | exact sd_cr | exact sd_ci | exact sd_cu | exact sd_cl9 | exact t_400 | exact t_301 | assumption | omega) only [z_L_law_405, z_L_law_407, z_L_law_408, z_L_law_409, z_L_law_411, z_L_law_412, zx_L_law_413, z_L_law_414, z_L_law_415, z_L_law_417, z_L_law_418, zx_L_law_419, z_L_law_420, z_L_law_423, z_L_law_425, z_L_law_426, z_L_law_429, z_L_law_431, z_L_law_434, z_L_law_435, z_L_law_436, z_L_law_438, z_L_law_441, z_L_law_442, z_L_law_443, z_L_law_444, z_L_law_446, z_L_law_447, z_L_law_448, z_L_law_451, z_L_law_452, z_L_law_453, false_and, and_false, if_true, if_false, Decidable.not_not, sd_ci, sd_cr, sd_cl9, sd_cu, sd_cat0, sd_cat1, sd_rfS, sd_n01, sd_n11, sd_n1, sd_n10, sd_n00, sd_b01, sd_b0, true_and, and_true, and_self, not_true_eq_false, not_false_eq_true, false_implies, true_implies, implies_true, or_true, true_or, or_false, false_or, Option.toList_some, Option.toList_none, List.cons_append, List.nil_append, Nat.reduceAdd, Nat.reduceLeDiff, nz_sub, nz_lt0, nz_ge0, nz_le0, nz_gt0, nz_eq0, nz_eq1, nz_lt, nz_le, nz_eq, nz_cl, nz_in, nz_add, nz_mul, nz_m1, nz_m1', Nat.reduceMul, Nat.reduceSub, Nat.reduceLT, Nat.reduceEqDiff, not_false_eq_true, false_implies, true_implies, true_and, and_true, x_400q, x_400e, h_0, h_271, (eq_true (show i + 1 < L by omega)), (eq_true (show i + 2 < L by omega)), hM, ct, wI_k, wI_2, wL_k, e0, n_301, Nat.zero_lt_one]
    exact fin _ _
end SDAU
