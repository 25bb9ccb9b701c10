/-! a row told: Told.read -/
/-- the fault of a text that is to be a row; none: none -/
def rw_f (b : Nat → Nat) (n : Nat) : Option Nat := if ¬ rw_bad 0 (rw_e b n 12 0) ∧ ¬ (rw_e b n 12 0).1 < n then none else some (rw_e b n 12 0).1
def rw_fv (o : Option Nat) : Int32 := match o with
  | none => -1
  | some p => nI p
section SDBA
variable {L : Nat} {xs : Nat → Int32} {fm : Option Nat} {σ : sd_Mem} {b : Nat → Nat} {n a t o d : Nat}
theorem rw_e_i : ∀ f a, a ≤ n → tp_ps b n (rw_e b n f a).1 = (rw_e b n f a).1 := by
  intro f
  induction f with
  | zero => intro a ha; exact tp_ps_i ha
  | succ f ih =>
    intro a ha
    rw [rw_e]
    split
    · rename_i hL
      exact ih _ (by have := hL.1; omega)
    · exact tp_ps_i ha
theorem rw_e_le : ∀ f a, a ≤ n → (rw_e b n f a).1 ≤ n ∧ (rw_e b n f a).2.2.length ≤ f ∧ ∀ j, (rw_e b n f a).2.2.getD j 0 < 8 := by
  intro f
  induction f with
  | zero => intro a ha; exact ⟨(tp_ps_le ha).2, Nat.le_refl _, fun j => by show ([] : List Nat).getD j 0 < 8; simp⟩
  | succ f ih =>
    intro a ha
    rw [rw_e]
    split
    · rename_i hL
      obtain ⟨h1, h2, h3⟩ := ih (tp_ps b n a + 1) (by have := hL.1; omega)
      refine ⟨h1, by show _ + 1 ≤ f + 1; omega, fun j => ?_⟩
      cases j with
      | zero =>
        show b (tp_ps b n a) - 97 < 8
        have := hL.2.2
        omega
      | succ j => exact h3 j
    · exact ⟨(tp_ps_le ha).2, Nat.zero_le _, fun j => by show ([] : List Nat).getD j 0 < 8; simp⟩
theorem c_Tape_readRow {k fr : Nat} (hk : sd_tg k = 0) (hl : fr + 12 ≤ sd_ln k) (hf : fr ≤ 1000) (hk1 : k ≠ 1) (hk2 : k ≠ 2) (h : tp_X σ b n a) : ∃ σ', tp_X σ' b n (rw_e b n 12 a).1 ∧ (∀ e j, ¬ (e = 1 ∧ j = 2) → ¬ (e = k ∧ fr ≤ j ∧ j < fr + 12) → σ'.1 e j = σ.1 e j) ∧ σ'.2 = σ.2 ∧ (∀ j, j < (rw_e b n 12 a).2.2.length → σ'.1 k (fr + j) = nI ((rw_e b n 12 a).2.2.getD j 0)) ∧ ∀ (d : Nat) (Q : Option Value → sd_Mem → Prop), sd_Call (sd_E1 L xs fm) (d + 3) y_Tape_readRow [.ref 1, .ref k, .int (nI fr)] σ Q ↔ Q (some (.int (rw_v 0 (rw_e b n 12 a)))) σ' := by
  obtain ⟨σ', s1, s2, s3, s4, s5⟩ := rw_loop (L := L) (xs := xs) (fm := fm) hk hl hf hk1 hk2 12 0 a σ rfl h
  refine ⟨σ', s1, s2, s3, s4, fun d Q => sd_Call.iff (fun Q hq => ?_) Q⟩
  rw [sd_Call.start (ls := [.ref 1, .ref k, .int (nI fr), sd_un]) m_Tape_readRow (by decide) (Nat.le_of_ble_eq_true rfl) rfl]
  rw [z_Tape_readRow_0, z_Tape_readRow_1 sd_ci]
  exact s5 d Q hq
theorem c_M_readRow {k fr : Nat} (hk : sd_tg k = 0) (hl : fr + 13 ≤ sd_ln k) (hf : fr ≤ 1000) (hk1 : k ≠ 271) (hk2 : k ≠ t) (h : tp_M σ t o b n a) (hfl : σ.1 271 11 = -1) : ∃ σ', tp_M σ' t o b n (rw_e b n 12 a).1 ∧ σ'.1 271 11 = (if rw_bad 0 (rw_e b n 12 a) then nI (rw_e b n 12 a).1 else -1) ∧ (∀ e j, ¬ (e = 271 ∧ (j = 10 ∨ j = 11)) → ¬ (e = k ∧ fr ≤ j ∧ j < fr + 13) → σ'.1 e j = σ.1 e j) ∧ σ'.2 = σ.2 ∧ (∀ j, j < (rw_e b n 12 a).2.2.length → σ'.1 k (fr + 1 + j) = nI ((rw_e b n 12 a).2.2.getD j 0)) ∧ (¬ rw_bad 0 (rw_e b n 12 a) → σ'.1 k fr = nI (rw_e b n 12 a).2.2.length) ∧ ∀ (d : Nat) (Q : Option Value → sd_Mem → Prop), sd_Call (sd_E1 L xs fm) (d + 2) y_M_readRow [.ref 271, .ref k, .int (nI fr)] σ Q ↔ Q none σ' := by
  have ha := h.2.2.2.2.2.2.2.2.2.2
  have hb := h.2.2.2.2.2.2.2.2.2.1
  have hM := h.at (a' := tp_ps b n a) (tp_ps_le ha).2
  obtain ⟨σ', s1, s2, s3, s4, s5, s6, s7⟩ := rw_loopM (L := L) (xs := xs) (fm := fm) hk hl hf hk1 hk2 12 0 a _ rfl ha hM (by rw [wI_o (by decide)]; exact hfl)
  refine ⟨σ', s1, s2, fun e j h1 h2 => ?_, s4, s5, fun q => by rw [s6 q, Nat.zero_add], fun d Q => sd_Call.iff (fun Q hq => ?_) Q⟩
  · rw [s3 e j h1 (fun q => h2 ⟨q.1, by omega⟩), wI_1, if_neg (fun q => h1 ⟨q.1, Or.inl q.2⟩)]
  rw [sd_Call.start (ls := [.ref 271, .ref k, .int (nI fr), sd_un, sd_un, sd_un]) m_M_readRow (by decide) (Nat.le_of_ble_eq_true rfl) rfl]
  have cl := fun Q => c_M_look (L := L) (xs := xs) (fm := fm) (d := d) (Q := Q) h
  have ci := rw_isIn (a := a) hb
  simp (disch := first | exact sd_cr | exact sd_ci | exact sd_cu | exact sd_cl9 | assumption | omega | exact t_285 | exact t_283 | exact t_278 | exact t_281 | exact t_276 | exact t_274 | exact t_275 | exact t_277 | exact t_279 | exact t_280 | exact t_282 | exact t_284 | exact t_286 | exact t_287 | exact t_288 | exact t_289 | exact t_290 | exact t_291 | exact t_292 | exact t_293 | exact t_294 | exact t_295 | exact t_296 | exact t_297 | exact t_298 | exact t_299 | exact t_300) only [z_M_readRow_0, z_M_readRow_1, z_M_readRow_2, z_M_readRow_3, z_M_readRow_6, z_M_readRow_8, z_M_readRow_10, z_M_readRow_11, z_M_readRow_14, z_M_readRow_17, z_M_readRow_20, false_and, and_false, if_true, if_false, Decidable.not_not, sd_ci, sd_cr, sd_cl9, sd_cu, sd_cat0, sd_cat1, sd_rfS, sd_n01, sd_n11, sd_n1, sd_n10, sd_n00, sd_b01, sd_b0, true_and, and_true, and_self, not_true_eq_false, not_false_eq_true, false_implies, true_implies, implies_true, or_true, true_or, or_false, false_or, Option.toList_some, Option.toList_none, List.cons_append, List.nil_append, Nat.reduceAdd, Nat.reduceLeDiff, nz_sub, nz_lt0, nz_ge0, nz_le0, nz_gt0, nz_eq0, nz_eq1, nz_lt, nz_le, nz_eq, nz_cl, nz_in, nz_add, nz_mul, nz_m1, nz_m1', Nat.reduceMul, Nat.reduceSub, Nat.reduceLT, Nat.reduceEqDiff, not_false_eq_true, false_implies, true_implies, true_and, and_true, h_271, t_272, n_272, t_273, n_273, t_274, n_274, t_275, n_275, t_276, n_276, t_277, n_277, t_278, n_278, t_279, n_279, t_280, n_280, t_281, n_281, t_282, n_282, t_283, n_283, t_284, n_284, t_285, n_285, t_286, n_286, t_287, n_287, t_288, n_288, t_289, n_289, t_290, n_290, t_291, n_291, t_292, n_292, t_293, n_293, t_294, n_294, t_295, n_295, t_296, n_296, t_297, n_297, t_298, n_298, t_299, n_299, t_300, n_300, t_301, n_301, r_271_1, r_271_2, r_271_3, r_271_4, r_271_15, r_271_16, r_271_18, r_271_19, r_271_20, r_271_21, r_271_22, r_271_23, r_271_24, r_271_25, r_271_26, r_271_34, r_271_35, r_271_38, r_271_39, r_271_40, r_271_42, r_271_45, r_271_46, r_271_47, r_271_48, r_271_49, r_271_50, r_271_53, r_271_54, r_271_55, r_271_57, cl, c_M_isIn, ci]
  exact s7 d Q hq
end SDBA
