/-! the class carries out a day -/
section SD77
variable {L : Nat} {xs : Nat → Int32} {fm : Option Nat} {A D X : sw_T} {σ : sd_Mem} {c d k P : Nat} {Q : Option Value → sd_Mem → Prop}
/-- fates and places are those of D, for the vows in force -/
def sw_FP (σ : sd_Mem) (cf cp : Nat) (D : sw_T) : Prop := (∀ v, v < D 0 0 0 → 0 < D 1 v 5 → σ.1 cf v = nI (sw_fate D v)) ∧ ∀ v, v < D 0 0 0 → 0 < D 1 v 5 → D 1 v 1 ≤ 5 → σ.1 cp v = sd_o (sw_pl D v)
/-- D and X have the same vows but for their terms -/
def sw_DX (D X : sw_T) : Prop := X 0 0 0 = D 0 0 0 ∧ ∀ v j, j ≠ 5 → X 1 v j = D 1 v j
theorem sw_fate_le (hD : sw_OK P D) (v : Nat) : sw_fate D v ≤ 3 := by
  have := sw_cw_le hD v
  unfold sw_fate
  split
  · split <;> omega
  · split <;> omega
/-- a plain vow whose fate is 1 is broken somewhere -/
theorem sw_fate_pl {v : Nat} (hp : D 1 v 1 ≤ 5) (h0 : ¬ sw_fate D v = 0) : ∃ i, sw_pl D v = some i := by
  have ho : sw_op D v = false := decide_eq_false (fun q => by omega)
  have e : sw_fate D v = (if sw_bb D v = true then 1 else 0) := by unfold sw_fate; rw [ho]; rfl
  rw [e] at h0
  have hb : sw_bb D v = true := by
    cases h : sw_bb D v with
    | true => rfl
    | false => rw [h] at h0; exact absurd rfl h0
  have := (of_decide_eq_true hb).2.2.2
  cases h : sw_pl D v with
  | none => exact absurd h this
  | some i => exact ⟨i, rfl⟩
theorem c_Judge_punish {v : Nat} (hk : sd_isS k) (hk5 : k ≤ 247) (hC : sd_isC c) (hck : k = c + 5 ∨ c + 10 ≤ k ∨ k + 5 ≤ c) (hX : sw_X σ c A) (hA : sw_AK A) (hS : sw_S σ k P X) (hXo : sw_OK P X) (hD : sw_OK P D) (hDX : sw_DX D X) (hFP : sw_FP σ 255 256 D) (hv : v < X 0 0 0) (hvf : 0 < D 1 v 5) (h0 : ¬ sw_fate D v = 0)
    (ht : ∀ j, j < 4 → σ.1 257 j = nI (sw_set X 7 1 0 (X 7 1 0 + 1) 7 j 0)) (htb : ∀ b, X 7 b 0 < 1000) : ∃ σ', (∀ (d : Nat) Q, sd_Call (sd_E1 L xs fm) (d + 5) y_Judge_punish [.ref 253, .ref c, .ref k, .int (nI v)] σ Q ↔ Q none σ') ∧ sw_S σ' k P (sw_due2 A D v X) ∧ (∀ j, j < 4 → σ'.1 257 j = nI (sw_due2 A D v X 7 j 0)) ∧ (∀ e, e ≠ k + 3 → e ≠ k + 4 → e ≠ 257 → σ'.1 e = σ.1 e) ∧ σ'.2 = σ.2 := by
  obtain ⟨k0, k1, k2, k3, k4, k5, k6, k7, k8, r0, r1, r2, r3⟩ := hk.all (L := L) (xs := xs) (fm := fm)
  have cc0 := hC.1
  obtain ⟨⟨w1, w2, w3, w4⟩, w5, w6⟩ := id hS
  obtain ⟨bP2, bW, bz, bf, bs, bv, bu⟩ := id hXo
  have e0 : X 1 v 0 = D 1 v 0 := hDX.2 v 0 (by decide)
  have e1 : X 1 v 1 = D 1 v 1 := hDX.2 v 1 (by decide)
  have hvD : v < D 0 0 0 := by rw [← hDX.1]; exact hv
  have hp := (bv v hv).1
  have hzz := bz _ hp
  obtain ⟨q1, q2, q3⟩ := w5 _ hp
  have ht2 : σ.1 257 2 = nI (X 7 2 0) := by rw [ht 2 (by decide), sw_set_n (by omega)]
  have hu5 := w4 v 5
  have htb2 := htb 2
  have c1 := fun d Q => c_State_isAboutVow (L := L) (xs := xs) (fm := fm) (d := d) (Q := Q) hk hS.1 hv
  by_cases hpl : D 1 v 1 ≤ 5
  · obtain ⟨i, hi⟩ := sw_fate_pl hpl h0
    have hi12 := sw_pl_lt hD hvD hi
    have hplace : σ.1 256 v = nI i := by rw [hFP.2 v hvD hvf hpl, hi]; rfl
    have c2 := fun d Q => c_Country_isWatched (L := L) (xs := xs) (fm := fm) (d := d) (Q := Q) (p := X 1 v 0) (i := i) hC hX hA (w4 v 0) (by omega)
    cases hse : sw_seen A (D 1 v 0) i with
    | false =>
      have e : sw_due2 A D v X = sw_set X 7 1 0 (X 7 1 0 + 1) := by
        unfold sw_due2
        rw [if_pos ⟨hpl, by rw [hi]; exact hse⟩]
      rw [e]
      refine ⟨σ, fun d Q => sd_Call.iff (fun Q hq => ?_) Q, hS.t7, ht, fun _ _ _ _ => rfl, rfl⟩
      have c2' := fun Q => c2 (d + 1) Q
      rw [e0, hse] at c2'
      rw [sd_Call.start (ls := [.ref 253, .ref c, .ref k, .int (nI v), sd_un, sd_un]) m_Judge_punish (by decide) (Nat.le_of_ble_eq_true rfl) rfl]
      simp (disch := first | exact sd_cr | exact sd_ci | exact sd_cu | exact sd_cl9 | assumption | omega | (apply nz_m; apply w4) | (apply nz_k; apply w4) | exact t_259 | exact t_260 | exact t_261 | exact t_262 | exact t_263 | exact t_264 | exact t_254 | exact t_255 | exact t_256 | exact t_257 | exact t_266 | exact t_267 | exact t_268 | exact t_269 | exact t_270 | exact t_252 | exact t_240 | exact t_246 | exact t_2 | exact t_4 | exact t_5 | exact t_13 | exact t_14 | exact t_15 | exact t_16 | exact Or.inl t_39 | exact Or.inr t_7) only [z_Judge_punish_0, z_Judge_punish_1, z_Judge_punish_4, z_Judge_punish_5, z_Judge_punish_7, z_Judge_punish_8, z_Judge_punish_9, z_Judge_punish_10, z_Judge_punish_11, z_Judge_punish_13, z_Judge_punish_14, z_Judge_punish_15, z_Judge_punish_18, z_Judge_punish_21, z_Judge_punish_22, z_Judge_punish_24, z_Judge_punish_25, z_Judge_punish_28, z_Judge_punish_29, z_Judge_punish_30, z_Judge_punish_33, z_Judge_punish_36, z_Judge_punish_37, z_Judge_punish_38, z_Judge_punish_41, z_Judge_punish_42, z_Judge_punish_43, z_Judge_punish_44, z_Judge_punish_45, z_Judge_punish_46, z_Judge_punish_47, z_Judge_punish_48, z_Judge_punish_51, z_Judge_punish_53, z_Judge_punish_54, z_Judge_punish_57, z_Judge_punish_58, z_Judge_punish_61, z_Judge_punish_63, z_Judge_punish_64, z_Judge_punish_65, z_Judge_punish_66, z_Judge_punish_67, z_Judge_punish_68, z_Judge_punish_69, z_Judge_punish_70, z_Judge_punish_72, z_Judge_punish_73, z_Judge_punish_74, z_Judge_punish_75, z_Judge_punish_77, z_Judge_punish_78, z_Judge_punish_81, z_Judge_punish_83, z_Judge_punish_86, z_Judge_punish_87, z_Judge_punish_88, z_Judge_punish_91, z_Judge_punish_93, z_Judge_punish_94, z_Judge_punish_95, z_Judge_punish_98, z_Judge_punish_99, false_and, and_false, if_true, if_false, Decidable.not_not, sd_ci, sd_cr, sd_cl9, sd_cu, sd_cat0, sd_cat1, sd_rfS, sd_n01, sd_n11, sd_n1, sd_n10, sd_n00, sd_b01, sd_b0, true_and, and_true, and_self, not_true_eq_false, not_false_eq_true, false_implies, true_implies, implies_true, or_true, true_or, or_false, false_or, Option.toList_some, Option.toList_none, List.cons_append, List.nil_append, Nat.reduceAdd, Nat.reduceLeDiff, nz_sub, nz_lt0, nz_ge0, nz_le0, nz_gt0, nz_eq0, nz_eq1, nz_lt, nz_le, nz_eq, nz_cl, nz_in, nz_add, nz_mul, nz_m1, nz_m1', Nat.reduceMul, Nat.reduceSub, Nat.reduceLT, Nat.reduceEqDiff, not_false_eq_true, false_implies, true_implies, true_and, and_true, h_0, h_1, t_2, n_2, h_3, t_4, n_4, t_5, n_5, h_6, t_7, n_7, t_8, n_8, t_9, n_9, t_10, n_10, t_11, n_11, t_12, n_12, t_13, n_13, t_14, n_14, t_15, n_15, t_16, n_16, h_17, h_18, t_19, n_19, t_20, n_20, t_21, n_21, t_22, n_22, h_28, t_29, n_29, t_30, n_30, t_31, n_31, t_32, n_32, h_38, t_39, n_39, t_240, n_240, t_246, n_246, t_252, n_252, h_253, t_254, n_254, t_255, n_255, t_256, n_256, t_257, n_257, h_258, t_259, n_259, t_260, n_260, t_261, n_261, t_262, n_262, t_263, n_263, t_264, n_264, h_265, t_266, n_266, t_267, n_267, t_268, n_268, t_269, n_269, t_270, n_270, r_0_0, r_0_1, r_0_2, r_0_3, r_0_6, r_0_7, r_0_8, r_0_9, r_0_11, r_0_12, r_0_13, r_0_14, r_0_15, r_1_0, r_3_0, r_3_1, r_3_2, r_6_0, r_6_1, r_6_4, r_6_5, r_6_7, r_7_0, r_7_1, r_7_2, r_7_3, r_7_4, r_17_0, r_17_1, r_18_1, r_18_2, r_18_3, r_18_4, r_18_6, r_28_1, r_28_2, r_28_3, r_28_4, r_28_6, r_38_0, r_253_0, r_253_1, r_253_2, r_253_3, r_258_0, r_258_1, r_258_3, r_258_4, r_258_6, r_258_8, r_265_0, r_265_1, r_265_3, r_265_4, r_265_5, r_0_4, r_0_5, k0, k7, k8, r3, cc0, w3 v hv, e0, e1, c1, hplace, c2', Bool.false_eq_true]
      ((repeat' first | (refine And.intro ?_ ?_) | (intro _)) <;> first | omega | exact hq)
    | true =>
      have hns : ¬ (D 1 v 1 ≤ 5 ∧ sw_seen A (D 1 v 0) ((sw_pl D v).getD 0) = false) := fun q => by
        have := q.2
        rw [hi] at this
        rw [show (some i).getD 0 = i from rfl, hse] at this
        cases this
      sorry
  · sorry
end SD77
