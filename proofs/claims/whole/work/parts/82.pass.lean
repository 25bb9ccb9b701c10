/-! a day passes, in the class -/
section SD82
variable {L : Nat} {xs : Nat → Int32} {fm : Option Nat} {A W D : sw_T} {B T : Nat} {V : Nat → sw_T} {im : Nat} {I : sw_T} {σ : sd_Mem} {c : Nat}
/-- D is W but for its rows, the lengths the same -/
def sw_DR (D W : sw_T) : Prop := sw_DW D W ∧ ∀ p, D 2 p 0 = W 2 p 0
/-- an entry of today overwrites none of an earlier day within reach -/
theorem sw_dy_w {σ σ' : sd_Mem} {U : sw_T} {day : Nat} (h : sw_dy σ 240 U) (h1 : U 5 0 0 ≤ day) (h2 : day ≤ U 5 0 0 + 40) (e : ∀ j, (j < day % 128 * 4 ∨ day % 128 * 4 + 4 ≤ j) → σ'.1 240 j = σ.1 240 j) : sw_dy σ' 240 U := by
  intro i hi j hj
  have hi2 : i < U 5 0 0 ∧ i < 60 := by omega
  rw [e _ ?_]
  · exact h i hi j hj
  · have : (U 5 0 0 - 1 - i) % 128 ≠ day % 128 := by omega
    omega
theorem c_X_passDay (hp : sw_pI B A W T V im I) (hd9 : W 5 0 0 < 900000) (hs : sw_sI σ c A W T V im I) (hJ : sw_J σ (c + 5) (A 0 0 0) D) (hDR : sw_DR D W) (hDo : sw_OK (A 0 0 0) D) : ∃ σ', (∀ (d : Nat) Q, sd_Call (sd_E1 L xs fm) (d + 7) y_X_passDay [.ref 0] σ Q ↔ Q none σ') ∧ sw_sI σ' c A (sw_nx A D W) (sw_psn T) (sw_psh T V W) im I ∧ (∀ k, (k < 18 ∨ 258 ≤ k) → σ'.1 k = σ.1 k) ∧ σ'.2 = σ.2 := by
  have h := hs.1
  have hC := h.2.1
  have hcc := hC.2.2.2.2.2.2.2.2.2.2.2
  have k9 := hC.2.2.2.2.2.2.2.2.2.2.1
  have hW := hp.2.1
  have hA := hp.1
  obtain ⟨σ1, c1, hP1, e1, e2⟩ := c_Past_keep (L := L) (xs := xs) (fm := fm) (k := c + 5) k9 (by omega) hs.2.2.1 h.2.2.2.2.1 hW
  have s1 := hs.keep hP1 e1 e2
  have hJ1 : sw_J σ1 (c + 5) (A 0 0 0) D := by
    obtain ⟨j1, j2, j3⟩ := hJ
    refine ⟨j1.fr (e1 _ (by omega)) (e1 _ (by omega)), ?_, ?_⟩
    · rw [e1 _ (by omega)]; exact j2
    · rw [e1 254 (by omega)]; exact j3
  obtain ⟨σ2, c2, f1, f2, f3, f4⟩ := c_Judge_decide (L := L) (xs := xs) (fm := fm) k9 (by omega) hJ1 hDo
  have hS2 : sw_S σ2 (c + 5) (A 0 0 0) W := s1.1.2.2.2.2.1.fr (fun j hj => f3 _ (by omega) (by omega))
  have hX2 : sw_X σ2 c A := s1.1.2.2.1.fr (fun j hj => f3 _ (by omega) (by omega))
  obtain ⟨σ3, c3, g1, g2, g3, g4⟩ := c_Judge_carryOut (L := L) (xs := xs) (fm := fm) (c := c) (k := c + 5) k9 (by omega) hC (Or.inl rfl) hX2 hA hS2 hW hDo hDR.1 ⟨fun v hv _ => f1 v hv, f2⟩
  have r1 : ∀ k, k ≠ c + 5 + 3 → k ≠ c + 5 + 4 → (k < 38 ∨ 240 ≤ k) → k ≠ 255 → k ≠ 256 → k ≠ 257 → σ3.1 k = σ.1 k := fun k a1 a2 a3 a4 a5 a6 => by rw [g3 k a1 a2 a6, f3 k a4 a5, e1 k a3]
  have r2 : σ3.2 = σ.2 := by rw [g4, f4, e2]
  have w5 : σ3.1 (c + 5) 5 = nI (W 5 0 0) := by rw [g1.2.2, sw_day_o (by omega)]
  have d240 : σ3.1 240 = σ.1 240 := r1 240 (by omega) (by omega) (by omega) (by omega) (by omega) (by omega)
  refine ⟨sd_wI (sd_wA σ3 240 (va_cpy (σ3.1 257) (σ3.1 240) 0 (W 5 0 0 % 128 * 4) 4)) (c + 5) 5 (nI (W 5 0 0 + 1)), fun d Q => sd_Call.iff (fun Q hq => ?_) Q, ?_, fun k hk => by rw [wI_c (by omega), wA_c (by omega), r1 k (by omega) (by omega) (by omega) (by omega) (by omega) (by omega)], by rw [wI_2, wA_2, r2]⟩
  · have hc0 : σ.2.2 0 4 = some c := h.1
    obtain ⟨k0, k1, k2, k3, k4, k5, k6, k7, k8, rr0, rr1, rr2, rr3, rr4, _⟩ := hC.all (L := L) (xs := xs) (fm := fm)
    have s0 := k9.1
    have c1' := fun Q => c1 (d + 4) Q
    have c2' := fun Q => c2 (d + 1) Q
    have c3' := fun Q => c3 d Q
    have w6 : (sd_wA σ3 240 (va_cpy (σ3.1 257) (σ3.1 240) 0 (W 5 0 0 % 128 * 4) 4)).1 (c + 5) 5 = nI (W 5 0 0) := by rw [wA_c (by omega)]; exact w5
    have hm := Nat.mod_lt (W 5 0 0) (show 0 < 128 by decide)
    rw [sd_Call.start (ls := [.ref 0, sd_un]) m_X_passDay (by decide) (Nat.le_of_ble_eq_true rfl) rfl]
    simp (disch := first | exact sd_cr | exact sd_ci | exact sd_cu | exact sd_cl9 | assumption | omega | exact t_259 | exact t_260 | exact t_261 | exact t_262 | exact t_263 | exact t_264 | exact t_254 | exact t_255 | exact t_256 | exact t_257 | exact t_266 | exact t_267 | exact t_268 | exact t_269 | exact t_270 | exact t_252 | exact t_240 | exact t_246 | exact t_2 | exact t_4 | exact t_5 | exact t_13 | exact t_14 | exact t_15 | exact t_16 | exact Or.inl t_39 | exact Or.inr t_7) only [z_X_passDay_0, z_X_passDay_1, z_X_passDay_4, z_X_passDay_7, z_X_passDay_8, z_X_passDay_9, z_X_passDay_12, z_X_passDay_13, z_X_passDay_16, z_X_passDay_17, z_X_passDay_20, z_X_passDay_21, z_X_passDay_24, z_X_passDay_25, z_X_passDay_28, z_X_passDay_29, z_X_passDay_32, z_X_passDay_33, z_X_passDay_36, z_X_passDay_37, z_X_passDay_40, z_X_passDay_43, z_X_passDay_44, z_X_passDay_45, z_X_passDay_48, z_X_passDay_49, z_X_passDay_52, z_X_passDay_55, z_X_passDay_56, z_X_passDay_57, z_X_passDay_58, z_X_passDay_59, z_X_passDay_62, z_X_passDay_63, z_X_passDay_64, z_X_passDay_67, z_X_passDay_68, z_X_passDay_69, z_X_passDay_72, false_and, and_false, if_true, if_false, Decidable.not_not, sd_ci, sd_cr, sd_cl9, sd_cu, sd_cat0, sd_cat1, sd_rfS, sd_n01, sd_n11, sd_n1, sd_n10, sd_n00, sd_b01, sd_b0, true_and, and_true, and_self, not_true_eq_false, not_false_eq_true, false_implies, true_implies, implies_true, or_true, true_or, or_false, false_or, Option.toList_some, Option.toList_none, List.cons_append, List.nil_append, Nat.reduceAdd, Nat.reduceLeDiff, nz_sub, nz_lt0, nz_ge0, nz_le0, nz_gt0, nz_eq0, nz_eq1, nz_lt, nz_le, nz_eq, nz_cl, nz_in, nz_add, nz_mul, nz_m1, nz_m1', Nat.reduceMul, Nat.reduceSub, Nat.reduceLT, Nat.reduceEqDiff, not_false_eq_true, false_implies, true_implies, true_and, and_true, nz_div, sw_mod, h_0, h_1, t_2, n_2, h_3, t_4, n_4, t_5, n_5, h_6, t_7, n_7, t_8, n_8, t_9, n_9, t_10, n_10, t_11, n_11, t_12, n_12, t_13, n_13, t_14, n_14, t_15, n_15, t_16, n_16, h_17, h_18, t_19, n_19, t_20, n_20, t_21, n_21, t_22, n_22, h_28, t_29, n_29, t_30, n_30, t_31, n_31, t_32, n_32, h_38, t_39, n_39, t_240, n_240, t_246, n_246, t_252, n_252, h_253, t_254, n_254, t_255, n_255, t_256, n_256, t_257, n_257, h_258, t_259, n_259, t_260, n_260, t_261, n_261, t_262, n_262, t_263, n_263, t_264, n_264, h_265, t_266, n_266, t_267, n_267, t_268, n_268, t_269, n_269, t_270, n_270, r_0_0, r_0_1, r_0_2, r_0_3, r_0_6, r_0_7, r_0_8, r_0_9, r_0_11, r_0_12, r_0_13, r_0_14, r_0_15, r_1_0, r_3_0, r_3_1, r_3_2, r_6_0, r_6_1, r_6_4, r_6_5, r_6_7, r_7_0, r_7_1, r_7_2, r_7_3, r_7_4, r_17_0, r_17_1, r_18_1, r_18_2, r_18_3, r_18_4, r_18_6, r_28_1, r_28_2, r_28_3, r_28_4, r_28_6, r_38_0, r_253_0, r_253_1, r_253_2, r_253_3, r_258_0, r_258_1, r_258_3, r_258_4, r_258_6, r_258_8, r_265_0, r_265_1, r_265_3, r_265_4, r_265_5, r_0_4, r_0_5, hc0, k0, rr4, s0, c1', c2', c3', e2, f4, g4, r2, w5, w6, Nat.zero_add]
    ((repeat' first | (refine And.intro ?_ ?_) | (intro _)) <;> first | omega | exact hq)
  · have hm := Nat.mod_lt (W 5 0 0) (show 0 < 128 by decide)
    have f9 : ∀ k, k ≠ 240 → k ≠ c + 5 → (sd_wI (sd_wA σ3 240 (va_cpy (σ3.1 257) (σ3.1 240) 0 (W 5 0 0 % 128 * 4) 4)) (c + 5) 5 (nI (W 5 0 0 + 1))).1 k = σ3.1 k := fun k a b => by rw [wI_c b, wA_c a]
    have f10 : (sd_wI (sd_wA σ3 240 (va_cpy (σ3.1 257) (σ3.1 240) 0 (W 5 0 0 % 128 * 4) 4)) (c + 5) 5 (nI (W 5 0 0 + 1))).1 240 = va_cpy (σ3.1 257) (σ3.1 240) 0 (W 5 0 0 % 128 * 4) 4 := by rw [wI_c (by omega), wA_k]
    have hout : ∀ j, (j < W 5 0 0 % 128 * 4 ∨ W 5 0 0 % 128 * 4 + 4 ≤ j) → (sd_wI (sd_wA σ3 240 (va_cpy (σ3.1 257) (σ3.1 240) 0 (W 5 0 0 % 128 * 4) 4)) (c + 5) 5 (nI (W 5 0 0 + 1))).1 240 j = σ.1 240 j := fun j hj => by rw [f10, pk_cpy_out hj, d240]
    have hS' : sw_S (sd_wI (sd_wA σ3 240 (va_cpy (σ3.1 257) (σ3.1 240) 0 (W 5 0 0 % 128 * 4) 4)) (c + 5) 5 (nI (W 5 0 0 + 1))) (c + 5) (A 0 0 0) (sw_nx A D W) := by
      obtain ⟨⟨w1, w2, w3, w4⟩, w5', w6⟩ := g1
      refine ⟨⟨?_, ?_, fun v hv j hj => ?_, fun v j => ?_⟩, fun p hp' => ?_, ?_⟩
      · rw [sw_nx_o (by omega) (by omega), wI_o (by decide), wA_c (by omega)]; exact w1
      · rw [sw_nx_o (by omega) (by omega)]; exact w2
      · rw [sw_nx_o (by omega) (by omega)] at hv ⊢
        rw [f9 _ (by omega) (by omega)]; exact w3 v hv j hj
      · rw [sw_nx_o (by omega) (by omega)]; exact w4 v j
      · obtain ⟨q1, q2, q3⟩ := w5' p hp'
        rw [sw_nx_o (by omega) (by omega), sw_nx_o (by omega) (by omega), f9 _ (by omega) (by omega), f9 _ (by omega) (by omega), f9 _ (by omega) (by omega)]
        exact ⟨q1, q2, fun i hi => by rw [sw_nx_o (by omega) (by omega)]; exact q3 i hi⟩
      · rw [sw_nx_5, wI_k]
    have hdyW : sw_dy (sd_wI (sd_wA σ3 240 (va_cpy (σ3.1 257) (σ3.1 240) 0 (W 5 0 0 % 128 * 4) 4)) (c + 5) 5 (nI (W 5 0 0 + 1))) 240 W := sw_dy_w hs.2.2.2.1 (Nat.le_refl _) (by omega) hout
    have hdyV : ∀ j, j < T → sw_dy (sd_wI (sd_wA σ3 240 (va_cpy (σ3.1 257) (σ3.1 240) 0 (W 5 0 0 % 128 * 4) 4)) (c + 5) 5 (nI (W 5 0 0 + 1))) 240 (V j) := fun j hj => by
      have hT40 := hp.2.2.2.2.1
      have := hp.days (T - (j + 1)) j (by omega)
      exact sw_dy_w (hs.2.2.2.2.1 j hj) this.1 (by omega) hout
    obtain ⟨j1, j2, j3, j4, j5, ⟨j6, j7, j8⟩, j9⟩ := s1
    refine ⟨j1.st (fun k a1 a2 a3 => ?_) (by rw [wI_2, wA_2, r2, e2]) hS' (sw_nx_OK hW hDR.1 hd9), by rw [wI_2, wA_2, r2]; exact hs.2.1, j3.fr (fun k a b => by rw [f9 k (by omega) (by omega), g3 k (by omega) (by omega) (by omega), f3 k (by omega) (by omega)]), ?_, fun j hj => ?_, ⟨j6, ?_, fun q => ⟨(j8 q).1.fr (fun j hj => by rw [f9 _ (by omega) (by omega), g3 _ (by omega) (by omega) (by omega), f3 _ (by omega) (by omega)]), (j8 q).2.fr (by rw [f9 _ (by omega) (by omega), g3 _ (by omega) (by omega) (by omega), f3 _ (by omega) (by omega)])⟩⟩, ?_⟩
    · rw [f9 k (by omega) (by omega), g3 k (by omega) (by omega) (by omega), f3 k (by omega) (by omega)]
    · intro i hi j hj
      rw [sw_nx_5] at hi ⊢
      cases i with
      | zero =>
        rw [sw_nx_60, f10, show (W 5 0 0 + 1 - 1 - 0) % 128 * 4 + j = W 5 0 0 % 128 * 4 + j by rw [Nat.sub_zero, Nat.add_sub_cancel], pk_cpy_in (by omega) (by omega), Nat.zero_add, Nat.add_sub_cancel_left]
        exact g2 j hj
      | succ i =>
        rw [sw_nx_6s, show W 5 0 0 + 1 - 1 - (i + 1) = W 5 0 0 - 1 - i by omega]
        exact hdyW i (by omega) j hj
    · unfold sw_psn at hj
      unfold sw_psh
      split at hj
      · rw [if_pos (by assumption)]
        split
        · exact hdyW
        · exact hdyV j (by omega)
      · rw [if_neg (by assumption)]
        split
        · exact hdyW
        · exact hdyV (j + 1) (by omega)
    · rw [f9 0 (by omega) (by omega), g3 0 (by omega) (by omega) (by omega), f3 0 (by omega) (by omega)]; exact j7
    · rw [f9 270 (by omega) (by omega), g3 270 (by omega) (by omega) (by omega), f3 270 (by omega) (by omega)]; exact j9
end SD82
