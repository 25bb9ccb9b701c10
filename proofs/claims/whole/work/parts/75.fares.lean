/-! fares -/
section SD75
variable {L : Nat} {xs : Nat → Int32} {fm : Option Nat} {A W : sw_T} {B T : Nat} {V : Nat → sw_T} {im : Nat} {I : sw_T}
theorem sw_sI.same {σ σ' : sd_Mem} {c : Nat} (h : sw_sI σ c A W T V im I) (hf : sw_same σ σ') : sw_sI σ' c A W T V im I := by
  obtain ⟨j1, j2, j3, j4, j5, ⟨j6, j7, j8⟩, j9⟩ := h
  have g : ∀ k, 38 ≤ k → k < 240 → σ'.1 k = σ.1 k := fun k a b => hf.cell k (fun i => sw_scr_lo (by omega))
  refine ⟨j1.fr hf, (hf.2 0 5 (by decide)).trans j2, j3.fr g, j4.fr (hf.cell _ (fun _ => rfl)), fun j hj => (j5 j hj).fr (hf.cell _ (fun _ => rfl)), ⟨j6, (hf.1 0 10 rfl).trans j7, fun q => ⟨(j8 q).1.fr (fun j hj => ?_), (j8 q).2.fr (hf.cell _ (fun _ => rfl))⟩⟩, by rw [hf.cell 270 (fun _ => rfl)]; exact j9⟩
  rcases (show j = 0 ∨ j = 1 ∨ j = 2 ∨ j = 3 ∨ j = 4 by omega) with rfl | rfl | rfl | rfl | rfl <;> exact hf.cell _ (fun _ => rfl)
theorem sw_mI.same {σ σ' : sd_Mem} (h : sw_mI σ A W T V im I) (hf : sw_same σ σ') : sw_mI σ' A W T V im I := by
  obtain ⟨m1, m2, m3, m4, m5, m6⟩ := h
  refine ⟨m1.same hf, by rw [hf.cell 285 (fun _ => rfl)]; exact m2, m3.fr (hf.1 _ _ rfl) (hf.cell _ (fun _ => rfl)), m4, (hf.1 271 58 rfl).trans m5, by rw [hf.cell 300 (fun _ => rfl)]; exact m6⟩
theorem sw_same.aX {σ σ' : sd_Mem} (hf : sw_same σ σ') (h : ∀ k, 271 ≤ k → σ'.1 k = σ.1 k) : sw_fr sw_aX σ σ' := ⟨fun k i q => by
  by_cases hk : k < 271
  · refine hf.1 k i ?_
    unfold sw_aX at q
    rw [Bool.or_eq_false_iff] at q
    have := q.2
    rw [decide_eq_true hk, Bool.true_and] at this
    exact this
  · rw [h k (by omega)], hf.2⟩
theorem sw_same.aM {σ σ' : sd_Mem} (hf : sw_same σ σ') (h : ∀ k, k < 271 → σ'.1 k = σ.1 k) : sw_fr sw_aM σ σ' := ⟨fun k i q => by
  by_cases hk : k < 271
  · rw [h k hk]
  · refine hf.1 k i ?_
    unfold sw_aM at q
    rw [Bool.or_eq_false_iff] at q
    have := q.2
    rw [decide_eq_true (show 271 ≤ k by omega), Bool.true_and] at this
    exact this, hf.2⟩
theorem sw_lf.same {σ σ' : sd_Mem} (h : sw_lf σ σ') : sw_same σ σ' := ⟨fun k i q => by
  obtain ⟨h1, h2, h3⟩ := h
  by_cases hk : k = 271
  · subst hk
    exact h2 i (by rintro rfl; revert q; decide)
  · have a1 : k ≠ 287 := by rintro rfl; cases q
    have a2 : k ≠ 288 := by rintro rfl; cases q
    have a3 : k ≠ 289 := by rintro rfl; cases q
    rw [h1 k hk a1 a2 a3], fun k i _ => by rw [h.2.2]⟩
theorem a_fares (hp : sw_pI B A W T V im I) (x : Int32) : sw_act L xs fm 7 y_X_fares y_M_fares [.int x] A W T V im I A W T V im I := by
  rcases nz_or x with hx | ⟨v, hv, rfl⟩
  · refine sw_q.act ⟨-1, fun σ c d Q h => ?_, fun σ d Q h => ?_⟩
    · refine sd_Call.iff (fun Q hq => ?_) Q
      obtain ⟨hc, hC, ⟨a1, a2, a3, a4, a5, a6⟩, ⟨b1, b2, b3, b4, b5, b6, b7⟩, hS, hA, hW⟩ := id h
      obtain ⟨k0, k1, k2, k3, k4, k5, k6, k7, k8, r0, r1, r2, r3, r4, k9⟩ := hC.all (L := L) (xs := xs) (fm := fm)
      obtain ⟨⟨w1, w2, w3, w4⟩, w5, w6⟩ := id hS
      obtain ⟨s0, s1, s2, s3, s4, s5, s6, s7, s8, sr0, sr1, sr2, sr3⟩ := k9.all (L := L) (xs := xs) (fm := fm)
      simp only [Nat.add_assoc, Nat.reduceAdd] at s1 s2 s3 s4 s5 s6 s7 s8 sr0 sr1 sr2 sr3 w3 w5
      obtain ⟨bA, bP, bE, bw, bj, bh, be, bT, btz, btf, bS, bs2, btp⟩ := id hA
      obtain ⟨bP2, bW, bz, bf, bs, bv, bu⟩ := id hW
      rw [sd_Call.start (ls := [.ref 0, .int x]) m_X_fares (by decide) (Nat.le_of_ble_eq_true rfl) rfl]
      simp (disch := first | exact sd_cr | exact sd_ci | exact sd_cu | exact sd_cl9 | assumption | omega | (apply nz_m; apply bA) | (apply nz_k; apply bA) | (apply nz_m; apply bW) | (apply nz_k; apply bW) | (apply nz_m; apply w4) | (apply nz_k; apply w4) | exact t_259 | exact t_260 | exact t_261 | exact t_262 | exact t_263 | exact t_264 | exact t_254 | exact t_255 | exact t_256 | exact t_257 | exact t_266 | exact t_267 | exact t_268 | exact t_269 | exact t_270 | exact t_252 | exact t_240 | exact t_246 | exact t_2 | exact t_4 | exact t_5 | exact t_13 | exact t_14 | exact t_15 | exact t_16 | exact Or.inl t_39 | exact Or.inr t_7) only [z_X_fares_0, z_X_fares_1, z_X_fares_4, z_X_fares_7, z_X_fares_8, z_X_fares_11, z_X_fares_14, z_X_fares_15, z_X_fares_16, z_X_fares_17, z_X_fares_20, z_X_fares_21, z_X_fares_24, z_X_fares_27, z_X_fares_30, z_X_fares_31, z_X_fares_34, z_X_fares_35, z_X_fares_38, z_X_fares_41, z_X_fares_44, z_X_fares_45, z_X_fares_48, z_X_fares_51, z_X_fares_52, z_X_fares_53, false_and, and_false, if_true, if_false, Decidable.not_not, sd_ci, sd_cr, sd_cl9, sd_cu, sd_cat0, sd_cat1, sd_rfS, sd_n01, sd_n11, sd_n1, sd_n10, sd_n00, sd_b01, sd_b0, true_and, and_true, and_self, not_true_eq_false, not_false_eq_true, false_implies, true_implies, implies_true, or_true, true_or, or_false, false_or, Option.toList_some, Option.toList_none, List.cons_append, List.nil_append, Nat.reduceAdd, Nat.reduceLeDiff, nz_sub, nz_lt0, nz_ge0, nz_le0, nz_gt0, nz_eq0, nz_eq1, nz_lt, nz_le, nz_eq, nz_cl, nz_in, nz_add, nz_mul, nz_m1, nz_m1', Nat.reduceMul, Nat.reduceSub, Nat.reduceLT, Nat.reduceEqDiff, not_false_eq_true, false_implies, true_implies, true_and, and_true, h_0, h_1, t_2, n_2, h_3, t_4, n_4, t_5, n_5, h_6, t_7, n_7, t_8, n_8, t_9, n_9, t_10, n_10, t_11, n_11, t_12, n_12, t_13, n_13, t_14, n_14, t_15, n_15, t_16, n_16, h_17, h_18, t_19, n_19, t_20, n_20, t_21, n_21, t_22, n_22, h_28, t_29, n_29, t_30, n_30, t_31, n_31, t_32, n_32, h_38, t_39, n_39, t_240, n_240, t_246, n_246, t_252, n_252, h_253, t_254, n_254, t_255, n_255, t_256, n_256, t_257, n_257, h_258, t_259, n_259, t_260, n_260, t_261, n_261, t_262, n_262, t_263, n_263, t_264, n_264, h_265, t_266, n_266, t_267, n_267, t_268, n_268, t_269, n_269, t_270, n_270, r_0_0, r_0_1, r_0_2, r_0_3, r_0_6, r_0_7, r_0_8, r_0_9, r_0_11, r_0_12, r_0_13, r_0_14, r_0_15, r_1_0, r_3_0, r_3_1, r_3_2, r_6_0, r_6_1, r_6_4, r_6_5, r_6_7, r_7_0, r_7_1, r_7_2, r_7_3, r_7_4, r_17_0, r_17_1, r_18_1, r_18_2, r_18_3, r_18_4, r_18_6, r_28_1, r_28_2, r_28_3, r_28_4, r_28_6, r_38_0, r_253_0, r_253_1, r_253_2, r_253_3, r_258_0, r_258_1, r_258_3, r_258_4, r_258_6, r_258_8, r_265_0, r_265_1, r_265_3, r_265_4, r_265_5, r_0_4, r_0_5, hc, k0, k1, k2, k3, k4, k5, k6, k7, k8, r0, r1, r2, r3, r4, s0, s1, s2, s3, s4, s5, s6, s7, s8, sr0, sr1, sr2, sr3, a1, a2, a3, a4, a5, a6, b1, b2, b3, b4, b5, b6, b7, w1, w3, w5, w6, c_State_inForce_n k9 hx]
      exact hq
    · refine sd_Call.iff (fun Q hq => ?_) Q
      rw [sd_Call.start (ls := [.ref 271, .int x]) m_M_fares (by decide) (Nat.le_of_ble_eq_true rfl) rfl]
      simp (disch := first | exact sd_cr | exact sd_ci | exact sd_cu | exact sd_cl9 | assumption | omega) only [z_M_fares_0, z_M_fares_1, z_M_fares_2, false_and, and_false, if_true, if_false, Decidable.not_not, sd_ci, sd_cr, sd_cl9, sd_cu, sd_cat0, sd_cat1, sd_rfS, sd_n01, sd_n11, sd_n1, sd_n10, sd_n00, sd_b01, sd_b0, true_and, and_true, and_self, not_true_eq_false, not_false_eq_true, false_implies, true_implies, implies_true, or_true, true_or, or_false, false_or, Option.toList_some, Option.toList_none, List.cons_append, List.nil_append, Nat.reduceAdd, Nat.reduceLeDiff, h_271]
      replace h := h.w (i := 0) (v := nI 0) (by decide)
      revert h hq
      generalize sd_wI σ 271 0 (nI 0) = σ
      intro hq h
      obtain ⟨⟨a1, a2, a3, a4, a5, a6⟩, ⟨b1, b2, b3, b4, b5, b6, b7⟩, hS, hA, hW⟩ := id h
      obtain ⟨⟨t1, t2, w1, w2, w3, w4⟩, w5, w6⟩ := id hS
      have w30 : ∀ v, v < W 0 0 0 → σ.1 285 (70 + 6 * v) = nI (W 1 v 0) := fun v hv => w3 v hv 0 (by decide)
      obtain ⟨bA, bP, bE, bw, bj, bh, be, bT, btz, btf, bS, bs2, btp⟩ := id hA
      obtain ⟨bP2, bW, bz, bf, bs, bv, bu⟩ := id hW
      simp (disch := first | exact sd_cr | exact sd_ci | exact sd_cu | exact sd_cl9 | assumption | omega | (apply nz_m; apply bA) | (apply nz_k; apply bA) | (apply nz_m; apply bW) | (apply nz_k; apply bW) | (apply nz_m; apply w4) | (apply nz_k; apply w4) | exact t_285 | exact t_283 | exact t_278 | exact t_281 | exact t_276 | exact t_274 | exact t_275 | exact t_277 | exact t_279 | exact t_280 | exact t_282 | exact t_284 | exact t_286 | exact t_287 | exact t_288 | exact t_289 | exact t_290 | exact t_291 | exact t_292 | exact t_293 | exact t_294 | exact t_295 | exact t_296 | exact t_297 | exact t_298 | exact t_299 | exact t_300) only [z_M_fares_0, z_M_fares_1, z_M_fares_2, z_M_fares_5, z_M_fares_6, z_M_fares_7, z_M_fares_10, z_M_fares_11, z_M_fares_14, z_M_fares_17, z_M_fares_18, z_M_fares_19, z_M_fares_20, z_M_fares_21, z_M_fares_24, z_M_fares_27, z_M_fares_28, z_M_fares_31, z_M_fares_32, z_M_fares_33, false_and, and_false, if_true, if_false, Decidable.not_not, sd_ci, sd_cr, sd_cl9, sd_cu, sd_cat0, sd_cat1, sd_rfS, sd_n01, sd_n11, sd_n1, sd_n10, sd_n00, sd_b01, sd_b0, true_and, and_true, and_self, not_true_eq_false, not_false_eq_true, false_implies, true_implies, implies_true, or_true, true_or, or_false, false_or, Option.toList_some, Option.toList_none, List.cons_append, List.nil_append, Nat.reduceAdd, Nat.reduceLeDiff, nz_sub, nz_lt0, nz_ge0, nz_le0, nz_gt0, nz_eq0, nz_eq1, nz_lt, nz_le, nz_eq, nz_cl, nz_in, nz_add, nz_mul, nz_m1, nz_m1', Nat.reduceMul, Nat.reduceSub, Nat.reduceLT, Nat.reduceEqDiff, not_false_eq_true, false_implies, true_implies, true_and, and_true, h_271, t_272, n_272, t_273, n_273, t_274, n_274, t_275, n_275, t_276, n_276, t_277, n_277, t_278, n_278, t_279, n_279, t_280, n_280, t_281, n_281, t_282, n_282, t_283, n_283, t_284, n_284, t_285, n_285, t_286, n_286, t_287, n_287, t_288, n_288, t_289, n_289, t_290, n_290, t_291, n_291, t_292, n_292, t_293, n_293, t_294, n_294, t_295, n_295, t_296, n_296, t_297, n_297, t_298, n_298, t_299, n_299, t_300, n_300, t_301, n_301, r_271_1, r_271_2, r_271_3, r_271_4, r_271_15, r_271_16, r_271_18, r_271_19, r_271_20, r_271_21, r_271_22, r_271_23, r_271_24, r_271_25, r_271_26, r_271_34, r_271_35, r_271_38, r_271_39, r_271_40, r_271_42, r_271_45, r_271_46, r_271_47, r_271_48, r_271_49, r_271_50, r_271_53, r_271_54, r_271_55, r_271_57, a1, a2, a3, a4, a5, a6, b1, b2, b3, b4, b5, b6, b7, w1, w3, w30, w5, w6, c_M_isForce_n hx]
      exact hq
  · by_cases hf : sd_fo (W 0 0 0) (W 1) v
    · have hW := hp.2.1
      refine ⟨nI (sw_fate W v), fun σ c hs => ?_, fun σ hm => ?_⟩
      · have h := hs.1
        have hcc := h.2.1.2.2.2.2.2.2.2.2.2.2.2
        have k9 := h.2.1.2.2.2.2.2.2.2.2.2.2.1
        have hJ := sw_J_set h.2.2.2.2.1 hW (by omega)
        obtain ⟨σ2, c2, f1, f2, f3, f4⟩ := c_Judge_decide (L := L) (xs := xs) (fm := fm) k9 (by omega) hJ hW
        have e1 : ∀ e, e ≠ 254 → e ≠ 255 → e ≠ 256 → σ2.1 e = σ.1 e := fun e a b d => by rw [f3 e b d, cpA_2 a]
        have hsame : sw_same σ σ2 := ⟨fun k i q => by
          rw [e1 k (by rintro rfl; cases q) (by rintro rfl; cases q) (by rintro rfl; cases q)], fun k i _ => by rw [f4]; rfl⟩
        refine ⟨σ2, hs.same hsame, hsame.aX (fun k hk => e1 k (by omega) (by omega) (by omega)), fun d Q => ?_⟩
        have cs := fun Q => c_Judge_setRows (L := L) (xs := xs) (fm := fm) (d := d + 5) (σ := σ) (Q := Q) k9
        have g4 : (sw_cpA σ 254 (c + 5 + 1) 60).2 = σ.2 := rfl
        have fv := f1 v hf.1
        simp only [Nat.add_assoc, Nat.reduceAdd] at cs c2 g4
        have c2' := fun Q => c2 (d + 1) Q
        refine sd_Call.iff (fun Q hq => ?_) Q
        obtain ⟨hc, hC, ⟨a1, a2, a3, a4, a5, a6⟩, ⟨b1, b2, b3, b4, b5, b6, b7⟩, hS, hA, hW⟩ := id h
        obtain ⟨k0, k1, k2, k3, k4, k5, k6, k7, k8, r0, r1, r2, r3, r4, k9⟩ := hC.all (L := L) (xs := xs) (fm := fm)
        obtain ⟨⟨w1, w2, w3, w4⟩, w5, w6⟩ := id hS
        obtain ⟨s0, s1, s2, s3, s4, s5, s6, s7, s8, sr0, sr1, sr2, sr3⟩ := k9.all (L := L) (xs := xs) (fm := fm)
        simp only [Nat.add_assoc, Nat.reduceAdd] at s1 s2 s3 s4 s5 s6 s7 s8 sr0 sr1 sr2 sr3 w3 w5
        obtain ⟨bA, bP, bE, bw, bj, bh, be, bT, btz, btf, bS, bs2, btp⟩ := id hA
        obtain ⟨bP2, bW, bz, bf, bs, bv, bu⟩ := id hW
        rw [sd_Call.start (ls := [.ref 0, .int (nI v)]) m_X_fares (by decide) (Nat.le_of_ble_eq_true rfl) rfl]
        simp (disch := first | exact sd_cr | exact sd_ci | exact sd_cu | exact sd_cl9 | assumption | omega | (apply nz_m; apply bA) | (apply nz_k; apply bA) | (apply nz_m; apply bW) | (apply nz_k; apply bW) | (apply nz_m; apply w4) | (apply nz_k; apply w4) | exact t_259 | exact t_260 | exact t_261 | exact t_262 | exact t_263 | exact t_264 | exact t_254 | exact t_255 | exact t_256 | exact t_257 | exact t_266 | exact t_267 | exact t_268 | exact t_269 | exact t_270 | exact t_252 | exact t_240 | exact t_246 | exact t_2 | exact t_4 | exact t_5 | exact t_13 | exact t_14 | exact t_15 | exact t_16 | exact Or.inl t_39 | exact Or.inr t_7) only [z_X_fares_0, z_X_fares_1, z_X_fares_4, z_X_fares_7, z_X_fares_8, z_X_fares_11, z_X_fares_14, z_X_fares_15, z_X_fares_16, z_X_fares_17, z_X_fares_20, z_X_fares_21, z_X_fares_24, z_X_fares_27, z_X_fares_30, z_X_fares_31, z_X_fares_34, z_X_fares_35, z_X_fares_38, z_X_fares_41, z_X_fares_44, z_X_fares_45, z_X_fares_48, z_X_fares_51, z_X_fares_52, z_X_fares_53, false_and, and_false, if_true, if_false, Decidable.not_not, sd_ci, sd_cr, sd_cl9, sd_cu, sd_cat0, sd_cat1, sd_rfS, sd_n01, sd_n11, sd_n1, sd_n10, sd_n00, sd_b01, sd_b0, true_and, and_true, and_self, not_true_eq_false, not_false_eq_true, false_implies, true_implies, implies_true, or_true, true_or, or_false, false_or, Option.toList_some, Option.toList_none, List.cons_append, List.nil_append, Nat.reduceAdd, Nat.reduceLeDiff, nz_sub, nz_lt0, nz_ge0, nz_le0, nz_gt0, nz_eq0, nz_eq1, nz_lt, nz_le, nz_eq, nz_cl, nz_in, nz_add, nz_mul, nz_m1, nz_m1', Nat.reduceMul, Nat.reduceSub, Nat.reduceLT, Nat.reduceEqDiff, not_false_eq_true, false_implies, true_implies, true_and, and_true, h_0, h_1, t_2, n_2, h_3, t_4, n_4, t_5, n_5, h_6, t_7, n_7, t_8, n_8, t_9, n_9, t_10, n_10, t_11, n_11, t_12, n_12, t_13, n_13, t_14, n_14, t_15, n_15, t_16, n_16, h_17, h_18, t_19, n_19, t_20, n_20, t_21, n_21, t_22, n_22, h_28, t_29, n_29, t_30, n_30, t_31, n_31, t_32, n_32, h_38, t_39, n_39, t_240, n_240, t_246, n_246, t_252, n_252, h_253, t_254, n_254, t_255, n_255, t_256, n_256, t_257, n_257, h_258, t_259, n_259, t_260, n_260, t_261, n_261, t_262, n_262, t_263, n_263, t_264, n_264, h_265, t_266, n_266, t_267, n_267, t_268, n_268, t_269, n_269, t_270, n_270, r_0_0, r_0_1, r_0_2, r_0_3, r_0_6, r_0_7, r_0_8, r_0_9, r_0_11, r_0_12, r_0_13, r_0_14, r_0_15, r_1_0, r_3_0, r_3_1, r_3_2, r_6_0, r_6_1, r_6_4, r_6_5, r_6_7, r_7_0, r_7_1, r_7_2, r_7_3, r_7_4, r_17_0, r_17_1, r_18_1, r_18_2, r_18_3, r_18_4, r_18_6, r_28_1, r_28_2, r_28_3, r_28_4, r_28_6, r_38_0, r_253_0, r_253_1, r_253_2, r_253_3, r_258_0, r_258_1, r_258_3, r_258_4, r_258_6, r_258_8, r_265_0, r_265_1, r_265_3, r_265_4, r_265_5, r_0_4, r_0_5, hc, k0, k1, k2, k3, k4, k5, k6, k7, k8, r0, r1, r2, r3, r4, s0, s1, s2, s3, s4, s5, s6, s7, s8, sr0, sr1, sr2, sr3, a1, a2, a3, a4, a5, a6, b1, b2, b3, b4, b5, b6, b7, w1, w3, w5, w6, c_State_inForce k9 hS.1, hf.1, hf.2, cs, c2', g4, f4, fv]
        ((repeat' first | (refine And.intro ?_ ?_) | (intro _)) <;> first | omega | (rw [if_pos (by omega)] at hq; exact hq) | (rw [if_neg (by omega)] at hq; exact hq) | exact hq)
      · have hm0 := hm.w (v := nI 0)
        obtain ⟨σ2, c2, f1, f2, f3⟩ := c_M_layFates (L := L) (xs := xs) (fm := fm) (c := 285) (Or.inl rfl) (hm0.2.1.M hW) hW
        have hsame : sw_same σ σ2 := (sw_fr.rf.wI rfl).tr f3.same
        refine ⟨σ2, hm0.same f3.same, hsame.aM (fun k hk => by rw [f3.1 k (by omega) (by omega) (by omega) (by omega), wI_c (by omega)]), fun d Q => ?_⟩
        have fv := f1 v hf.1 hf.2
        refine sd_Call.iff (fun Q hq => ?_) Q
        have c1 := fun Q => c_M_isForce (L := L) (xs := xs) (fm := fm) (d := d + 5) (Q := Q) (hm0.2.1.M hW).1 hv
        rw [sd_bT hf] at c1
        have c2' := fun Q => c2 (d + 1) Q
        have hb := hW.2.2.2.2.1
        have hv12 : v < 12 := by have := hf.1; omega
        rw [sd_Call.start (ls := [.ref 271, .int (nI v)]) m_M_fares (by decide) (Nat.le_of_ble_eq_true rfl) rfl]
        simp (disch := first | exact sd_cr | exact sd_ci | exact sd_cu | exact sd_cl9 | assumption | omega | exact t_285 | exact t_283 | exact t_278 | exact t_281 | exact t_276 | exact t_274 | exact t_275 | exact t_277 | exact t_279 | exact t_280 | exact t_282 | exact t_284 | exact t_286 | exact t_287 | exact t_288 | exact t_289 | exact t_290 | exact t_291 | exact t_292 | exact t_293 | exact t_294 | exact t_295 | exact t_296 | exact t_297 | exact t_298 | exact t_299 | exact t_300) only [z_M_fares_0, z_M_fares_1, z_M_fares_2, z_M_fares_5, z_M_fares_6, z_M_fares_7, z_M_fares_10, z_M_fares_11, z_M_fares_14, z_M_fares_17, z_M_fares_18, z_M_fares_19, z_M_fares_20, z_M_fares_21, z_M_fares_24, z_M_fares_27, z_M_fares_28, z_M_fares_31, z_M_fares_32, z_M_fares_33, false_and, and_false, if_true, if_false, Decidable.not_not, sd_ci, sd_cr, sd_cl9, sd_cu, sd_cat0, sd_cat1, sd_rfS, sd_n01, sd_n11, sd_n1, sd_n10, sd_n00, sd_b01, sd_b0, true_and, and_true, and_self, not_true_eq_false, not_false_eq_true, false_implies, true_implies, implies_true, or_true, true_or, or_false, false_or, Option.toList_some, Option.toList_none, List.cons_append, List.nil_append, Nat.reduceAdd, Nat.reduceLeDiff, nz_sub, nz_lt0, nz_ge0, nz_le0, nz_gt0, nz_eq0, nz_eq1, nz_lt, nz_le, nz_eq, nz_cl, nz_in, nz_add, nz_mul, nz_m1, nz_m1', Nat.reduceMul, Nat.reduceSub, Nat.reduceLT, Nat.reduceEqDiff, not_false_eq_true, false_implies, true_implies, true_and, and_true, h_271, t_272, n_272, t_273, n_273, t_274, n_274, t_275, n_275, t_276, n_276, t_277, n_277, t_278, n_278, t_279, n_279, t_280, n_280, t_281, n_281, t_282, n_282, t_283, n_283, t_284, n_284, t_285, n_285, t_286, n_286, t_287, n_287, t_288, n_288, t_289, n_289, t_290, n_290, t_291, n_291, t_292, n_292, t_293, n_293, t_294, n_294, t_295, n_295, t_296, n_296, t_297, n_297, t_298, n_298, t_299, n_299, t_300, n_300, t_301, n_301, r_271_1, r_271_2, r_271_3, r_271_4, r_271_15, r_271_16, r_271_18, r_271_19, r_271_20, r_271_21, r_271_22, r_271_23, r_271_24, r_271_25, r_271_26, r_271_34, r_271_35, r_271_38, r_271_39, r_271_40, r_271_42, r_271_45, r_271_46, r_271_47, r_271_48, r_271_49, r_271_50, r_271_53, r_271_54, r_271_55, r_271_57, c1, c2', fv]
        ((repeat' first | (refine And.intro ?_ ?_) | (intro _)) <;> first | omega | exact hq)
    · refine sw_q.act ⟨-1, fun σ c d Q h => ?_, fun σ d Q h => ?_⟩
      · refine sd_Call.iff (fun Q hq => ?_) Q
        obtain ⟨hc, hC, ⟨a1, a2, a3, a4, a5, a6⟩, ⟨b1, b2, b3, b4, b5, b6, b7⟩, hS, hA, hW⟩ := id h
        obtain ⟨k0, k1, k2, k3, k4, k5, k6, k7, k8, r0, r1, r2, r3, r4, k9⟩ := hC.all (L := L) (xs := xs) (fm := fm)
        obtain ⟨⟨w1, w2, w3, w4⟩, w5, w6⟩ := id hS
        obtain ⟨s0, s1, s2, s3, s4, s5, s6, s7, s8, sr0, sr1, sr2, sr3⟩ := k9.all (L := L) (xs := xs) (fm := fm)
        simp only [Nat.add_assoc, Nat.reduceAdd] at s1 s2 s3 s4 s5 s6 s7 s8 sr0 sr1 sr2 sr3 w3 w5
        obtain ⟨bA, bP, bE, bw, bj, bh, be, bT, btz, btf, bS, bs2, btp⟩ := id hA
        obtain ⟨bP2, bW, bz, bf, bs, bv, bu⟩ := id hW
        rw [sd_Call.start (ls := [.ref 0, .int (nI v)]) m_X_fares (by decide) (Nat.le_of_ble_eq_true rfl) rfl]
        simp (disch := first | exact sd_cr | exact sd_ci | exact sd_cu | exact sd_cl9 | assumption | omega | (apply nz_m; apply bA) | (apply nz_k; apply bA) | (apply nz_m; apply bW) | (apply nz_k; apply bW) | (apply nz_m; apply w4) | (apply nz_k; apply w4) | exact t_259 | exact t_260 | exact t_261 | exact t_262 | exact t_263 | exact t_264 | exact t_254 | exact t_255 | exact t_256 | exact t_257 | exact t_266 | exact t_267 | exact t_268 | exact t_269 | exact t_270 | exact t_252 | exact t_240 | exact t_246 | exact t_2 | exact t_4 | exact t_5 | exact t_13 | exact t_14 | exact t_15 | exact t_16 | exact Or.inl t_39 | exact Or.inr t_7) only [z_X_fares_0, z_X_fares_1, z_X_fares_4, z_X_fares_7, z_X_fares_8, z_X_fares_11, z_X_fares_14, z_X_fares_15, false_and, and_false, if_true, if_false, Decidable.not_not, sd_ci, sd_cr, sd_cl9, sd_cu, sd_cat0, sd_cat1, sd_rfS, sd_n01, sd_n11, sd_n1, sd_n10, sd_n00, sd_b01, sd_b0, true_and, and_true, and_self, not_true_eq_false, not_false_eq_true, false_implies, true_implies, implies_true, or_true, true_or, or_false, false_or, Option.toList_some, Option.toList_none, List.cons_append, List.nil_append, Nat.reduceAdd, Nat.reduceLeDiff, nz_sub, nz_lt0, nz_ge0, nz_le0, nz_gt0, nz_eq0, nz_eq1, nz_lt, nz_le, nz_eq, nz_cl, nz_in, nz_add, nz_mul, nz_m1, nz_m1', Nat.reduceMul, Nat.reduceSub, Nat.reduceLT, Nat.reduceEqDiff, not_false_eq_true, false_implies, true_implies, true_and, and_true, h_0, h_1, t_2, n_2, h_3, t_4, n_4, t_5, n_5, h_6, t_7, n_7, t_8, n_8, t_9, n_9, t_10, n_10, t_11, n_11, t_12, n_12, t_13, n_13, t_14, n_14, t_15, n_15, t_16, n_16, h_17, h_18, t_19, n_19, t_20, n_20, t_21, n_21, t_22, n_22, h_28, t_29, n_29, t_30, n_30, t_31, n_31, t_32, n_32, h_38, t_39, n_39, t_240, n_240, t_246, n_246, t_252, n_252, h_253, t_254, n_254, t_255, n_255, t_256, n_256, t_257, n_257, h_258, t_259, n_259, t_260, n_260, t_261, n_261, t_262, n_262, t_263, n_263, t_264, n_264, h_265, t_266, n_266, t_267, n_267, t_268, n_268, t_269, n_269, t_270, n_270, r_0_0, r_0_1, r_0_2, r_0_3, r_0_6, r_0_7, r_0_8, r_0_9, r_0_11, r_0_12, r_0_13, r_0_14, r_0_15, r_1_0, r_3_0, r_3_1, r_3_2, r_6_0, r_6_1, r_6_4, r_6_5, r_6_7, r_7_0, r_7_1, r_7_2, r_7_3, r_7_4, r_17_0, r_17_1, r_18_1, r_18_2, r_18_3, r_18_4, r_18_6, r_28_1, r_28_2, r_28_3, r_28_4, r_28_6, r_38_0, r_253_0, r_253_1, r_253_2, r_253_3, r_258_0, r_258_1, r_258_3, r_258_4, r_258_6, r_258_8, r_265_0, r_265_1, r_265_3, r_265_4, r_265_5, r_0_4, r_0_5, hc, k0, k1, k2, k3, k4, k5, k6, k7, k8, r0, r1, r2, r3, r4, s0, s1, s2, s3, s4, s5, s6, s7, s8, sr0, sr1, sr2, sr3, a1, a2, a3, a4, a5, a6, b1, b2, b3, b4, b5, b6, b7, w1, w3, w5, w6, c_State_inForce k9 hS.1, hf]
        ((repeat' first | (refine And.intro ?_ ?_) | (intro _)) <;> first | contradiction | exact hq)
      · refine sd_Call.iff (fun Q hq => ?_) Q
        rw [sd_Call.start (ls := [.ref 271, .int (nI v)]) m_M_fares (by decide) (Nat.le_of_ble_eq_true rfl) rfl]
        simp (disch := first | exact sd_cr | exact sd_ci | exact sd_cu | exact sd_cl9 | assumption | omega) only [z_M_fares_0, z_M_fares_1, z_M_fares_2, false_and, and_false, if_true, if_false, Decidable.not_not, sd_ci, sd_cr, sd_cl9, sd_cu, sd_cat0, sd_cat1, sd_rfS, sd_n01, sd_n11, sd_n1, sd_n10, sd_n00, sd_b01, sd_b0, true_and, and_true, and_self, not_true_eq_false, not_false_eq_true, false_implies, true_implies, implies_true, or_true, true_or, or_false, false_or, Option.toList_some, Option.toList_none, List.cons_append, List.nil_append, Nat.reduceAdd, Nat.reduceLeDiff, h_271]
        replace h := h.w (i := 0) (v := nI 0) (by decide)
        revert h hq
        generalize sd_wI σ 271 0 (nI 0) = σ
        intro hq h
        obtain ⟨⟨a1, a2, a3, a4, a5, a6⟩, ⟨b1, b2, b3, b4, b5, b6, b7⟩, hS, hA, hW⟩ := id h
        obtain ⟨⟨t1, t2, w1, w2, w3, w4⟩, w5, w6⟩ := id hS
        have w30 : ∀ v, v < W 0 0 0 → σ.1 285 (70 + 6 * v) = nI (W 1 v 0) := fun v hv => w3 v hv 0 (by decide)
        obtain ⟨bA, bP, bE, bw, bj, bh, be, bT, btz, btf, bS, bs2, btp⟩ := id hA
        obtain ⟨bP2, bW, bz, bf, bs, bv, bu⟩ := id hW
        simp (disch := first | exact sd_cr | exact sd_ci | exact sd_cu | exact sd_cl9 | assumption | omega | (apply nz_m; apply bA) | (apply nz_k; apply bA) | (apply nz_m; apply bW) | (apply nz_k; apply bW) | (apply nz_m; apply w4) | (apply nz_k; apply w4) | exact t_285 | exact t_283 | exact t_278 | exact t_281 | exact t_276 | exact t_274 | exact t_275 | exact t_277 | exact t_279 | exact t_280 | exact t_282 | exact t_284 | exact t_286 | exact t_287 | exact t_288 | exact t_289 | exact t_290 | exact t_291 | exact t_292 | exact t_293 | exact t_294 | exact t_295 | exact t_296 | exact t_297 | exact t_298 | exact t_299 | exact t_300) only [z_M_fares_5, z_M_fares_6, z_M_fares_7, z_M_fares_10, z_M_fares_11, z_M_fares_14, z_M_fares_17, z_M_fares_18, false_and, and_false, if_true, if_false, Decidable.not_not, sd_ci, sd_cr, sd_cl9, sd_cu, sd_cat0, sd_cat1, sd_rfS, sd_n01, sd_n11, sd_n1, sd_n10, sd_n00, sd_b01, sd_b0, true_and, and_true, and_self, not_true_eq_false, not_false_eq_true, false_implies, true_implies, implies_true, or_true, true_or, or_false, false_or, Option.toList_some, Option.toList_none, List.cons_append, List.nil_append, Nat.reduceAdd, Nat.reduceLeDiff, nz_sub, nz_lt0, nz_ge0, nz_le0, nz_gt0, nz_eq0, nz_eq1, nz_lt, nz_le, nz_eq, nz_cl, nz_in, nz_add, nz_mul, nz_m1, nz_m1', Nat.reduceMul, Nat.reduceSub, Nat.reduceLT, Nat.reduceEqDiff, not_false_eq_true, false_implies, true_implies, true_and, and_true, h_271, t_272, n_272, t_273, n_273, t_274, n_274, t_275, n_275, t_276, n_276, t_277, n_277, t_278, n_278, t_279, n_279, t_280, n_280, t_281, n_281, t_282, n_282, t_283, n_283, t_284, n_284, t_285, n_285, t_286, n_286, t_287, n_287, t_288, n_288, t_289, n_289, t_290, n_290, t_291, n_291, t_292, n_292, t_293, n_293, t_294, n_294, t_295, n_295, t_296, n_296, t_297, n_297, t_298, n_298, t_299, n_299, t_300, n_300, t_301, n_301, r_271_1, r_271_2, r_271_3, r_271_4, r_271_15, r_271_16, r_271_18, r_271_19, r_271_20, r_271_21, r_271_22, r_271_23, r_271_24, r_271_25, r_271_26, r_271_34, r_271_35, r_271_38, r_271_39, r_271_40, r_271_42, r_271_45, r_271_46, r_271_47, r_271_48, r_271_49, r_271_50, r_271_53, r_271_54, r_271_55, r_271_57, a1, a2, a3, a4, a5, a6, b1, b2, b3, b4, b5, b6, b7, w1, w3, w30, w5, w6, c_M_isForce hS.1, hf]
        ((repeat' first | (refine And.intro ?_ ?_) | (intro _)) <;> first | contradiction | exact hq)
end SD75
