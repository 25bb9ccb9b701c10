/-! length: the reference's loop, both -/
section SD87
variable {L : Nat} {xs : Nat → Int32} {fm : Option Nat} {A W : sw_T} {B T : Nat} {V : Nat → sw_T} {im : Nat} {I : sw_T}
theorem c_M_length_loop {σ : sd_Mem} {p : Nat} (hm : sw_mI σ A W T V im I) (hA : sw_AK A) (hW : sw_OK (A 0 0 0) W) (hd : W 5 0 0 < 800000) (hp : p < 1000) : ∀ n i σ', i + n = 100 → ((∀ e, ¬ (286 ≤ e ∧ e ≤ 289) → e ≠ 271 → σ'.1 e = σ.1 e) ∧ (∀ j, j ≠ 0 → j ≠ 41 → σ'.1 271 j = σ.1 271 j) ∧ σ'.2 = σ.2 ∧ sw_Mf (σ'.1 286) (A 0 0 0) (sw_ly A W i)) → ∃ σ2, (∀ e, ¬ (286 ≤ e ∧ e ≤ 289) → e ≠ 271 → σ2.1 e = σ.1 e) ∧ (∀ j, j ≠ 0 → j ≠ 41 → σ2.1 271 j = σ.1 271 j) ∧ σ2.2 = σ.2 ∧ ∀ (d : Nat) Q, Q (some (.int (sd_o (sw_le A W p n i)))) σ2 → sd_Go (sd_E1 L xs fm) (d + 8) y_M_length 28 [.ref 271, .int (nI p), .int (nI i)] [] σ' Q := by
  intro n
  induction n with
  | zero =>
    intro i σ' hi ⟨i1, i2, i3, i4⟩
    refine ⟨σ', i1, i2, i3, fun d Q hq => ?_⟩
    have hn : sw_le A W p 0 i = none := rfl
    rw [hn] at hq
    clear i4 hn
    rw [z_M_length_28]
    simp (disch := first | exact sd_cr | exact sd_ci | exact sd_cu | exact sd_cl9 | assumption | omega | exact t_285 | exact t_283 | exact t_278 | exact t_281 | exact t_276 | exact t_274 | exact t_275 | exact t_277 | exact t_279 | exact t_280 | exact t_282 | exact t_284 | exact t_286 | exact t_287 | exact t_288 | exact t_289 | exact t_290 | exact t_291 | exact t_292 | exact t_293 | exact t_294 | exact t_295 | exact t_296 | exact t_297 | exact t_298 | exact t_299 | exact t_300) only [z_M_length_29, z_M_length_31, z_M_length_34, z_M_length_35, z_M_length_38, z_M_length_39, z_M_length_42, z_M_length_45, z_M_length_46, z_M_length_47, z_M_length_48, z_M_length_49, z_M_length_52, z_M_length_55, z_M_length_58, z_M_length_61, z_M_length_62, false_and, and_false, if_true, if_false, Decidable.not_not, sd_ci, sd_cr, sd_cl9, sd_cu, sd_cat0, sd_cat1, sd_rfS, sd_n01, sd_n11, sd_n1, sd_n10, sd_n00, sd_b01, sd_b0, true_and, and_true, and_self, not_true_eq_false, not_false_eq_true, false_implies, true_implies, implies_true, or_true, true_or, or_false, false_or, Option.toList_some, Option.toList_none, List.cons_append, List.nil_append, Nat.reduceAdd, Nat.reduceLeDiff, nz_sub, nz_lt0, nz_ge0, nz_le0, nz_gt0, nz_eq0, nz_eq1, nz_lt, nz_le, nz_eq, nz_cl, nz_in, nz_add, nz_mul, nz_m1, nz_m1', Nat.reduceMul, Nat.reduceSub, Nat.reduceLT, Nat.reduceEqDiff, not_false_eq_true, false_implies, true_implies, true_and, and_true, h_271, t_272, n_272, t_273, n_273, t_274, n_274, t_275, n_275, t_276, n_276, t_277, n_277, t_278, n_278, t_279, n_279, t_280, n_280, t_281, n_281, t_282, n_282, t_283, n_283, t_284, n_284, t_285, n_285, t_286, n_286, t_287, n_287, t_288, n_288, t_289, n_289, t_290, n_290, t_291, n_291, t_292, n_292, t_293, n_293, t_294, n_294, t_295, n_295, t_296, n_296, t_297, n_297, t_298, n_298, t_299, n_299, t_300, n_300, t_301, n_301, r_271_1, r_271_2, r_271_3, r_271_4, r_271_15, r_271_16, r_271_18, r_271_19, r_271_20, r_271_21, r_271_22, r_271_23, r_271_24, r_271_25, r_271_26, r_271_34, r_271_35, r_271_38, r_271_39, r_271_40, r_271_42, r_271_45, r_271_46, r_271_47, r_271_48, r_271_49, r_271_50, r_271_53, r_271_54, r_271_55, r_271_57]
    ((repeat' first | (refine And.intro ?_ ?_) | (intro _)) <;> first | omega | exact hq)
  | succ n ih =>
    intro i σ' hi ⟨i1, i2, i3, i4⟩
    have hok := sw_ly_OK (A := A) hW hd i (by omega)
    have h5 := sw_ly_5 (A := A) (W := W) i
    have hV : sd_VM σ' 286 (sw_ly A W i 0 0 0) (sw_ly A W i 1) := ⟨rfl, rfl, i4.1, hok.2.2.2.2.1, i4.2.1, hok.2.2.2.2.2.2⟩
    have cf := fun (d : Nat) Q => c_M_isBound (L := L) (xs := xs) (fm := fm) (d := d + 7) (σ := σ') (Q := Q) hV hp
    rw [← sw_le_y] at cf
    by_cases hf : sd_terms (sw_lx A W i 0 0 0) (sw_lx A W i 1) p = 0
    · refine ⟨σ', i1, i2, i3, fun d Q hq => ?_⟩
      rw [sw_le_s, if_pos hf] at hq
      have cf := cf d
      rw [z_M_length_28]
      simp (disch := first | exact sd_cr | exact sd_ci | exact sd_cu | exact sd_cl9 | assumption | omega | exact t_285 | exact t_283 | exact t_278 | exact t_281 | exact t_276 | exact t_274 | exact t_275 | exact t_277 | exact t_279 | exact t_280 | exact t_282 | exact t_284 | exact t_286 | exact t_287 | exact t_288 | exact t_289 | exact t_290 | exact t_291 | exact t_292 | exact t_293 | exact t_294 | exact t_295 | exact t_296 | exact t_297 | exact t_298 | exact t_299 | exact t_300) only [z_M_length_29, z_M_length_31, z_M_length_34, z_M_length_35, z_M_length_38, z_M_length_39, z_M_length_42, z_M_length_45, z_M_length_46, z_M_length_47, z_M_length_48, z_M_length_49, z_M_length_52, z_M_length_55, z_M_length_58, false_and, and_false, if_true, if_false, Decidable.not_not, sd_ci, sd_cr, sd_cl9, sd_cu, sd_cat0, sd_cat1, sd_rfS, sd_n01, sd_n11, sd_n1, sd_n10, sd_n00, sd_b01, sd_b0, true_and, and_true, and_self, not_true_eq_false, not_false_eq_true, false_implies, true_implies, implies_true, or_true, true_or, or_false, false_or, Option.toList_some, Option.toList_none, List.cons_append, List.nil_append, Nat.reduceAdd, Nat.reduceLeDiff, nz_sub, nz_lt0, nz_ge0, nz_le0, nz_gt0, nz_eq0, nz_eq1, nz_lt, nz_le, nz_eq, nz_cl, nz_in, nz_add, nz_mul, nz_m1, nz_m1', Nat.reduceMul, Nat.reduceSub, Nat.reduceLT, Nat.reduceEqDiff, not_false_eq_true, false_implies, true_implies, true_and, and_true, h_271, t_272, n_272, t_273, n_273, t_274, n_274, t_275, n_275, t_276, n_276, t_277, n_277, t_278, n_278, t_279, n_279, t_280, n_280, t_281, n_281, t_282, n_282, t_283, n_283, t_284, n_284, t_285, n_285, t_286, n_286, t_287, n_287, t_288, n_288, t_289, n_289, t_290, n_290, t_291, n_291, t_292, n_292, t_293, n_293, t_294, n_294, t_295, n_295, t_296, n_296, t_297, n_297, t_298, n_298, t_299, n_299, t_300, n_300, t_301, n_301, r_271_1, r_271_2, r_271_3, r_271_4, r_271_15, r_271_16, r_271_18, r_271_19, r_271_20, r_271_21, r_271_22, r_271_23, r_271_24, r_271_25, r_271_26, r_271_34, r_271_35, r_271_38, r_271_39, r_271_40, r_271_42, r_271_45, r_271_46, r_271_47, r_271_48, r_271_49, r_271_50, r_271_53, r_271_54, r_271_55, r_271_57, cf, hf]
      ((repeat' first | (refine And.intro ?_ ?_) | (intro _)) <;> first | omega | exact hq)
    · have hY : sw_Y σ' A := (hm.same (sw_same_M i1 i2 i3)).1.1
      obtain ⟨σ4, g1, g2, g3, g4, g5⟩ := c_M_goDay (L := L) (xs := xs) (fm := fm) (c := 286) (Or.inr rfl) hY hA i4 hok (by omega)
      obtain ⟨σ2, j1, j2, j3, j4⟩ := ih (i + 1) σ4 (by omega) ⟨fun e he h7 => by rw [g3 e (by omega) h7 (by omega) (by omega) (by omega), i1 e he h7], fun j a b => by rw [g4 j b, i2 j a b], by rw [g5, i3], by rw [sw_ly_s]; exact g2⟩
      refine ⟨σ2, j1, j2, j3, fun d Q hq => ?_⟩
      rw [sw_le_s, if_neg hf] at hq
      have jj := j4 d Q hq
      have cf := cf d
      have g1' := fun Q => g1 (d + 2) Q
      rw [z_M_length_28]
      simp (disch := first | exact sd_cr | exact sd_ci | exact sd_cu | exact sd_cl9 | assumption | omega | exact t_285 | exact t_283 | exact t_278 | exact t_281 | exact t_276 | exact t_274 | exact t_275 | exact t_277 | exact t_279 | exact t_280 | exact t_282 | exact t_284 | exact t_286 | exact t_287 | exact t_288 | exact t_289 | exact t_290 | exact t_291 | exact t_292 | exact t_293 | exact t_294 | exact t_295 | exact t_296 | exact t_297 | exact t_298 | exact t_299 | exact t_300) only [z_M_length_29, z_M_length_31, z_M_length_34, z_M_length_35, z_M_length_38, z_M_length_39, z_M_length_42, z_M_length_45, z_M_length_46, z_M_length_47, z_M_length_48, z_M_length_49, z_M_length_52, z_M_length_55, z_M_length_58, false_and, and_false, if_true, if_false, Decidable.not_not, sd_ci, sd_cr, sd_cl9, sd_cu, sd_cat0, sd_cat1, sd_rfS, sd_n01, sd_n11, sd_n1, sd_n10, sd_n00, sd_b01, sd_b0, true_and, and_true, and_self, not_true_eq_false, not_false_eq_true, false_implies, true_implies, implies_true, or_true, true_or, or_false, false_or, Option.toList_some, Option.toList_none, List.cons_append, List.nil_append, Nat.reduceAdd, Nat.reduceLeDiff, nz_sub, nz_lt0, nz_ge0, nz_le0, nz_gt0, nz_eq0, nz_eq1, nz_lt, nz_le, nz_eq, nz_cl, nz_in, nz_add, nz_mul, nz_m1, nz_m1', Nat.reduceMul, Nat.reduceSub, Nat.reduceLT, Nat.reduceEqDiff, not_false_eq_true, false_implies, true_implies, true_and, and_true, h_271, t_272, n_272, t_273, n_273, t_274, n_274, t_275, n_275, t_276, n_276, t_277, n_277, t_278, n_278, t_279, n_279, t_280, n_280, t_281, n_281, t_282, n_282, t_283, n_283, t_284, n_284, t_285, n_285, t_286, n_286, t_287, n_287, t_288, n_288, t_289, n_289, t_290, n_290, t_291, n_291, t_292, n_292, t_293, n_293, t_294, n_294, t_295, n_295, t_296, n_296, t_297, n_297, t_298, n_298, t_299, n_299, t_300, n_300, t_301, n_301, r_271_1, r_271_2, r_271_3, r_271_4, r_271_15, r_271_16, r_271_18, r_271_19, r_271_20, r_271_21, r_271_22, r_271_23, r_271_24, r_271_25, r_271_26, r_271_34, r_271_35, r_271_38, r_271_39, r_271_40, r_271_42, r_271_45, r_271_46, r_271_47, r_271_48, r_271_49, r_271_50, r_271_53, r_271_54, r_271_55, r_271_57, cf, hf, g1']
      ((repeat' first | (refine And.intro ?_ ?_) | (intro _)) <;> first | omega | exact jj)
theorem a_length (hp : sw_pI B A W T V im I) (hB : B ≤ 100000) (x : Int32) : sw_act L xs fm 9 y_X_length y_M_length [.int x] A W T V im I A W T V im I := by
  by_cases hno : ∃ n : Nat, x = nI n ∧ n < A 0 0 0
  case neg => exact (q_length_no x hno).act
  obtain ⟨p, rfl, hpp⟩ := hno
  have hA := hp.1
  have hW := hp.2.1
  have hP5 := hA.2.1
  have hd := hp.2.2.2.2.2.1
  refine ⟨sd_o (sw_le A W p 100 0), fun σ c hs => ?_, fun σ hm => ?_⟩
  · have h := hs.1
    have hcc := h.2.1.2.2.2.2.2.2.2.2.2.2.2
    obtain ⟨e1, e2, e3, e4, e5, e6, e7, e8⟩ := sw_cp_all (σ := σ) (k := 247) (o := c + 5) (by omega)
    have hS1 := sw_cp_S (σ := σ) (k := 247) (o := c + 5) (by omega) h.2.2.2.2.1 hW
    obtain ⟨σ2, j1, j2, j3⟩ := c_X_length_loop (L := L) (xs := xs) (fm := fm) (σ := σ) (p := p) h.2.2.1 h.2.1 h.1 hA hW (by omega) 99 0 (sw_cpA (sw_cp σ 247 (c + 5)) 254 248 60) (by omega) ⟨fun e he => by rw [cpA_2 (by omega), e7 e (by omega)], e8, hS1.fr (fun j hj => cpA_2 (by omega)), fun j hj => by rw [cpA_1 hj, cpA_2 (by decide)]⟩
    have hsm := sw_same_X j1 j2
    refine ⟨σ2, hs.same hsm, hsm.aX (fun k hk => j1 k (by omega)), fun d Q => ?_⟩
    have cc := fun Q => c_State_copyFrom (L := L) (xs := xs) (fm := fm) (d := d + 7) (σ := σ) (Q := Q) sd_S247 h.2.1.2.2.2.2.2.2.2.2.2.2.1
    have cs := fun Q => c_Judge_setRows (L := L) (xs := xs) (fm := fm) (d := d + 7) (σ := sw_cp σ 247 (c + 5)) (Q := Q) sd_S247
    refine sd_Call.iff (fun Q hq => ?_) Q
    obtain ⟨hc, hC, ⟨a1, a2, a3, a4, a5, a6⟩, ⟨b1, b2, b3, b4, b5, b6, b7⟩, hS, hA, hW⟩ := id h
    obtain ⟨k0, k1, k2, k3, k4, k5, k6, k7, k8, r0, r1, r2, r3, r4, k9⟩ := hC.all (L := L) (xs := xs) (fm := fm)
    obtain ⟨⟨w1, w2, w3, w4⟩, w5, w6⟩ := id hS
    obtain ⟨s0, s1, s2, s3, s4, s5, s6, s7, s8, sr0, sr1, sr2, sr3⟩ := k9.all (L := L) (xs := xs) (fm := fm)
    simp only [Nat.add_assoc, Nat.reduceAdd] at s1 s2 s3 s4 s5 s6 s7 s8 sr0 sr1 sr2 sr3 w3 w5
    obtain ⟨bA, bP, bE, bw, bj, bh, be, bT, btz, btf, bS, bs2, btp⟩ := id hA
    obtain ⟨bP2, bW, bz, bf, bs, bv, bu⟩ := id hW
    rw [sd_Call.start (ls := [.ref 0, .int (nI p), sd_un]) m_X_length (by decide) (Nat.le_of_ble_eq_true rfl) rfl]
    simp (disch := first | exact sd_cr | exact sd_ci | exact sd_cu | exact sd_cl9 | assumption | omega | (apply nz_m; apply bA) | (apply nz_k; apply bA) | (apply nz_m; apply bW) | (apply nz_k; apply bW) | (apply nz_m; apply w4) | (apply nz_k; apply w4) | exact t_259 | exact t_260 | exact t_261 | exact t_262 | exact t_263 | exact t_264 | exact t_254 | exact t_255 | exact t_256 | exact t_257 | exact t_266 | exact t_267 | exact t_268 | exact t_269 | exact t_270 | exact t_252 | exact t_240 | exact t_246 | exact t_2 | exact t_4 | exact t_5 | exact t_13 | exact t_14 | exact t_15 | exact t_16 | exact Or.inl t_39 | exact Or.inr t_7) only [z_X_length_0, z_X_length_1, z_X_length_2, z_X_length_5, z_X_length_8, z_X_length_9, z_X_length_10, z_X_length_11, z_X_length_14, z_X_length_15, z_X_length_18, z_X_length_21, z_X_length_24, z_X_length_25, z_X_length_28, z_X_length_29, z_X_length_32, z_X_length_35, z_X_length_36, false_and, and_false, if_true, if_false, Decidable.not_not, sd_ci, sd_cr, sd_cl9, sd_cu, sd_cat0, sd_cat1, sd_rfS, sd_n01, sd_n11, sd_n1, sd_n10, sd_n00, sd_b01, sd_b0, true_and, and_true, and_self, not_true_eq_false, not_false_eq_true, false_implies, true_implies, implies_true, or_true, true_or, or_false, false_or, Option.toList_some, Option.toList_none, List.cons_append, List.nil_append, Nat.reduceAdd, Nat.reduceLeDiff, nz_sub, nz_lt0, nz_ge0, nz_le0, nz_gt0, nz_eq0, nz_eq1, nz_lt, nz_le, nz_eq, nz_cl, nz_in, nz_add, nz_mul, nz_m1, nz_m1', Nat.reduceMul, Nat.reduceSub, Nat.reduceLT, Nat.reduceEqDiff, not_false_eq_true, false_implies, true_implies, true_and, and_true, h_0, h_1, t_2, n_2, h_3, t_4, n_4, t_5, n_5, h_6, t_7, n_7, t_8, n_8, t_9, n_9, t_10, n_10, t_11, n_11, t_12, n_12, t_13, n_13, t_14, n_14, t_15, n_15, t_16, n_16, h_17, h_18, t_19, n_19, t_20, n_20, t_21, n_21, t_22, n_22, h_28, t_29, n_29, t_30, n_30, t_31, n_31, t_32, n_32, h_38, t_39, n_39, t_240, n_240, t_246, n_246, t_252, n_252, h_253, t_254, n_254, t_255, n_255, t_256, n_256, t_257, n_257, h_258, t_259, n_259, t_260, n_260, t_261, n_261, t_262, n_262, t_263, n_263, t_264, n_264, h_265, t_266, n_266, t_267, n_267, t_268, n_268, t_269, n_269, t_270, n_270, r_0_0, r_0_1, r_0_2, r_0_3, r_0_6, r_0_7, r_0_8, r_0_9, r_0_11, r_0_12, r_0_13, r_0_14, r_0_15, r_1_0, r_3_0, r_3_1, r_3_2, r_6_0, r_6_1, r_6_4, r_6_5, r_6_7, r_7_0, r_7_1, r_7_2, r_7_3, r_7_4, r_17_0, r_17_1, r_18_1, r_18_2, r_18_3, r_18_4, r_18_6, r_28_1, r_28_2, r_28_3, r_28_4, r_28_6, r_38_0, r_253_0, r_253_1, r_253_2, r_253_3, r_258_0, r_258_1, r_258_3, r_258_4, r_258_6, r_258_8, r_265_0, r_265_1, r_265_3, r_265_4, r_265_5, r_0_4, r_0_5, hc, k0, k1, k2, k3, k4, k5, k6, k7, k8, r0, r1, r2, r3, r4, s0, s1, s2, s3, s4, s5, s6, s7, s8, sr0, sr1, sr2, sr3, a1, a2, a3, a4, a5, a6, b1, b2, b3, b4, b5, b6, b7, w1, w3, w5, w6, c_X_isPerson h, hpp, cc, cs]
    ((repeat' first | (refine And.intro ?_ ?_) | (intro _)) <;> try omega)
    exact j3 d Q hq
  · have hm0 := hm.w (v := nI 0)
    have bA := hA.1
    have z286 : sw_Mf ((sd_wA (sd_wI σ 271 0 (nI 0)) 286 (fun j => if j < 385 then (sd_wI σ 271 0 (nI 0)).1 285 j else (sd_wI σ 271 0 (nI 0)).1 286 j)).1 286) (A 0 0 0) W := by
      refine hm.2.1.eq hW (fun i hi => ?_)
      rw [wA_k]
      dsimp only
      rw [if_pos hi, wI_c (by decide)]
    obtain ⟨σ2, j1, j2, j3, j4⟩ := c_M_length_loop (L := L) (xs := xs) (fm := fm) (σ := σ) (p := p) hm hA hW (by omega) (by omega) 100 0 (sd_wA (sd_wI σ 271 0 (nI 0)) 286 (fun j => if j < 385 then (sd_wI σ 271 0 (nI 0)).1 285 j else (sd_wI σ 271 0 (nI 0)).1 286 j)) (by omega) ⟨fun e he h7 => funext fun j => by rw [wA_1, if_neg (by omega), wI_c h7], fun j a b => by rw [wA_1, if_neg (by decide), wI_o a], rfl, z286⟩
    have hsm := sw_same_M j1 j2 j3
    refine ⟨σ2, hm.same hsm, hsm.aM (fun k hk => j1 k (by omega) (by omega)), fun d Q => ?_⟩
    refine sd_Call.iff (fun Q hq => ?_) Q
    have cc := fun Q => c_M_copy (L := L) (xs := xs) (fm := fm) (d := d + 7) (σ := sd_wI σ 271 0 (nI 0)) (Q := Q) (a := 285) (b := 286) ⟨rfl, rfl⟩ ⟨rfl, rfl⟩ (by decide)
    have h0 := hm0.1
    rw [sd_Call.start (ls := [.ref 271, .int (nI p), sd_un]) m_M_length (by decide) (Nat.le_of_ble_eq_true rfl) rfl]
    simp (disch := first | exact sd_cr | exact sd_ci | exact sd_cu | exact sd_cl9 | assumption | omega | (apply nz_m; apply bA) | (apply nz_k; apply bA) | exact t_285 | exact t_283 | exact t_278 | exact t_281 | exact t_276 | exact t_274 | exact t_275 | exact t_277 | exact t_279 | exact t_280 | exact t_282 | exact t_284 | exact t_286 | exact t_287 | exact t_288 | exact t_289 | exact t_290 | exact t_291 | exact t_292 | exact t_293 | exact t_294 | exact t_295 | exact t_296 | exact t_297 | exact t_298 | exact t_299 | exact t_300) only [z_M_length_0, z_M_length_1, z_M_length_2, z_M_length_5, z_M_length_6, z_M_length_7, z_M_length_10, z_M_length_13, z_M_length_14, z_M_length_15, z_M_length_16, z_M_length_19, z_M_length_20, z_M_length_23, z_M_length_26, z_M_length_27, false_and, and_false, if_true, if_false, Decidable.not_not, sd_ci, sd_cr, sd_cl9, sd_cu, sd_cat0, sd_cat1, sd_rfS, sd_n01, sd_n11, sd_n1, sd_n10, sd_n00, sd_b01, sd_b0, true_and, and_true, and_self, not_true_eq_false, not_false_eq_true, false_implies, true_implies, implies_true, or_true, true_or, or_false, false_or, Option.toList_some, Option.toList_none, List.cons_append, List.nil_append, Nat.reduceAdd, Nat.reduceLeDiff, nz_sub, nz_lt0, nz_ge0, nz_le0, nz_gt0, nz_eq0, nz_eq1, nz_lt, nz_le, nz_eq, nz_cl, nz_in, nz_add, nz_mul, nz_m1, nz_m1', Nat.reduceMul, Nat.reduceSub, Nat.reduceLT, Nat.reduceEqDiff, not_false_eq_true, false_implies, true_implies, true_and, and_true, h_271, t_272, n_272, t_273, n_273, t_274, n_274, t_275, n_275, t_276, n_276, t_277, n_277, t_278, n_278, t_279, n_279, t_280, n_280, t_281, n_281, t_282, n_282, t_283, n_283, t_284, n_284, t_285, n_285, t_286, n_286, t_287, n_287, t_288, n_288, t_289, n_289, t_290, n_290, t_291, n_291, t_292, n_292, t_293, n_293, t_294, n_294, t_295, n_295, t_296, n_296, t_297, n_297, t_298, n_298, t_299, n_299, t_300, n_300, t_301, n_301, r_271_1, r_271_2, r_271_3, r_271_4, r_271_15, r_271_16, r_271_18, r_271_19, r_271_20, r_271_21, r_271_22, r_271_23, r_271_24, r_271_25, r_271_26, r_271_34, r_271_35, r_271_38, r_271_39, r_271_40, r_271_42, r_271_45, r_271_46, r_271_47, r_271_48, r_271_49, r_271_50, r_271_53, r_271_54, r_271_55, r_271_57, c_M_isPerson h0, hpp, cc]
    ((repeat' first | (refine And.intro ?_ ?_) | (intro _)) <;> try omega)
    exact j4 d Q hq
end SD87
