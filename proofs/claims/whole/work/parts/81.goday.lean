/-! the reference goes through a day, whole -/
section SD81
variable {L : Nat} {xs : Nat → Int32} {fm : Option Nat} {A D : sw_T} {σ : sd_Mem} {c d P : Nat} {Q : Option Value → sd_Mem → Prop}
theorem sw_nx_o {W : sw_T} {a b c : Nat} (h : a ≠ 5) (h6 : a ≠ 6) : sw_nx A D W a b c = sw_day A D W a b c := (if_neg (by omega)).trans (if_neg h6)
theorem sw_nx_5 {W : sw_T} : sw_nx A D W 5 0 0 = W 5 0 0 + 1 := if_pos ⟨rfl, rfl, rfl⟩
theorem sw_nx_60 {W : sw_T} {j : Nat} : sw_nx A D W 6 0 j = sw_day A D W 7 j 0 := (if_neg (by omega)).trans ((if_pos rfl).trans (if_pos rfl))
theorem sw_nx_6s {W : sw_T} {i j : Nat} : sw_nx A D W 6 (i + 1) j = W 6 i j := (if_neg (by omega)).trans ((if_pos rfl).trans (if_neg (by omega)))
theorem sw_day_o {W : sw_T} {a b c : Nat} (h : ¬ (a = 1 ∧ c = 5) ∧ ¬ (a = 3 ∧ c = 0) ∧ a ≠ 7) : sw_day A D W a b c = W a b c := by
  unfold sw_day
  rw [sw_dn_o (by omega), sw_z7_o h.2.2]
theorem sw_day_OK {W : sw_T} (hW : sw_OK P W) (hDW : sw_DW D W) : sw_OK P (sw_day A D W) := sw_dn_OK (sw_z7_OK hW) (fun b => if_pos rfl) (fun v hv => by rw [hDW.2]; exact (hW.2.2.2.2.2.1 v hv).1) (W 0 0 0) (Nat.le_refl _)
theorem sw_nx_OK {W : sw_T} (hW : sw_OK P W) (hDW : sw_DW D W) (hd : W 5 0 0 < 900000) : sw_OK P (sw_nx A D W) := by
  have h := sw_day_OK (A := A) hW hDW
  obtain ⟨bP2, bW, bz, bf, bs, bv, bu⟩ := h
  refine ⟨bP2, fun a b c => ?_, fun p hp => ?_, fun p i => ?_, ?_, fun v hv => ?_, fun v j => ?_⟩
  · unfold sw_nx
    split
    · omega
    · split
      · split
        · exact bW _ _ _
        · exact hW.2.1 _ _ _
      · exact bW a b c
  · rw [sw_nx_o (by omega) (by omega), sw_nx_o (by omega) (by omega)]; exact bz p hp
  · rw [sw_nx_o (by omega) (by omega)]; exact bf p i
  · rw [sw_nx_o (by omega) (by omega)]; exact bs
  · rw [sw_nx_o (by omega) (by omega)] at hv ⊢
    rw [sw_nx_o (by omega) (by omega), sw_nx_o (by omega) (by omega), sw_nx_o (by omega) (by omega), sw_nx_o (by omega) (by omega), sw_nx_o (by omega) (by omega)]
    exact bv v hv
  · rw [sw_nx_o (by omega) (by omega)]; exact bu v j
theorem c_M_goDay (hc : c = 285 ∨ c = 286) (hY : sw_Y σ A) (hA : sw_AK A) (hM : sw_Mf (σ.1 c) P D) (hD : sw_OK P D) (hd9 : D 5 0 0 < 900000) : ∃ σ', (∀ (d : Nat) Q, sd_Call (sd_E1 L xs fm) (d + 6) y_M_goDay [.ref 271, .ref c] σ Q ↔ Q none σ') ∧ sw_Mf (σ'.1 c) P (sw_nx A D D) ∧ (∀ e, e ≠ c → e ≠ 271 → e ≠ 287 → e ≠ 288 → e ≠ 289 → σ'.1 e = σ.1 e) ∧ (∀ j, j ≠ 41 → σ'.1 271 j = σ.1 271 j) ∧ σ'.2 = σ.2 := by
  have ht : sd_tg c = 0 ∧ sd_ln c = 385 := by rcases hc with rfl | rfl <;> exact ⟨rfl, rfl⟩
  have hMM : sw_M σ c P D := by
    obtain ⟨h1, h2, h3, h4, h5, h6⟩ := hM
    exact ⟨⟨ht.1, ht.2, h1, hD.2.2.2.2.1, h2, hD.2.2.2.2.2.2⟩, h3, h4⟩
  have hs12 := hD.2.2.2.2.1
  have hP5 := hD.1
  obtain ⟨σ1, l1, l2, l3, l4, l5, l6⟩ := c_M_layFates (L := L) (xs := xs) (fm := fm) hc hMM hD
  have ec : σ1.1 c = σ.1 c := l4 c (by omega) (by omega) (by omega) (by omega)
  obtain ⟨n, σ2, ⟨n1, n2, n3, n4, n5, n6, n7⟩, hgo1⟩ := l_M_goDay1 (L := L) (xs := xs) (fm := fm) (σ := σ1) (D := D) (P := P) hc (by rw [ec]; exact hM) ht
  obtain ⟨t1, t2⟩ := ht
  -- the entry is zero, the log one longer
  have e0 : (sd_fold (fun i f => fun j => if j = 145 + 4 * n + i then nI 0 else f j) 4 0 (σ2.1 c)) = fun j => if 145 + 4 * n ≤ j ∧ j < 145 + 4 * n + 4 then nI 0 else σ2.1 c j := funext fun j => by
    rw [sw_fill (h := fun _ => nI 0)]; rfl
  have hDW : sw_DW D D := ⟨rfl, fun _ _ => rfl⟩
  have h7 : ∀ b, sw_z7 D 7 b 0 = 0 := fun b => if_pos rfl
  have e00 : ∀ m, sw_dn A D (sw_z7 D) m 0 0 0 = D 0 0 0 := fun m => sw_dn_o (by omega) m
  have hdP : ∀ v, v < sw_z7 D 0 0 0 → D 1 v 0 < P := fun v hv => (hD.2.2.2.2.2.1 v hv).1
  have hOK := sw_dn_OK (A := A) (D := D) (sw_z7_OK hD) h7 hdP
  have hz7 := fun b m => sw_dn_7 (A := A) (D := D) h7 b m
  have k271 : c ≠ 271 := by omega
  -- σ3: before the dues
  have hσ3 : ∃ σ3, σ3 = sd_wI (sd_wA σ2 c (fun j => if 145 + 4 * n ≤ j ∧ j < 145 + 4 * n + 4 then nI 0 else σ2.1 c j)) c 144 (nI (n + 1)) := ⟨_, rfl⟩
  obtain ⟨σ3, hσ3⟩ := hσ3
  have s1 : ∀ e, e < 144 → σ3.1 c e = σ.1 c e := fun e he => by rw [hσ3, wI_o (by omega), wA_k, if_neg (by omega), n3 e he, ec]
  have s2 : ∀ j, j < 4 → σ3.1 c (145 + 4 * n + j) = nI 0 := fun j hj => by rw [hσ3, wI_o (by omega), wA_k, if_pos (by omega)]
  have s3 : ∀ e, e ≠ c → σ3.1 e = σ1.1 e := fun e he => by rw [hσ3, wI_c he, wA_c he, n6 e he]
  have s4 : σ3.1 c 144 = nI (n + 1) := by rw [hσ3, wI_k]
  have s5 : ∀ i, i < n → ∀ j, j < 4 → σ3.1 c (145 + 4 * (n - 1 - i) + j) = nI (D 6 i j) := fun i hi j hj => by
    rw [hσ3, wI_o (by omega), wA_k, if_neg (by omega)]; exact n5 i hi j hj
  have s6 : σ3.2 = σ1.2 := by rw [hσ3]; exact n7
  have hM3 : sw_M σ3 c P (sw_z7 D) := by
    obtain ⟨h1, h2, h3, h4, h5, h6⟩ := hM
    refine ⟨⟨t1, t2, (s1 142 (by decide)).trans h1, hs12, fun v hv j hj => (s1 _ ?_).trans (h2 v hv j hj), hD.2.2.2.2.2.2⟩, fun p hp => ?_, (s1 143 (by decide)).trans h4⟩
    · have hv : v < D 0 0 0 := hv
      omega
    · have hz := hD.2.2.1 p hp
      obtain ⟨q1, q2, q3⟩ := h3 p hp
      refine ⟨(s1 _ (by omega)).trans q1, (s1 _ (by omega)).trans q2, fun i hi => (s1 _ ?_).trans (q3 i hi)⟩
      have hi : i < D 2 p 0 := hi
      omega
  obtain ⟨σ4, ⟨g1, g2, g3, g4⟩, g5⟩ := sd_loopM (β := Nat × (Option Value → sd_Mem → Prop)) (fun i σ' => sw_M σ' c P (sw_dn A D (sw_z7 D) i) ∧ sw_tl σ' c (145 + 4 * n) (σ3.1 c) (sw_dn A D (sw_z7 D) i) ∧ (∀ e, e ≠ c → σ'.1 e = σ3.1 e) ∧ σ'.2 = σ3.2) (fun b i σ' => sd_Go (sd_E1 L xs fm) (b.1 + 5) y_M_goDay 97 [.ref 271, .ref c, .int (nI (145 + 4 * n)), .int (nI i)] [] σ' b.2) (D 0 0 0) (by
    intro i σ' hi ⟨j1, j2, j3, j4⟩
    have hOKi := hOK i (by show i ≤ D 0 0 0; omega)
    have hDXi := hDW.dn (A := A) i
    have e5 : sw_dn A D (sw_z7 D) i 1 i 5 = D 1 i 5 := sw_dn_5 i (Nat.le_refl _)
    rw [sw_dn_s]
    have hts := fun b => hz7 b i
    generalize hXX : sw_dn A D (sw_z7 D) i = X at j1 j2 hOKi hDXi e5 hts
    have x00 : X 0 0 0 = D 0 0 0 := by rw [← hXX]; exact e00 i
    have hiX : i < X 0 0 0 := by rw [x00]; exact hi
    obtain ⟨⟨_, _, w1, w2, w3, w4⟩, w5, w6⟩ := id j1
    rw [x00] at w1
    have c1 := fun d Q => c_M_isForce (L := L) (xs := xs) (fm := fm) (d := d) (Q := Q) j1.1 (show i < 2147483648 by omega)
    by_cases hfo : 0 < X 1 i 5
    · have hfD : 0 < D 1 i 5 := by rw [← e5]; exact hfo
      have hY' : sw_Y σ' A := by
        unfold sw_Y at hY ⊢
        rw [j3 271 (by omega), j3 276 (by omega), j3 278 (by omega), j3 281 (by omega), s3 271 (by omega), s3 276 (by omega), s3 278 (by omega), s3 281 (by omega), l5 27 (by decide), l5 28 (by decide), l4 276 (by decide) (by decide) (by decide) (by decide), l4 278 (by decide) (by decide) (by decide) (by decide), l4 281 (by decide) (by decide) (by decide) (by decide)]
        exact hY
      have hFP' : sw_FP σ' 287 288 D := by
        unfold sw_FP
        rw [j3 287 (by omega), j3 288 (by omega), s3 287 (by omega), s3 288 (by omega)]
        exact ⟨l2, l3⟩
      obtain ⟨σ5, p1, p2, p3, p4, p5⟩ := c_M_dues (L := L) (xs := xs) (fm := fm) hc hY' hA j1 hOKi hD hDXi hFP' hiX hfo hfD (lb := 145 + 4 * n) (by omega) j2 (fun b => by have := hts b; omega)
      refine ⟨σ5, ⟨p2, p3, fun e he => by rw [p4 e he, j3 e he], p5.trans j4⟩, fun b hb => ?_⟩
      have p1' := fun Q => p1 (b.1 + 3) Q
      rw [z_M_goDay_97]
      simp (disch := first | exact sd_cr | exact sd_ci | exact sd_cu | exact sd_cl9 | assumption | omega | (apply nz_m; apply w4) | (apply nz_k; apply w4) | exact t_285 | exact t_283 | exact t_278 | exact t_281 | exact t_276 | exact t_274 | exact t_275 | exact t_277 | exact t_279 | exact t_280 | exact t_282 | exact t_284 | exact t_286 | exact t_287 | exact t_288 | exact t_289 | exact t_290 | exact t_291 | exact t_292 | exact t_293 | exact t_294 | exact t_295 | exact t_296 | exact t_297 | exact t_298 | exact t_299 | exact t_300) only [z_M_goDay_98, z_M_goDay_99, z_M_goDay_102, z_M_goDay_103, z_M_goDay_106, z_M_goDay_107, z_M_goDay_108, z_M_goDay_109, z_M_goDay_112, z_M_goDay_115, z_M_goDay_118, z_M_goDay_119, z_M_goDay_120, z_M_goDay_121, z_M_goDay_122, z_M_goDay_125, z_M_goDay_128, false_and, and_false, if_true, if_false, Decidable.not_not, sd_ci, sd_cr, sd_cl9, sd_cu, sd_cat0, sd_cat1, sd_rfS, sd_n01, sd_n11, sd_n1, sd_n10, sd_n00, sd_b01, sd_b0, true_and, and_true, and_self, not_true_eq_false, not_false_eq_true, false_implies, true_implies, implies_true, or_true, true_or, or_false, false_or, Option.toList_some, Option.toList_none, List.cons_append, List.nil_append, Nat.reduceAdd, Nat.reduceLeDiff, nz_sub, nz_lt0, nz_ge0, nz_le0, nz_gt0, nz_eq0, nz_eq1, nz_lt, nz_le, nz_eq, nz_cl, nz_in, nz_add, nz_mul, nz_m1, nz_m1', Nat.reduceMul, Nat.reduceSub, Nat.reduceLT, Nat.reduceEqDiff, not_false_eq_true, false_implies, true_implies, true_and, and_true, h_271, t_272, n_272, t_273, n_273, t_274, n_274, t_275, n_275, t_276, n_276, t_277, n_277, t_278, n_278, t_279, n_279, t_280, n_280, t_281, n_281, t_282, n_282, t_283, n_283, t_284, n_284, t_285, n_285, t_286, n_286, t_287, n_287, t_288, n_288, t_289, n_289, t_290, n_290, t_291, n_291, t_292, n_292, t_293, n_293, t_294, n_294, t_295, n_295, t_296, n_296, t_297, n_297, t_298, n_298, t_299, n_299, t_300, n_300, t_301, n_301, r_271_1, r_271_2, r_271_3, r_271_4, r_271_15, r_271_16, r_271_18, r_271_19, r_271_20, r_271_21, r_271_22, r_271_23, r_271_24, r_271_25, r_271_26, r_271_34, r_271_35, r_271_38, r_271_39, r_271_40, r_271_42, r_271_45, r_271_46, r_271_47, r_271_48, r_271_49, r_271_50, r_271_53, r_271_54, r_271_55, r_271_57, t1, t2, w1, c1, hiX, hfo, p1']
      ((repeat' first | (refine And.intro ?_ ?_) | (intro _)) <;> first | omega | exact hb)
    · have e : sw_due A D i X = X := by unfold sw_due; rw [if_pos hfo]
      rw [e]
      refine ⟨σ', ⟨j1, j2, j3, j4⟩, fun b hb => ?_⟩
      rw [z_M_goDay_97]
      simp (disch := first | exact sd_cr | exact sd_ci | exact sd_cu | exact sd_cl9 | assumption | omega | (apply nz_m; apply w4) | (apply nz_k; apply w4) | exact t_285 | exact t_283 | exact t_278 | exact t_281 | exact t_276 | exact t_274 | exact t_275 | exact t_277 | exact t_279 | exact t_280 | exact t_282 | exact t_284 | exact t_286 | exact t_287 | exact t_288 | exact t_289 | exact t_290 | exact t_291 | exact t_292 | exact t_293 | exact t_294 | exact t_295 | exact t_296 | exact t_297 | exact t_298 | exact t_299 | exact t_300) only [z_M_goDay_98, z_M_goDay_99, z_M_goDay_102, z_M_goDay_103, z_M_goDay_106, z_M_goDay_107, z_M_goDay_108, z_M_goDay_109, z_M_goDay_112, z_M_goDay_115, false_and, and_false, if_true, if_false, Decidable.not_not, sd_ci, sd_cr, sd_cl9, sd_cu, sd_cat0, sd_cat1, sd_rfS, sd_n01, sd_n11, sd_n1, sd_n10, sd_n00, sd_b01, sd_b0, true_and, and_true, and_self, not_true_eq_false, not_false_eq_true, false_implies, true_implies, implies_true, or_true, true_or, or_false, false_or, Option.toList_some, Option.toList_none, List.cons_append, List.nil_append, Nat.reduceAdd, Nat.reduceLeDiff, nz_sub, nz_lt0, nz_ge0, nz_le0, nz_gt0, nz_eq0, nz_eq1, nz_lt, nz_le, nz_eq, nz_cl, nz_in, nz_add, nz_mul, nz_m1, nz_m1', Nat.reduceMul, Nat.reduceSub, Nat.reduceLT, Nat.reduceEqDiff, not_false_eq_true, false_implies, true_implies, true_and, and_true, h_271, t_272, n_272, t_273, n_273, t_274, n_274, t_275, n_275, t_276, n_276, t_277, n_277, t_278, n_278, t_279, n_279, t_280, n_280, t_281, n_281, t_282, n_282, t_283, n_283, t_284, n_284, t_285, n_285, t_286, n_286, t_287, n_287, t_288, n_288, t_289, n_289, t_290, n_290, t_291, n_291, t_292, n_292, t_293, n_293, t_294, n_294, t_295, n_295, t_296, n_296, t_297, n_297, t_298, n_298, t_299, n_299, t_300, n_300, t_301, n_301, r_271_1, r_271_2, r_271_3, r_271_4, r_271_15, r_271_16, r_271_18, r_271_19, r_271_20, r_271_21, r_271_22, r_271_23, r_271_24, r_271_25, r_271_26, r_271_34, r_271_35, r_271_38, r_271_39, r_271_40, r_271_42, r_271_45, r_271_46, r_271_47, r_271_48, r_271_49, r_271_50, r_271_53, r_271_54, r_271_55, r_271_57, t1, t2, w1, c1, z_M_goDay_125, z_M_goDay_128]
      ((repeat' first | (refine And.intro ?_ ?_) | (intro _)) <;> first | omega | exact hb)) (D 0 0 0) 0 σ3 (by omega) ⟨hM3, ⟨fun j hj => s2 j hj, fun _ _ _ => rfl⟩, fun _ _ => rfl, rfl⟩
  have d143 : σ4.1 c 143 = nI (D 5 0 0) := by
    rw [g1.2.2, sw_dn_o (by omega)]; rfl
  refine ⟨sd_wI σ4 c 143 (nI (D 5 0 0 + 1)), fun d Q => sd_Call.iff (fun Q hq => ?_) Q, ?_, fun e b1 b2 b3 b4 b5 => by rw [wI_c b1, g3 e b1, s3 e b1, l4 e b2 b3 b4 b5], fun j hj => by rw [wI_c (by omega), g3 271 (by omega), s3 271 (by omega), l5 j hj], by rw [wI_2, g4, s6, l6]⟩
  · have hend : sd_Go (sd_E1 L xs fm) (d + 5) y_M_goDay 97 [.ref 271, .ref c, .int (nI (145 + 4 * n)), .int (nI 0)] [] σ3 Q := g5 (d, Q) (by
      have w1 := g1.1.2.2.1
      rw [e00] at w1
      show sd_Go (sd_E1 L xs fm) (d + 5) y_M_goDay 97 [.ref 271, .ref c, .int (nI (145 + 4 * n)), .int (nI (D 0 0 0))] [] σ4 Q
      rw [z_M_goDay_97]
      simp (disch := first | exact sd_cr | exact sd_ci | exact sd_cu | exact sd_cl9 | assumption | omega | exact t_285 | exact t_283 | exact t_278 | exact t_281 | exact t_276 | exact t_274 | exact t_275 | exact t_277 | exact t_279 | exact t_280 | exact t_282 | exact t_284 | exact t_286 | exact t_287 | exact t_288 | exact t_289 | exact t_290 | exact t_291 | exact t_292 | exact t_293 | exact t_294 | exact t_295 | exact t_296 | exact t_297 | exact t_298 | exact t_299 | exact t_300) only [z_M_goDay_98, z_M_goDay_99, z_M_goDay_102, z_M_goDay_103, z_M_goDay_131, z_M_goDay_132, z_M_goDay_135, z_M_goDay_136, z_M_goDay_137, z_M_goDay_138, z_M_goDay_139, z_M_goDay_140, false_and, and_false, if_true, if_false, Decidable.not_not, sd_ci, sd_cr, sd_cl9, sd_cu, sd_cat0, sd_cat1, sd_rfS, sd_n01, sd_n11, sd_n1, sd_n10, sd_n00, sd_b01, sd_b0, true_and, and_true, and_self, not_true_eq_false, not_false_eq_true, false_implies, true_implies, implies_true, or_true, true_or, or_false, false_or, Option.toList_some, Option.toList_none, List.cons_append, List.nil_append, Nat.reduceAdd, Nat.reduceLeDiff, nz_sub, nz_lt0, nz_ge0, nz_le0, nz_gt0, nz_eq0, nz_eq1, nz_lt, nz_le, nz_eq, nz_cl, nz_in, nz_add, nz_mul, nz_m1, nz_m1', Nat.reduceMul, Nat.reduceSub, Nat.reduceLT, Nat.reduceEqDiff, not_false_eq_true, false_implies, true_implies, true_and, and_true, h_271, t_272, n_272, t_273, n_273, t_274, n_274, t_275, n_275, t_276, n_276, t_277, n_277, t_278, n_278, t_279, n_279, t_280, n_280, t_281, n_281, t_282, n_282, t_283, n_283, t_284, n_284, t_285, n_285, t_286, n_286, t_287, n_287, t_288, n_288, t_289, n_289, t_290, n_290, t_291, n_291, t_292, n_292, t_293, n_293, t_294, n_294, t_295, n_295, t_296, n_296, t_297, n_297, t_298, n_298, t_299, n_299, t_300, n_300, t_301, n_301, r_271_1, r_271_2, r_271_3, r_271_4, r_271_15, r_271_16, r_271_18, r_271_19, r_271_20, r_271_21, r_271_22, r_271_23, r_271_24, r_271_25, r_271_26, r_271_34, r_271_35, r_271_38, r_271_39, r_271_40, r_271_42, r_271_45, r_271_46, r_271_47, r_271_48, r_271_49, r_271_50, r_271_53, r_271_54, r_271_55, r_271_57, t1, t2, w1, d143]
      ((repeat' first | (refine And.intro ?_ ?_) | (intro _)) <;> first | omega | exact hq))
    have hmid : ∀ l2, sd_Go (sd_E1 L xs fm) (d + 5) y_M_goDay 55 [.ref 271, .ref c, l2, sd_un] [] σ2 Q := fun l2 => by
      simp (disch := first | exact sd_cr | exact sd_ci | exact sd_cu | exact sd_cl9 | assumption | omega | exact t_285 | exact t_283 | exact t_278 | exact t_281 | exact t_276 | exact t_274 | exact t_275 | exact t_277 | exact t_279 | exact t_280 | exact t_282 | exact t_284 | exact t_286 | exact t_287 | exact t_288 | exact t_289 | exact t_290 | exact t_291 | exact t_292 | exact t_293 | exact t_294 | exact t_295 | exact t_296 | exact t_297 | exact t_298 | exact t_299 | exact t_300) only [z_M_goDay_55, z_M_goDay_58, z_M_goDay_59, z_M_goDay_60, z_M_goDay_63, z_M_goDay_64, z_M_goDay_65, z_M_goDay_66, z_M_goDay_67, z_M_goDay_68, false_and, and_false, if_true, if_false, Decidable.not_not, sd_ci, sd_cr, sd_cl9, sd_cu, sd_cat0, sd_cat1, sd_rfS, sd_n01, sd_n11, sd_n1, sd_n10, sd_n00, sd_b01, sd_b0, true_and, and_true, and_self, not_true_eq_false, not_false_eq_true, false_implies, true_implies, implies_true, or_true, true_or, or_false, false_or, Option.toList_some, Option.toList_none, List.cons_append, List.nil_append, Nat.reduceAdd, Nat.reduceLeDiff, nz_sub, nz_lt0, nz_ge0, nz_le0, nz_gt0, nz_eq0, nz_eq1, nz_lt, nz_le, nz_eq, nz_cl, nz_in, nz_add, nz_mul, nz_m1, nz_m1', Nat.reduceMul, Nat.reduceSub, Nat.reduceLT, Nat.reduceEqDiff, not_false_eq_true, false_implies, true_implies, true_and, and_true, h_271, t_272, n_272, t_273, n_273, t_274, n_274, t_275, n_275, t_276, n_276, t_277, n_277, t_278, n_278, t_279, n_279, t_280, n_280, t_281, n_281, t_282, n_282, t_283, n_283, t_284, n_284, t_285, n_285, t_286, n_286, t_287, n_287, t_288, n_288, t_289, n_289, t_290, n_290, t_291, n_291, t_292, n_292, t_293, n_293, t_294, n_294, t_295, n_295, t_296, n_296, t_297, n_297, t_298, n_298, t_299, n_299, t_300, n_300, t_301, n_301, r_271_1, r_271_2, r_271_3, r_271_4, r_271_15, r_271_16, r_271_18, r_271_19, r_271_20, r_271_21, r_271_22, r_271_23, r_271_24, r_271_25, r_271_26, r_271_34, r_271_35, r_271_38, r_271_39, r_271_40, r_271_42, r_271_45, r_271_46, r_271_47, r_271_48, r_271_49, r_271_50, r_271_53, r_271_54, r_271_55, r_271_57, t1, t2, n4]
      have key := sd_loopF (fun i f => sd_Go (sd_E1 L xs fm) (d + 5) y_M_goDay 69 [.ref 271, .ref c, .int (nI (145 + 4 * n)), .int (nI i)] [] (sd_wA σ2 c f) Q) (fun i f => fun j => if j = 145 + 4 * n + i then nI 0 else f j) 4 (σ2.1 c) ?_ ?_
      · rw [wA_same] at key; exact key
      · intro i f hi hh
        rw [z_M_goDay_69]
        simp (disch := first | exact sd_cr | exact sd_ci | exact sd_cu | exact sd_cl9 | assumption | omega | exact t_285 | exact t_283 | exact t_278 | exact t_281 | exact t_276 | exact t_274 | exact t_275 | exact t_277 | exact t_279 | exact t_280 | exact t_282 | exact t_284 | exact t_286 | exact t_287 | exact t_288 | exact t_289 | exact t_290 | exact t_291 | exact t_292 | exact t_293 | exact t_294 | exact t_295 | exact t_296 | exact t_297 | exact t_298 | exact t_299 | exact t_300) only [z_M_goDay_70, z_M_goDay_71, z_M_goDay_74, z_M_goDay_75, z_M_goDay_76, z_M_goDay_77, z_M_goDay_78, z_M_goDay_79, z_M_goDay_80, z_M_goDay_83, false_and, and_false, if_true, if_false, Decidable.not_not, sd_ci, sd_cr, sd_cl9, sd_cu, sd_cat0, sd_cat1, sd_rfS, sd_n01, sd_n11, sd_n1, sd_n10, sd_n00, sd_b01, sd_b0, true_and, and_true, and_self, not_true_eq_false, not_false_eq_true, false_implies, true_implies, implies_true, or_true, true_or, or_false, false_or, Option.toList_some, Option.toList_none, List.cons_append, List.nil_append, Nat.reduceAdd, Nat.reduceLeDiff, nz_sub, nz_lt0, nz_ge0, nz_le0, nz_gt0, nz_eq0, nz_eq1, nz_lt, nz_le, nz_eq, nz_cl, nz_in, nz_add, nz_mul, nz_m1, nz_m1', Nat.reduceMul, Nat.reduceSub, Nat.reduceLT, Nat.reduceEqDiff, not_false_eq_true, false_implies, true_implies, true_and, and_true, h_271, t_272, n_272, t_273, n_273, t_274, n_274, t_275, n_275, t_276, n_276, t_277, n_277, t_278, n_278, t_279, n_279, t_280, n_280, t_281, n_281, t_282, n_282, t_283, n_283, t_284, n_284, t_285, n_285, t_286, n_286, t_287, n_287, t_288, n_288, t_289, n_289, t_290, n_290, t_291, n_291, t_292, n_292, t_293, n_293, t_294, n_294, t_295, n_295, t_296, n_296, t_297, n_297, t_298, n_298, t_299, n_299, t_300, n_300, t_301, n_301, r_271_1, r_271_2, r_271_3, r_271_4, r_271_15, r_271_16, r_271_18, r_271_19, r_271_20, r_271_21, r_271_22, r_271_23, r_271_24, r_271_25, r_271_26, r_271_34, r_271_35, r_271_38, r_271_39, r_271_40, r_271_42, r_271_45, r_271_46, r_271_47, r_271_48, r_271_49, r_271_50, r_271_53, r_271_54, r_271_55, r_271_57, t1, t2, wA_wI]
        ((repeat' first | (refine And.intro ?_ ?_) | (intro _)) <;> first | omega | exact hh)
      · rw [z_M_goDay_69, e0]
        have g44 : (sd_wA σ2 c (fun j => if 145 + 4 * n ≤ j ∧ j < 145 + 4 * n + 4 then nI 0 else σ2.1 c j)).1 c 144 = nI n := by rw [wA_k, if_neg (by omega)]; exact n4
        rw [hσ3] at hend
        simp (disch := first | exact sd_cr | exact sd_ci | exact sd_cu | exact sd_cl9 | assumption | omega | exact t_285 | exact t_283 | exact t_278 | exact t_281 | exact t_276 | exact t_274 | exact t_275 | exact t_277 | exact t_279 | exact t_280 | exact t_282 | exact t_284 | exact t_286 | exact t_287 | exact t_288 | exact t_289 | exact t_290 | exact t_291 | exact t_292 | exact t_293 | exact t_294 | exact t_295 | exact t_296 | exact t_297 | exact t_298 | exact t_299 | exact t_300) only [z_M_goDay_70, z_M_goDay_71, z_M_goDay_74, z_M_goDay_75, z_M_goDay_76, z_M_goDay_77, z_M_goDay_78, z_M_goDay_79, z_M_goDay_80, z_M_goDay_83, z_M_goDay_86, z_M_goDay_87, z_M_goDay_90, z_M_goDay_91, z_M_goDay_92, z_M_goDay_93, z_M_goDay_94, z_M_goDay_95, z_M_goDay_96, false_and, and_false, if_true, if_false, Decidable.not_not, sd_ci, sd_cr, sd_cl9, sd_cu, sd_cat0, sd_cat1, sd_rfS, sd_n01, sd_n11, sd_n1, sd_n10, sd_n00, sd_b01, sd_b0, true_and, and_true, and_self, not_true_eq_false, not_false_eq_true, false_implies, true_implies, implies_true, or_true, true_or, or_false, false_or, Option.toList_some, Option.toList_none, List.cons_append, List.nil_append, Nat.reduceAdd, Nat.reduceLeDiff, nz_sub, nz_lt0, nz_ge0, nz_le0, nz_gt0, nz_eq0, nz_eq1, nz_lt, nz_le, nz_eq, nz_cl, nz_in, nz_add, nz_mul, nz_m1, nz_m1', Nat.reduceMul, Nat.reduceSub, Nat.reduceLT, Nat.reduceEqDiff, not_false_eq_true, false_implies, true_implies, true_and, and_true, h_271, t_272, n_272, t_273, n_273, t_274, n_274, t_275, n_275, t_276, n_276, t_277, n_277, t_278, n_278, t_279, n_279, t_280, n_280, t_281, n_281, t_282, n_282, t_283, n_283, t_284, n_284, t_285, n_285, t_286, n_286, t_287, n_287, t_288, n_288, t_289, n_289, t_290, n_290, t_291, n_291, t_292, n_292, t_293, n_293, t_294, n_294, t_295, n_295, t_296, n_296, t_297, n_297, t_298, n_298, t_299, n_299, t_300, n_300, t_301, n_301, r_271_1, r_271_2, r_271_3, r_271_4, r_271_15, r_271_16, r_271_18, r_271_19, r_271_20, r_271_21, r_271_22, r_271_23, r_271_24, r_271_25, r_271_26, r_271_34, r_271_35, r_271_38, r_271_39, r_271_40, r_271_42, r_271_45, r_271_46, r_271_47, r_271_48, r_271_49, r_271_50, r_271_53, r_271_54, r_271_55, r_271_57, t1, t2, g44]
        ((repeat' first | (refine And.intro ?_ ?_) | (intro _)) <;> first | omega | exact hend)
    rw [sd_Call.start (ls := [.ref 271, .ref c, sd_un, sd_un]) m_M_goDay (by decide) (Nat.le_of_ble_eq_true rfl) rfl]
    simp (disch := first | exact sd_cr | exact sd_ci | exact sd_cu | exact sd_cl9 | assumption | omega | exact t_285 | exact t_283 | exact t_278 | exact t_281 | exact t_276 | exact t_274 | exact t_275 | exact t_277 | exact t_279 | exact t_280 | exact t_282 | exact t_284 | exact t_286 | exact t_287 | exact t_288 | exact t_289 | exact t_290 | exact t_291 | exact t_292 | exact t_293 | exact t_294 | exact t_295 | exact t_296 | exact t_297 | exact t_298 | exact t_299 | exact t_300) only [z_M_goDay_0, z_M_goDay_1, z_M_goDay_2, false_and, and_false, if_true, if_false, Decidable.not_not, sd_ci, sd_cr, sd_cl9, sd_cu, sd_cat0, sd_cat1, sd_rfS, sd_n01, sd_n11, sd_n1, sd_n10, sd_n00, sd_b01, sd_b0, true_and, and_true, and_self, not_true_eq_false, not_false_eq_true, false_implies, true_implies, implies_true, or_true, true_or, or_false, false_or, Option.toList_some, Option.toList_none, List.cons_append, List.nil_append, Nat.reduceAdd, Nat.reduceLeDiff, nz_sub, nz_lt0, nz_ge0, nz_le0, nz_gt0, nz_eq0, nz_eq1, nz_lt, nz_le, nz_eq, nz_cl, nz_in, nz_add, nz_mul, nz_m1, nz_m1', Nat.reduceMul, Nat.reduceSub, Nat.reduceLT, Nat.reduceEqDiff, not_false_eq_true, false_implies, true_implies, true_and, and_true, h_271, t_272, n_272, t_273, n_273, t_274, n_274, t_275, n_275, t_276, n_276, t_277, n_277, t_278, n_278, t_279, n_279, t_280, n_280, t_281, n_281, t_282, n_282, t_283, n_283, t_284, n_284, t_285, n_285, t_286, n_286, t_287, n_287, t_288, n_288, t_289, n_289, t_290, n_290, t_291, n_291, t_292, n_292, t_293, n_293, t_294, n_294, t_295, n_295, t_296, n_296, t_297, n_297, t_298, n_298, t_299, n_299, t_300, n_300, t_301, n_301, r_271_1, r_271_2, r_271_3, r_271_4, r_271_15, r_271_16, r_271_18, r_271_19, r_271_20, r_271_21, r_271_22, r_271_23, r_271_24, r_271_25, r_271_26, r_271_34, r_271_35, r_271_38, r_271_39, r_271_40, r_271_42, r_271_45, r_271_46, r_271_47, r_271_48, r_271_49, r_271_50, r_271_53, r_271_54, r_271_55, r_271_57, l1]
    exact hgo1 (d + 5) Q _ _ hmid
  · obtain ⟨⟨_, _, w1, w2, w3, w4⟩, w5, w6⟩ := id g1
    have hfin : sw_dn A D (sw_z7 D) (D 0 0 0) = sw_day A D D := rfl
    rw [hfin] at w1 w2 w3 w4 w5 w6 g2
    have hmin : min (D 5 0 0 + 1) 60 = n + 1 := n2.symm
    refine ⟨?_, fun v hv j hj => ?_, fun p hp => ?_, ?_, ?_, fun i hi j hj => ?_⟩
    · rw [wI_o (by decide), sw_nx_o (by decide) (by decide)]; exact w1
    · rw [sw_nx_o (by decide) (by decide)] at hv ⊢
      rw [wI_o (by omega)]; exact w3 v hv j hj
    · have hz := hD.2.2.1 p hp
      obtain ⟨q1, q2, q3⟩ := w5 p hp
      rw [sw_nx_o (by decide) (by decide), sw_nx_o (by decide) (by decide), wI_o (by omega), wI_o (by omega)]
      refine ⟨q1, q2, fun i hi => ?_⟩
      have e2 : sw_day A D D 2 p 0 = D 2 p 0 := sw_day_o (by omega)
      rw [wI_o (by omega), sw_nx_o (by decide) (by decide)]; exact q3 i hi
    · rw [wI_k, sw_nx_5]
    · rw [wI_o (by decide), sw_nx_5, hmin, g2.2 144 (by decide) (by omega)]; exact s4
    · rw [sw_nx_5, hmin] at hi ⊢
      rw [wI_o (by omega)]
      cases i with
      | zero =>
        rw [sw_nx_60, show 145 + 4 * (n + 1 - 1 - 0) + j = 145 + 4 * n + j by omega]
        exact g2.1 j hj
      | succ i =>
        rw [sw_nx_6s, show 145 + 4 * (n + 1 - 1 - (i + 1)) + j = 145 + 4 * (n - 1 - i) + j by omega, g2.2 _ (by omega) (by omega)]
        exact s5 i (by omega) j hj
end SD81
