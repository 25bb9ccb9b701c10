/-! clauses of a country: a vow, an eye -/
def ct_W2 (W : sw_T) (v : Nat → Nat) : sw_T := fun i j k => if i = 0 ∧ j = 0 ∧ k = 0 then W 0 0 0 + 1 else if i = 1 ∧ j = W 0 0 0 then (if k < 6 then v k else 0) else W i j k
def ct_A3 (A : sw_T) (v : Nat → Nat) : sw_T := fun i j k => if i = 5 ∧ j = 0 ∧ k = 0 then A 5 0 0 + 1 else if i = 4 ∧ j = A 5 0 0 then (if k < 4 then v k else 0) else A i j k
section SDBZ
variable {L : Nat} {xs : Nat → Int32} {fm : Option Nat} {b : Nat → Nat} {n a c s dn : Nat} {A W : sw_T} {σ : sd_Mem} {v : Nat → Nat}
theorem ct_W2_0 : ct_W2 W v 0 0 0 = W 0 0 0 + 1 := if_pos ⟨rfl, rfl, rfl⟩
theorem ct_W2_o {i j k : Nat} (h : i ≠ 0 ∧ i ≠ 1) : ct_W2 W v i j k = W i j k := by
  unfold ct_W2
  rw [if_neg (by omega), if_neg (by omega)]
theorem ct_W2_1 {j k : Nat} : ct_W2 W v 1 j k = if j = W 0 0 0 then (if k < 6 then v k else 0) else W 1 j k := by
  unfold ct_W2
  rw [if_neg (by omega)]
  by_cases q : j = W 0 0 0
  · rw [if_pos ⟨rfl, q⟩, if_pos q]
  · rw [if_neg (fun r => q r.2), if_neg q]
theorem ct_A3_5 : ct_A3 A v 5 0 0 = A 5 0 0 + 1 := if_pos ⟨rfl, rfl, rfl⟩
theorem ct_A3_o {i j k : Nat} (h : i ≠ 4 ∧ i ≠ 5) : ct_A3 A v i j k = A i j k := by
  unfold ct_A3
  rw [if_neg (by omega), if_neg (by omega)]
theorem ct_A3_4 {j k : Nat} : ct_A3 A v 4 j k = if j = A 5 0 0 then (if k < 4 then v k else 0) else A 4 j k := by
  unfold ct_A3
  rw [if_neg (by omega)]
  by_cases q : j = A 5 0 0
  · rw [if_pos ⟨rfl, q⟩, if_pos q]
  · rw [if_neg (fun r => q r.2), if_neg q]

theorem ct_cl2 (hn : n ≤ 240) (hb : ∀ i, i < n → b i < 256) (ha : a ≤ n) (hP : ct_P A W dn) (hC : sd_isC c) (hp : tk_T b n a 118) (hcn : W 0 0 0 < 8) : ∃ e r, ct_C L xs fm b n c a A W dn e r := by
  have hpl := tp_ps_le (b := b) ha
  have hpn := hp.1
  obtain ⟨e, r, x, m, p1, p2, p3⟩ := ct_items (L := L) (xs := xs) (fm := fm) (s := 2) (by decide) hn hb (show tp_ps b n a + 1 ≤ n by omega)
  obtain ⟨q1, q2, q3, q4, q5, q6, q7, q8, q9, q10, q11, q12, q13, q14, q15⟩ := id hP
  have hcc := hC.2.2.2.2.2.2.2.2.2.2.2
  have hitM : ∀ σ o, tp_M σ 272 o b n a → σ.1 271 11 = -1 → ct_M σ A W dn → ∃ σ2, (∀ e' j, ¬ (e' = 271 ∧ (j = 10 ∨ j = 11 ∨ j = 32)) → ¬ (e' = 280 ∧ 6 * W 0 0 0 ≤ j ∧ j < 6 * W 0 0 0 + 6) → σ2.1 e' j = σ.1 e' j) ∧ σ2.2 = σ.2 ∧ σ2.1 271 32 = nI (W 0 0 0 + 1) ∧ (r = none → σ2.1 271 11 = nI e) ∧ (∀ v', r = some v' → tp_M σ2 272 o b n e ∧ σ2.1 271 11 = -1 ∧ ∀ k, k < 6 → σ2.1 280 (6 * W 0 0 0 + k) = nI (v' k)) ∧ ∀ d Q, 8 ≤ d → Q none σ2 → sd_Go (sd_E1 L xs fm) d y_M_readClause 0 [.ref 271, sd_un, sd_un, sd_un] [] σ Q := by
    intro σ o h hf hM
    have h1 := h.at (a' := tp_ps b n a + 1) (by omega)
    have h2 : tp_M (sd_wI (sd_wI σ 271 10 (nI (tp_ps b n a + 1))) 271 32 (nI (W 0 0 0 + 1))) 272 o b n (tp_ps b n a + 1) := h1.fr (fun j hj => wI_o (by omega)) (fun j => by rw [wI_c (by decide)]) rfl
    have hnt : tx_n (1 + 2) = 6 := rfl
    obtain ⟨σ2, y1, y2, y3, y4, y5⟩ := m _ 272 o 280 (6 * W 0 0 0) h2 (by rw [wI_o (by decide), wI_o (by decide)]; exact hf) t_280 (by rw [n_280, hnt]; omega) (by omega) (by decide) (by decide)
    rw [hnt] at y1 y4
    refine ⟨σ2, fun e' j z1 z2 => ?_, y2, ?_, y3, y4, fun d Q hd hq => ?_⟩
    · rw [y1 e' j (by omega) z2, wI_1, if_neg (by omega), wI_1, if_neg (by omega)]
    · rw [y1 271 32 (by omega) (by omega), wI_k]
    · refine ct_preM (s := 2) h hM hb (by decide) hp hcn (by omega) ?_
      rw [if_neg (by decide), if_neg (by decide), if_pos rfl, tx_b2]
      have e31 : (sd_wI σ 271 10 (nI (tp_ps b n a + 1))).1 271 32 = nI (W 0 0 0) := by rw [wI_o (by decide)]; exact hM.2.2.1
      have cr : ∀ Q, sd_Call (sd_E1 L xs fm) d y_M_readItems [.ref 271, .int (nI 118), .ref 280, .int (nI (6 * W 0 0 0)), .ref 413] (sd_wI (sd_wI σ 271 10 (nI (tp_ps b n a + 1))) 271 32 (nI (W 0 0 0 + 1))) Q ↔ Q none σ2 := fun Q => y5 d Q (by omega)
      simp (disch := first | exact sd_cr | exact sd_ci | exact sd_cu | exact sd_cl9 | assumption | omega | exact t_285 | exact t_283 | exact t_278 | exact t_281 | exact t_276 | exact t_274 | exact t_275 | exact t_277 | exact t_279 | exact t_280 | exact t_282 | exact t_284 | exact t_286 | exact t_287 | exact t_288 | exact t_289 | exact t_290 | exact t_291 | exact t_292 | exact t_293 | exact t_294 | exact t_295 | exact t_296 | exact t_297 | exact t_298 | exact t_299 | exact t_300) only [z_M_readClause_262, z_M_readClause_263, z_M_readClause_264, z_M_readClause_267, z_M_readClause_268, z_M_readClause_269, z_M_readClause_272, z_M_readClause_273, z_M_readClause_274, z_M_readClause_275, z_M_readClause_278, z_M_readClause_280, z_M_readClause_281, z_M_readClause_284, z_M_readClause_285, z_M_readClause_286, z_M_readClause_287, z_M_readClause_290, z_M_readClause_293, z_M_readClause_326, false_and, and_false, if_true, if_false, Decidable.not_not, sd_ci, sd_cr, sd_cl9, sd_cu, sd_cat0, sd_cat1, sd_rfS, sd_n01, sd_n11, sd_n1, sd_n10, sd_n00, sd_b01, sd_b0, true_and, and_true, and_self, not_true_eq_false, not_false_eq_true, false_implies, true_implies, implies_true, or_true, true_or, or_false, false_or, Option.toList_some, Option.toList_none, List.cons_append, List.nil_append, Nat.reduceAdd, Nat.reduceLeDiff, nz_sub, nz_lt0, nz_ge0, nz_le0, nz_gt0, nz_eq0, nz_eq1, nz_lt, nz_le, nz_eq, nz_cl, nz_in, nz_add, nz_mul, nz_m1, nz_m1', Nat.reduceMul, Nat.reduceSub, Nat.reduceLT, Nat.reduceEqDiff, not_false_eq_true, false_implies, true_implies, true_and, and_true, h_271, t_272, n_272, t_273, n_273, t_274, n_274, t_275, n_275, t_276, n_276, t_277, n_277, t_278, n_278, t_279, n_279, t_280, n_280, t_281, n_281, t_282, n_282, t_283, n_283, t_284, n_284, t_285, n_285, t_286, n_286, t_287, n_287, t_288, n_288, t_289, n_289, t_290, n_290, t_291, n_291, t_292, n_292, t_293, n_293, t_294, n_294, t_295, n_295, t_296, n_296, t_297, n_297, t_298, n_298, t_299, n_299, t_300, n_300, t_301, n_301, r_271_1, r_271_2, r_271_3, r_271_4, r_271_15, r_271_16, r_271_18, r_271_19, r_271_20, r_271_21, r_271_22, r_271_23, r_271_24, r_271_25, r_271_26, r_271_34, r_271_35, r_271_38, r_271_39, r_271_40, r_271_42, r_271_45, r_271_46, r_271_47, r_271_48, r_271_49, r_271_50, r_271_53, r_271_54, r_271_55, r_271_57, e31, wI_k, Nat.add_sub_cancel, cr]
      exact hq
  cases r with
  | none =>
    refine ⟨e, none, ?_, ?_, by omega, p2, fun _ _ _ q => by cases q⟩
    · intro σ h hX
      obtain ⟨σ2, y1, y2, y3, y4, y5⟩ := x _ (ct_s1_X (s := 2) (cn := W 0 0 0) h hpn)
      refine ⟨σ2, ⟨fun e' j z1 z2 z3 z4 => ?_, y2⟩, y3, fun _ _ _ q => (by cases q), fun D Q hD => ?_⟩
      · rw [y1 e' j z1 z2, ct_s1_o z1 (fun q => z3 q.1)]
      · obtain ⟨d, rfl⟩ : ∃ d, D = d + 1 := ⟨D - 1, by omega⟩
        refine sd_Call.iff (fun Q hq => ?_) Q
        rw [sd_Call.start (ls := [.ref 3, .ref c, sd_un, sd_un]) m_CountryReader_readClause (by decide) (Nat.le_of_ble_eq_true rfl) rfl]
        refine ct_preX (s := 2) h hX hb (by decide) hp hcn (by omega) ((y5 d _ (by omega)).mpr ?_)
        simp (disch := first | exact sd_cr | exact sd_ci | exact sd_cu | exact sd_cl9 | assumption | omega | exact t_259 | exact t_260 | exact t_261 | exact t_262 | exact t_263 | exact t_264 | exact t_254 | exact t_255 | exact t_256 | exact t_257 | exact t_266 | exact t_267 | exact t_268 | exact t_269 | exact t_270 | exact t_252 | exact t_240 | exact t_246 | exact t_2 | exact t_4 | exact t_5 | exact t_13 | exact t_14 | exact t_15 | exact t_16 | exact Or.inl t_39 | exact Or.inr t_7) only [z_CountryReader_readClause_78, z_CountryReader_readClause_81, z_CountryReader_readClause_82, false_and, and_false, if_true, if_false, Decidable.not_not, sd_ci, sd_cr, sd_cl9, sd_cu, sd_cat0, sd_cat1, sd_rfS, sd_n01, sd_n11, sd_n1, sd_n10, sd_n00, sd_b01, sd_b0, true_and, and_true, and_self, not_true_eq_false, not_false_eq_true, false_implies, true_implies, implies_true, or_true, true_or, or_false, false_or, Option.toList_some, Option.toList_none, List.cons_append, List.nil_append, Nat.reduceAdd, Nat.reduceLeDiff, nz_sub, nz_lt0, nz_ge0, nz_le0, nz_gt0, nz_eq0, nz_eq1, nz_lt, nz_le, nz_eq, nz_cl, nz_in, nz_add, nz_mul, nz_m1, nz_m1', Nat.reduceMul, Nat.reduceSub, Nat.reduceLT, Nat.reduceEqDiff, not_false_eq_true, false_implies, true_implies, true_and, and_true, Option.isSome_none, Bool.false_eq_true, sd_bF not_false]
        exact hq
    · intro σ o h hf hM
      obtain ⟨σ2, y1, y2, y3, y4, y5, y6⟩ := hitM σ o h hf hM
      refine ⟨σ2, ⟨fun e' j z1 z2 z3 z4 z5 z6 => y1 e' j (by omega) (by omega), y2⟩, fun _ => y4 rfl, fun _ _ _ q => (by cases q), fun D Q hD => ?_⟩
      obtain ⟨d, rfl⟩ : ∃ d, D = d + 1 := ⟨D - 1, by omega⟩
      refine sd_Call.iff (fun Q hq => ?_) Q
      rw [sd_Call.start (ls := [.ref 271, sd_un, sd_un, sd_un]) m_M_readClause (by decide) (Nat.le_of_ble_eq_true rfl) rfl]
      exact y6 d Q (by omega) hq
  | some v =>
    have hv := p3 v rfl
    have v0 : v 0 ≤ 4 := hv 0 (by decide)
    have v1 : v 1 ≤ 7 := hv 1 (by decide)
    have v2 : v 2 ≤ 7 := hv 2 (by decide)
    have v3 : v 3 ≤ 7 := hv 3 (by decide)
    have v4 : v 4 ≤ 9 := hv 4 (by decide)
    have v5 : v 5 ≤ 99 := hv 5 (by decide)
    have vb : ∀ k, k < 6 → v k < 1000 := fun k hk => by
      have : k = 0 ∨ k = 1 ∨ k = 2 ∨ k = 3 ∨ k = 4 ∨ k = 5 := by omega
      rcases this with rfl | rfl | rfl | rfl | rfl | rfl <;> omega
    refine ⟨e, some (A, ct_W2 W v, dn), ?_, ?_, by omega, p2, fun A' W' dn' q => ?_⟩
    · intro σ h hX
      obtain ⟨σ2, y1, y2, y3, y4, y5⟩ := x _ (ct_s1_X (s := 2) (cn := W 0 0 0) h hpn)
      have y4 := y4 v rfl
      have g : ∀ e' j, ¬ (e' = 1 ∧ j = 2) → e' ≠ 4 → ¬ (e' = 5 ∧ j = 2) → σ2.1 e' j = σ.1 e' j := fun e' j z1 z2 z3 => by rw [y1 e' j z1 z2, ct_s1_o z1 z3]
      refine ⟨sd_wI (sd_wA σ2 (c + 9) (va_cpy (σ2.1 4) (σ2.1 (c + 9)) 0 (W 0 0 0 * 6) 6)) (c + 5) 4 (nI (W 0 0 0 + 1)), ⟨fun e' j z1 z2 z3 z4 => ?_, y2⟩, y3.fr (fun j _ => by rw [wI_c (by omega), wA_c (by omega)]) (fun j => by rw [wI_c (by omega), wA_c (by omega)]), fun A' W' dn' q => ?_, fun D Q hD => ?_⟩
      · rw [wI_c (by omega), wA_c (by omega)]
        exact g e' j z1 z2 (fun q => z3 q.1)
      · cases q
        have hXc := hX
        obtain ⟨hC', ⟨x1, x2, x3, x4, x5, x6⟩, ⟨⟨w1, w2, w3, w4⟩, w5, w6⟩, c0, c1, c2, c3⟩ := hXc
        refine ⟨hC, ⟨?_, ?_, fun p hp' => ?_, fun e' he => ?_, fun e' he => ?_, fun e' he j hj => ?_⟩, ⟨⟨?_, ?_, fun v' hv' j hj => ?_, fun v' j => ?_⟩, fun p hp' => ?_, ?_⟩, ?_, ?_, ?_, ?_⟩
        · rw [wI_c (by omega), wA_c (by omega), g c 0 (by omega) (by omega) (by omega)]; exact x1
        · rw [wI_c (by omega), wA_c (by omega), g c 5 (by omega) (by omega) (by omega)]; exact x2
        · rw [wI_c (by omega), wA_c (by omega), g (c + 1) p (by omega) (by omega) (by omega)]; exact x3 p hp'
        · rw [wI_c (by omega), wA_c (by omega), g (c + 2) e' (by omega) (by omega) (by omega)]; exact x4 e' he
        · rw [wI_c (by omega), wA_c (by omega), g (c + 3) e' (by omega) (by omega) (by omega)]; exact x5 e' he
        · rw [wI_c (by omega), wA_c (by omega), g (c + 4) _ (by omega) (by omega) (by omega)]; exact x6 e' he j hj
        · rw [ct_W2_0, wI_k]
        · rw [ct_W2_0]; omega
        · rw [ct_W2_0] at hv'
          rw [ct_W2_1, wI_c (by omega), show c + 5 + 4 = c + 9 by omega, wA_k]
          by_cases q : v' = W 0 0 0
          · rw [if_pos q, if_pos hj, pk_cpy_in (by omega) (by omega), show v' * 6 + j - W 0 0 0 * 6 = j by rw [q]; omega, Nat.zero_add]
            exact y4 j hj
          · rw [if_neg q, pk_cpy_out (by omega), g (c + 9) _ (by omega) (by omega) (by omega)]
            exact w3 v' (by omega) j hj
        · rw [ct_W2_1]
          split
          · split
            · rename_i z; exact vb j z
            · decide
          · exact w4 v' j
        · rw [ct_W2_o (by omega), ct_W2_o (by omega), wI_c (by omega), wI_c (by omega), wI_c (by omega), wA_c (by omega), wA_c (by omega), wA_c (by omega), g _ _ (by omega) (by omega) (by omega), g _ _ (by omega) (by omega) (by omega)]
          obtain ⟨d1, d2, d3⟩ := w5 p hp'
          exact ⟨d1, d2, fun i hi => by rw [ct_W2_o (by omega), g _ _ (by omega) (by omega) (by omega)]; exact d3 i hi⟩
        · rw [ct_W2_o (by omega), wI_o (by decide), wA_c (by omega), g _ 5 (by omega) (by omega) (by omega)]; exact w6
        · rw [wI_c (by omega), wA_c (by omega), g 5 0 (by omega) (by omega) (by omega)]; exact c0
        · rw [wI_c (by omega), wA_c (by omega), g 5 1 (by omega) (by omega) (by omega)]; exact c1
        · rw [ct_W2_0, wI_c (by omega), wA_c (by omega), y1 5 2 (by omega) (by omega)]; exact ct_s1_5
        · rw [wI_c (by omega), wA_c (by omega), g 5 3 (by omega) (by omega) (by omega)]; exact c3
      · obtain ⟨d, rfl⟩ : ∃ d, D = d + 1 := ⟨D - 1, by omega⟩
        refine sd_Call.iff (fun Q hq => ?_) Q
        obtain ⟨k0, k1, k2, k3, k4, k5, k6, k7, k8, r0, r1, r2, r3, r4, k9⟩ := hC.all (L := L) (xs := xs) (fm := fm)
        obtain ⟨s0, s1, s2, s3, s4, s5, s6, s7, s8, sr0, sr1, sr2, sr3⟩ := k9.all (L := L) (xs := xs) (fm := fm)
        simp only [Nat.add_assoc, Nat.reduceAdd] at s1 s2 s3 s4 s5 s6 s7 s8 sr0 sr1 sr2 sr3
        have z0 : σ2.1 (c + 5) 4 = nI (W 0 0 0) := by rw [g (c + 5) 4 (by omega) (by omega) (by omega)]; exact hX.2.2.1.1.1
        have z0' : (sd_wA σ2 (c + 9) (va_cpy (σ2.1 4) (σ2.1 (c + 9)) 0 (W 0 0 0 * 6) 6)).1 (c + 5) 4 = nI (W 0 0 0) := by rw [wA_c (by omega)]; exact z0
        have c72 : W 0 0 0 * 6 + 6 ≤ 72 := by omega
        rw [sd_Call.start (ls := [.ref 3, .ref c, sd_un, sd_un]) m_CountryReader_readClause (by decide) (Nat.le_of_ble_eq_true rfl) rfl]
        refine ct_preX (s := 2) h hX hb (by decide) hp hcn (by omega) ((y5 d _ (by omega)).mpr ?_)
        simp (disch := first | exact sd_cr | exact sd_ci | exact sd_cu | exact sd_cl9 | assumption | omega | exact t_259 | exact t_260 | exact t_261 | exact t_262 | exact t_263 | exact t_264 | exact t_254 | exact t_255 | exact t_256 | exact t_257 | exact t_266 | exact t_267 | exact t_268 | exact t_269 | exact t_270 | exact t_252 | exact t_240 | exact t_246 | exact t_2 | exact t_4 | exact t_5 | exact t_13 | exact t_14 | exact t_15 | exact t_16 | exact Or.inl t_39 | exact Or.inr t_7) only [z_CountryReader_readClause_78, z_CountryReader_readClause_81, z_CountryReader_readClause_82, z_CountryReader_readClause_83, z_CountryReader_readClause_84_0, z_CountryReader_readClause_84_1, z_CountryReader_readClause_84_2, z_CountryReader_readClause_112, z_CountryReader_readClause_113, z_CountryReader_readClause_114, z_CountryReader_readClause_117, z_CountryReader_readClause_118, z_CountryReader_readClause_119, z_CountryReader_readClause_122, z_CountryReader_readClause_123, z_CountryReader_readClause_126, z_CountryReader_readClause_127, zx_CountryReader_readClause_127, z_CountryReader_readClause_128, z_CountryReader_readClause_129, z_CountryReader_readClause_132, z_CountryReader_readClause_133, zx_CountryReader_readClause_133, z_CountryReader_readClause_134, z_CountryReader_readClause_135, z_CountryReader_readClause_136, z_CountryReader_readClause_139, z_CountryReader_readClause_140, z_CountryReader_readClause_143, z_CountryReader_readClause_144, zx_CountryReader_readClause_144, z_CountryReader_readClause_145, z_CountryReader_readClause_146, z_CountryReader_readClause_149, z_CountryReader_readClause_150, zx_CountryReader_readClause_150, z_CountryReader_readClause_151, z_CountryReader_readClause_152, z_CountryReader_readClause_153, z_CountryReader_readClause_154, z_CountryReader_readClause_155, z_CountryReader_readClause_158, z_CountryReader_readClause_159, z_CountryReader_readClause_160, z_CountryReader_readClause_163, z_CountryReader_readClause_166, z_CountryReader_readClause_167, z_CountryReader_readClause_170, z_CountryReader_readClause_173, z_CountryReader_readClause_175, z_CountryReader_readClause_176, z_CountryReader_readClause_178, z_CountryReader_readClause_181, z_CountryReader_readClause_182, z_CountryReader_readClause_185, z_CountryReader_readClause_186, z_CountryReader_readClause_189, z_CountryReader_readClause_190, z_CountryReader_readClause_191, z_CountryReader_readClause_194, z_CountryReader_readClause_195, z_CountryReader_readClause_196, z_CountryReader_readClause_197, z_CountryReader_readClause_200, z_CountryReader_readClause_201, z_CountryReader_readClause_202, z_CountryReader_readClause_205, z_CountryReader_readClause_206, z_CountryReader_readClause_209, z_CountryReader_readClause_210, z_CountryReader_readClause_211, z_CountryReader_readClause_212, z_CountryReader_readClause_215, z_CountryReader_readClause_216, z_CountryReader_readClause_217, z_CountryReader_readClause_220, z_CountryReader_readClause_221, z_CountryReader_readClause_222, z_CountryReader_readClause_225, z_CountryReader_readClause_226, false_and, and_false, if_true, if_false, Decidable.not_not, sd_ci, sd_cr, sd_cl9, sd_cu, sd_cat0, sd_cat1, sd_rfS, sd_n01, sd_n11, sd_n1, sd_n10, sd_n00, sd_b01, sd_b0, true_and, and_true, and_self, not_true_eq_false, not_false_eq_true, false_implies, true_implies, implies_true, or_true, true_or, or_false, false_or, Option.toList_some, Option.toList_none, List.cons_append, List.nil_append, Nat.reduceAdd, Nat.reduceLeDiff, nz_sub, nz_lt0, nz_ge0, nz_le0, nz_gt0, nz_eq0, nz_eq1, nz_lt, nz_le, nz_eq, nz_cl, nz_in, nz_add, nz_mul, nz_m1, nz_m1', Nat.reduceMul, Nat.reduceSub, Nat.reduceLT, Nat.reduceEqDiff, not_false_eq_true, false_implies, true_implies, true_and, and_true, h_0, h_1, t_2, n_2, h_3, t_4, n_4, t_5, n_5, h_6, t_7, n_7, t_8, n_8, t_9, n_9, t_10, n_10, t_11, n_11, t_12, n_12, t_13, n_13, t_14, n_14, t_15, n_15, t_16, n_16, h_17, h_18, t_19, n_19, t_20, n_20, t_21, n_21, t_22, n_22, h_28, t_29, n_29, t_30, n_30, t_31, n_31, t_32, n_32, h_38, t_39, n_39, t_240, n_240, t_246, n_246, t_252, n_252, h_253, t_254, n_254, t_255, n_255, t_256, n_256, t_257, n_257, h_258, t_259, n_259, t_260, n_260, t_261, n_261, t_262, n_262, t_263, n_263, t_264, n_264, h_265, t_266, n_266, t_267, n_267, t_268, n_268, t_269, n_269, t_270, n_270, r_0_0, r_0_1, r_0_2, r_0_3, r_0_6, r_0_7, r_0_8, r_0_9, r_0_11, r_0_12, r_0_13, r_0_14, r_0_15, r_1_0, r_3_0, r_3_1, r_3_2, r_6_0, r_6_1, r_6_4, r_6_5, r_6_7, r_7_0, r_7_1, r_7_2, r_7_3, r_7_4, r_17_0, r_17_1, r_18_1, r_18_2, r_18_3, r_18_4, r_18_6, r_28_1, r_28_2, r_28_3, r_28_4, r_28_6, r_38_0, r_253_0, r_253_1, r_253_2, r_253_3, r_258_0, r_258_1, r_258_3, r_258_4, r_258_6, r_258_8, r_265_0, r_265_1, r_265_3, r_265_4, r_265_5, r_0_4, r_0_5, r_3_1, k0, k3, k4, k5, k6, k7, k8, r0, r1, r2, r3, r4, s0, s7, s8, sr3, z0, z0', c72, Option.isSome_some, sd_bT trivial, Nat.zero_add, Nat.le_refl]
        exact hq
    · intro σ o h hf hM
      obtain ⟨σ2, y1, y2, y3, y4, y5, y6⟩ := hitM σ o h hf hM
      obtain ⟨yM, yf, yv⟩ := y5 v rfl
      refine ⟨σ2, ⟨fun e' j z1 z2 z3 z4 z5 z6 => y1 e' j (by omega) (by omega), y2⟩, fun q => (by cases q), fun A' W' dn' q => ?_, fun D Q hD => ?_⟩
      · cases q
        refine ⟨yM, yf, ?_⟩
        obtain ⟨c0, c1, c2, c3, c4, c5, c6, c7⟩ := hM
        have g7 : ∀ i, σ2.1 277 i = σ.1 277 i := fun i => y1 277 i (by omega) (by omega)
        have g9 : ∀ i, σ2.1 279 i = σ.1 279 i := fun i => y1 279 i (by omega) (by omega)
        refine ⟨?_, ?_, ?_, ?_, fun p hp' => ?_, fun e' he => ?_, fun v' hv' j hj => ?_, fun e' he j hj => ?_⟩
        · rw [y1 271 30 (by omega) (by omega)]; exact c0
        · rw [y1 271 31 (by omega) (by omega)]; exact c1
        · rw [ct_W2_0]; exact y3
        · rw [y1 271 33 (by omega) (by omega)]; exact c3
        · rw [g7, g7, g7, ct_W2_o (by omega), ct_W2_o (by omega)]
          obtain ⟨d1, d2, d3, d4⟩ := c4 p hp'
          exact ⟨d1, d2, d3, fun i hi => by rw [g7, ct_W2_o (by omega)]; exact d4 i hi⟩
        · rw [g9, g9]; exact c5 e' he
        · rw [ct_W2_0] at hv'
          rw [ct_W2_1]
          by_cases q : v' = W 0 0 0
          · rw [if_pos q, if_pos hj, q]; exact yv j hj
          · rw [if_neg q, y1 280 _ (by omega) (by omega)]; exact c6 v' (by omega) j hj
        · rw [y1 282 _ (by omega) (by omega)]; exact c7 e' he j hj
      · obtain ⟨d, rfl⟩ : ∃ d, D = d + 1 := ⟨D - 1, by omega⟩
        refine sd_Call.iff (fun Q hq => ?_) Q
        rw [sd_Call.start (ls := [.ref 271, sd_un, sd_un, sd_un]) m_M_readClause (by decide) (Nat.le_of_ble_eq_true rfl) rfl]
        exact y6 d Q (by omega) hq
    · cases q
      refine ⟨⟨q1, fun i j k => ?_, q3, q4, by rw [ct_W2_0]; omega, q6, q7, q8, q9, fun p hp' => by rw [ct_W2_o (by omega), ct_W2_o (by omega)]; exact q10 p hp', fun p i => by rw [ct_W2_o (by omega)]; exact q11 p i, fun v' hv' => ?_, fun v' j => ?_, q14, by rw [ct_W2_o (by omega)]; exact q15⟩, by omega, fun _ _ _ _ => rfl⟩
      · unfold ct_W2
        split
        · omega
        · split
          · split
            · rename_i z; have := vb k z; omega
            · decide
          · exact q2 i j k
      · rw [ct_W2_0] at hv'
        rw [ct_W2_1, ct_W2_1, ct_W2_1, ct_W2_1, ct_W2_1]
        by_cases q : v' = W 0 0 0
        · rw [if_pos q, if_pos q, if_pos q, if_pos q, if_pos q]
          exact ⟨v0, v1, v2, v3, v4⟩
        · rw [if_neg q, if_neg q, if_neg q, if_neg q, if_neg q]
          exact q12 v' (by omega)
      · rw [ct_W2_1]
        split
        · split
          · rename_i z; exact vb j z
          · decide
        · exact q13 v' j

theorem ct_cl3 (hn : n ≤ 240) (hb : ∀ i, i < n → b i < 256) (ha : a ≤ n) (hP : ct_P A W dn) (hC : sd_isC c) (hp : tk_T b n a 101) (hcn : A 5 0 0 < 8) : ∃ e r, ct_C L xs fm b n c a A W dn e r := by
  have hpl := tp_ps_le (b := b) ha
  have hpn := hp.1
  obtain ⟨e, r, x, m, p1, p2, p3⟩ := ct_items (L := L) (xs := xs) (fm := fm) (s := 3) (by decide) hn hb (show tp_ps b n a + 1 ≤ n by omega)
  obtain ⟨q1, q2, q3, q4, q5, q6, q7, q8, q9, q10, q11, q12, q13, q14, q15⟩ := id hP
  have hcc := hC.2.2.2.2.2.2.2.2.2.2.2
  have hitM : ∀ σ o, tp_M σ 272 o b n a → σ.1 271 11 = -1 → ct_M σ A W dn → ∃ σ2, (∀ e' j, ¬ (e' = 271 ∧ (j = 10 ∨ j = 11 ∨ j = 33)) → ¬ (e' = 282 ∧ 4 * A 5 0 0 ≤ j ∧ j < 4 * A 5 0 0 + 4) → σ2.1 e' j = σ.1 e' j) ∧ σ2.2 = σ.2 ∧ σ2.1 271 33 = nI (A 5 0 0 + 1) ∧ (r = none → σ2.1 271 11 = nI e) ∧ (∀ v', r = some v' → tp_M σ2 272 o b n e ∧ σ2.1 271 11 = -1 ∧ ∀ k, k < 4 → σ2.1 282 (4 * A 5 0 0 + k) = nI (v' k)) ∧ ∀ d Q, 8 ≤ d → Q none σ2 → sd_Go (sd_E1 L xs fm) d y_M_readClause 0 [.ref 271, sd_un, sd_un, sd_un] [] σ Q := by
    intro σ o h hf hM
    have h1 := h.at (a' := tp_ps b n a + 1) (by omega)
    have h2 : tp_M (sd_wI (sd_wI σ 271 10 (nI (tp_ps b n a + 1))) 271 33 (nI (A 5 0 0 + 1))) 272 o b n (tp_ps b n a + 1) := h1.fr (fun j hj => wI_o (by omega)) (fun j => by rw [wI_c (by decide)]) rfl
    have hnt : tx_n (1 + 3) = 4 := rfl
    obtain ⟨σ2, y1, y2, y3, y4, y5⟩ := m _ 272 o 282 (4 * A 5 0 0) h2 (by rw [wI_o (by decide), wI_o (by decide)]; exact hf) t_282 (by rw [n_282, hnt]; omega) (by omega) (by decide) (by decide)
    rw [hnt] at y1 y4
    refine ⟨σ2, fun e' j z1 z2 => ?_, y2, ?_, y3, y4, fun d Q hd hq => ?_⟩
    · rw [y1 e' j (by omega) z2, wI_1, if_neg (by omega), wI_1, if_neg (by omega)]
    · rw [y1 271 33 (by omega) (by omega), wI_k]
    · refine ct_preM (s := 3) h hM hb (by decide) hp hcn (by omega) ?_
      rw [if_neg (by decide), if_neg (by decide), if_neg (by decide), tx_b3]
      have e31 : (sd_wI σ 271 10 (nI (tp_ps b n a + 1))).1 271 33 = nI (A 5 0 0) := by rw [wI_o (by decide)]; exact hM.2.2.2.1
      have cr : ∀ Q, sd_Call (sd_E1 L xs fm) d y_M_readItems [.ref 271, .int (nI 101), .ref 282, .int (nI (4 * A 5 0 0)), .ref 414] (sd_wI (sd_wI σ 271 10 (nI (tp_ps b n a + 1))) 271 33 (nI (A 5 0 0 + 1))) Q ↔ Q none σ2 := fun Q => y5 d Q (by omega)
      simp (disch := first | exact sd_cr | exact sd_ci | exact sd_cu | exact sd_cl9 | assumption | omega | exact t_285 | exact t_283 | exact t_278 | exact t_281 | exact t_276 | exact t_274 | exact t_275 | exact t_277 | exact t_279 | exact t_280 | exact t_282 | exact t_284 | exact t_286 | exact t_287 | exact t_288 | exact t_289 | exact t_290 | exact t_291 | exact t_292 | exact t_293 | exact t_294 | exact t_295 | exact t_296 | exact t_297 | exact t_298 | exact t_299 | exact t_300) only [z_M_readClause_296, z_M_readClause_297, z_M_readClause_298, z_M_readClause_301, z_M_readClause_302, z_M_readClause_303, z_M_readClause_306, z_M_readClause_307, z_M_readClause_308, z_M_readClause_309, z_M_readClause_312, z_M_readClause_313, z_M_readClause_314, z_M_readClause_317, z_M_readClause_318, z_M_readClause_319, z_M_readClause_320, z_M_readClause_323, z_M_readClause_326, false_and, and_false, if_true, if_false, Decidable.not_not, sd_ci, sd_cr, sd_cl9, sd_cu, sd_cat0, sd_cat1, sd_rfS, sd_n01, sd_n11, sd_n1, sd_n10, sd_n00, sd_b01, sd_b0, true_and, and_true, and_self, not_true_eq_false, not_false_eq_true, false_implies, true_implies, implies_true, or_true, true_or, or_false, false_or, Option.toList_some, Option.toList_none, List.cons_append, List.nil_append, Nat.reduceAdd, Nat.reduceLeDiff, nz_sub, nz_lt0, nz_ge0, nz_le0, nz_gt0, nz_eq0, nz_eq1, nz_lt, nz_le, nz_eq, nz_cl, nz_in, nz_add, nz_mul, nz_m1, nz_m1', Nat.reduceMul, Nat.reduceSub, Nat.reduceLT, Nat.reduceEqDiff, not_false_eq_true, false_implies, true_implies, true_and, and_true, h_271, t_272, n_272, t_273, n_273, t_274, n_274, t_275, n_275, t_276, n_276, t_277, n_277, t_278, n_278, t_279, n_279, t_280, n_280, t_281, n_281, t_282, n_282, t_283, n_283, t_284, n_284, t_285, n_285, t_286, n_286, t_287, n_287, t_288, n_288, t_289, n_289, t_290, n_290, t_291, n_291, t_292, n_292, t_293, n_293, t_294, n_294, t_295, n_295, t_296, n_296, t_297, n_297, t_298, n_298, t_299, n_299, t_300, n_300, t_301, n_301, r_271_1, r_271_2, r_271_3, r_271_4, r_271_15, r_271_16, r_271_18, r_271_19, r_271_20, r_271_21, r_271_22, r_271_23, r_271_24, r_271_25, r_271_26, r_271_34, r_271_35, r_271_38, r_271_39, r_271_40, r_271_42, r_271_45, r_271_46, r_271_47, r_271_48, r_271_49, r_271_50, r_271_53, r_271_54, r_271_55, r_271_57, e31, wI_k, Nat.add_sub_cancel, cr]
      exact hq
  cases r with
  | none =>
    refine ⟨e, none, ?_, ?_, by omega, p2, fun _ _ _ q => by cases q⟩
    · intro σ h hX
      obtain ⟨σ2, y1, y2, y3, y4, y5⟩ := x _ (ct_s1_X (s := 3) (cn := A 5 0 0) h hpn)
      refine ⟨σ2, ⟨fun e' j z1 z2 z3 z4 => ?_, y2⟩, y3, fun _ _ _ q => (by cases q), fun D Q hD => ?_⟩
      · rw [y1 e' j z1 z2, ct_s1_o z1 (fun q => z3 q.1)]
      · obtain ⟨d, rfl⟩ : ∃ d, D = d + 1 := ⟨D - 1, by omega⟩
        refine sd_Call.iff (fun Q hq => ?_) Q
        rw [sd_Call.start (ls := [.ref 3, .ref c, sd_un, sd_un]) m_CountryReader_readClause (by decide) (Nat.le_of_ble_eq_true rfl) rfl]
        refine ct_preX (s := 3) h hX hb (by decide) hp hcn (by omega) ((y5 d _ (by omega)).mpr ?_)
        simp (disch := first | exact sd_cr | exact sd_ci | exact sd_cu | exact sd_cl9 | assumption | omega | exact t_259 | exact t_260 | exact t_261 | exact t_262 | exact t_263 | exact t_264 | exact t_254 | exact t_255 | exact t_256 | exact t_257 | exact t_266 | exact t_267 | exact t_268 | exact t_269 | exact t_270 | exact t_252 | exact t_240 | exact t_246 | exact t_2 | exact t_4 | exact t_5 | exact t_13 | exact t_14 | exact t_15 | exact t_16 | exact Or.inl t_39 | exact Or.inr t_7) only [z_CountryReader_readClause_78, z_CountryReader_readClause_81, z_CountryReader_readClause_82, false_and, and_false, if_true, if_false, Decidable.not_not, sd_ci, sd_cr, sd_cl9, sd_cu, sd_cat0, sd_cat1, sd_rfS, sd_n01, sd_n11, sd_n1, sd_n10, sd_n00, sd_b01, sd_b0, true_and, and_true, and_self, not_true_eq_false, not_false_eq_true, false_implies, true_implies, implies_true, or_true, true_or, or_false, false_or, Option.toList_some, Option.toList_none, List.cons_append, List.nil_append, Nat.reduceAdd, Nat.reduceLeDiff, nz_sub, nz_lt0, nz_ge0, nz_le0, nz_gt0, nz_eq0, nz_eq1, nz_lt, nz_le, nz_eq, nz_cl, nz_in, nz_add, nz_mul, nz_m1, nz_m1', Nat.reduceMul, Nat.reduceSub, Nat.reduceLT, Nat.reduceEqDiff, not_false_eq_true, false_implies, true_implies, true_and, and_true, Option.isSome_none, Bool.false_eq_true, sd_bF not_false]
        exact hq
    · intro σ o h hf hM
      obtain ⟨σ2, y1, y2, y3, y4, y5, y6⟩ := hitM σ o h hf hM
      refine ⟨σ2, ⟨fun e' j z1 z2 z3 z4 z5 z6 => y1 e' j (by omega) (by omega), y2⟩, fun _ => y4 rfl, fun _ _ _ q => (by cases q), fun D Q hD => ?_⟩
      obtain ⟨d, rfl⟩ : ∃ d, D = d + 1 := ⟨D - 1, by omega⟩
      refine sd_Call.iff (fun Q hq => ?_) Q
      rw [sd_Call.start (ls := [.ref 271, sd_un, sd_un, sd_un]) m_M_readClause (by decide) (Nat.le_of_ble_eq_true rfl) rfl]
      exact y6 d Q (by omega) hq
  | some v =>
    have hv := p3 v rfl
    have v0 : v 0 ≤ 4 := hv 0 (by decide)
    have v1 : v 1 ≤ 4 := hv 1 (by decide)
    have v2 : v 2 ≤ 11 := hv 2 (by decide)
    have v3 : v 3 ≤ 11 := hv 3 (by decide)
    have vb : ∀ k, k < 4 → v k < 1000 := fun k hk => by
      have : k = 0 ∨ k = 1 ∨ k = 2 ∨ k = 3 := by omega
      rcases this with rfl | rfl | rfl | rfl <;> omega
    refine ⟨e, some (ct_A3 A v, W, dn), ?_, ?_, by omega, p2, fun A' W' dn' q => ?_⟩
    · intro σ h hX
      obtain ⟨σ2, y1, y2, y3, y4, y5⟩ := x _ (ct_s1_X (s := 3) (cn := A 5 0 0) h hpn)
      have y4 := y4 v rfl
      have g : ∀ e' j, ¬ (e' = 1 ∧ j = 2) → e' ≠ 4 → ¬ (e' = 5 ∧ j = 3) → σ2.1 e' j = σ.1 e' j := fun e' j z1 z2 z3 => by rw [y1 e' j z1 z2, ct_s1_o z1 z3]
      refine ⟨sd_wI (sd_wA σ2 (c + 4) (va_cpy (σ2.1 4) (σ2.1 (c + 4)) 0 (A 5 0 0 * 4) 4)) c 5 (nI (A 5 0 0 + 1)), ⟨fun e' j z1 z2 z3 z4 => ?_, y2⟩, y3.fr (fun j _ => by rw [wI_c (by omega), wA_c (by omega)]) (fun j => by rw [wI_c (by omega), wA_c (by omega)]), fun A' W' dn' q => ?_, fun D Q hD => ?_⟩
      · rw [wI_c (by omega), wA_c (by omega)]
        exact g e' j z1 z2 (fun q => z3 q.1)
      · cases q
        have hXc := hX
        obtain ⟨hC', ⟨x1, x2, x3, x4, x5, x6⟩, ⟨⟨w1, w2, w3, w4⟩, w5, w6⟩, c0, c1, c2, c3⟩ := hXc
        refine ⟨hC, ⟨?_, ?_, fun p hp' => ?_, fun e' he => ?_, fun e' he => ?_, fun e' he j hj => ?_⟩, ?_, ?_, ?_, ?_, ?_⟩
        · rw [ct_A3_o (by omega), wI_o (by decide), wA_c (by omega), g c 0 (by omega) (by omega) (by omega)]; exact x1
        · rw [ct_A3_5, wI_k]
        · rw [ct_A3_o (by omega)] at hp'
          rw [ct_A3_o (by omega), wI_c (by omega), wA_c (by omega), g (c + 1) p (by omega) (by omega) (by omega)]; exact x3 p hp'
        · rw [ct_A3_o (by omega), wI_c (by omega), wA_c (by omega), g (c + 2) e' (by omega) (by omega) (by omega)]; exact x4 e' he
        · rw [ct_A3_o (by omega), wI_c (by omega), wA_c (by omega), g (c + 3) e' (by omega) (by omega) (by omega)]; exact x5 e' he
        · rw [ct_A3_5] at he
          rw [ct_A3_4, wI_c (by omega), wA_k]
          by_cases q : e' = A 5 0 0
          · rw [if_pos q, if_pos hj, pk_cpy_in (by omega) (by omega), show e' * 4 + j - A 5 0 0 * 4 = j by rw [q]; omega, Nat.zero_add]
            exact y4 j (by omega)
          · rw [if_neg q, pk_cpy_out (by omega), g (c + 4) _ (by omega) (by omega) (by omega)]
            exact x6 e' (by omega) j hj
        · rw [ct_A3_o (by omega)]
          exact hX.2.2.1.fr (fun j hj => funext fun i => by rw [wI_c (by omega), wA_c (by omega), g _ i (by omega) (by omega) (by omega)])
        · rw [ct_A3_o (by omega), wI_c (by omega), wA_c (by omega), g 5 0 (by omega) (by omega) (by omega)]; exact c0
        · rw [wI_c (by omega), wA_c (by omega), g 5 1 (by omega) (by omega) (by omega)]; exact c1
        · rw [wI_c (by omega), wA_c (by omega), g 5 2 (by omega) (by omega) (by omega)]; exact c2
        · rw [ct_A3_5, wI_c (by omega), wA_c (by omega), y1 5 3 (by omega) (by omega)]; exact ct_s1_5
      · obtain ⟨d, rfl⟩ : ∃ d, D = d + 1 := ⟨D - 1, by omega⟩
        refine sd_Call.iff (fun Q hq => ?_) Q
        obtain ⟨k0, k1, k2, k3, k4, k5, k6, k7, k8, r0, r1, r2, r3, r4, k9⟩ := hC.all (L := L) (xs := xs) (fm := fm)
        obtain ⟨s0, s1, s2, s3, s4, s5, s6, s7, s8, sr0, sr1, sr2, sr3⟩ := k9.all (L := L) (xs := xs) (fm := fm)
        simp only [Nat.add_assoc, Nat.reduceAdd] at s1 s2 s3 s4 s5 s6 s7 s8 sr0 sr1 sr2 sr3
        have z0 : σ2.1 c 5 = nI (A 5 0 0) := by rw [g c 5 (by omega) (by omega) (by omega)]; exact hX.2.1.2.1
        have z0' : (sd_wA σ2 (c + 4) (va_cpy (σ2.1 4) (σ2.1 (c + 4)) 0 (A 5 0 0 * 4) 4)).1 c 5 = nI (A 5 0 0) := by rw [wA_c (by omega)]; exact z0
        have c72 : A 5 0 0 * 4 + 4 ≤ 32 := by omega
        have h3 : (nI 3).toInt < 0 ∨ 2 < (nI 3).toInt := by decide
        rw [sd_Call.start (ls := [.ref 3, .ref c, sd_un, sd_un]) m_CountryReader_readClause (by decide) (Nat.le_of_ble_eq_true rfl) rfl]
        refine ct_preX (s := 3) h hX hb (by decide) hp hcn (by omega) ((y5 d _ (by omega)).mpr ?_)
        simp (disch := first | exact sd_cr | exact sd_ci | exact sd_cu | exact sd_cl9 | assumption | omega | exact t_259 | exact t_260 | exact t_261 | exact t_262 | exact t_263 | exact t_264 | exact t_254 | exact t_255 | exact t_256 | exact t_257 | exact t_266 | exact t_267 | exact t_268 | exact t_269 | exact t_270 | exact t_252 | exact t_240 | exact t_246 | exact t_2 | exact t_4 | exact t_5 | exact t_13 | exact t_14 | exact t_15 | exact t_16 | exact Or.inl t_39 | exact Or.inr t_7) only [zo_CountryReader_readClause_84 h3, z_CountryReader_readClause_78, z_CountryReader_readClause_81, z_CountryReader_readClause_82, z_CountryReader_readClause_83, z_CountryReader_readClause_84_0, z_CountryReader_readClause_84_1, z_CountryReader_readClause_84_2, z_CountryReader_readClause_112, z_CountryReader_readClause_113, z_CountryReader_readClause_114, z_CountryReader_readClause_117, z_CountryReader_readClause_118, z_CountryReader_readClause_119, z_CountryReader_readClause_122, z_CountryReader_readClause_123, z_CountryReader_readClause_126, z_CountryReader_readClause_127, zx_CountryReader_readClause_127, z_CountryReader_readClause_128, z_CountryReader_readClause_129, z_CountryReader_readClause_132, z_CountryReader_readClause_133, zx_CountryReader_readClause_133, z_CountryReader_readClause_134, z_CountryReader_readClause_135, z_CountryReader_readClause_136, z_CountryReader_readClause_139, z_CountryReader_readClause_140, z_CountryReader_readClause_143, z_CountryReader_readClause_144, zx_CountryReader_readClause_144, z_CountryReader_readClause_145, z_CountryReader_readClause_146, z_CountryReader_readClause_149, z_CountryReader_readClause_150, zx_CountryReader_readClause_150, z_CountryReader_readClause_151, z_CountryReader_readClause_152, z_CountryReader_readClause_153, z_CountryReader_readClause_154, z_CountryReader_readClause_155, z_CountryReader_readClause_158, z_CountryReader_readClause_159, z_CountryReader_readClause_160, z_CountryReader_readClause_163, z_CountryReader_readClause_166, z_CountryReader_readClause_167, z_CountryReader_readClause_170, z_CountryReader_readClause_173, z_CountryReader_readClause_175, z_CountryReader_readClause_176, z_CountryReader_readClause_178, z_CountryReader_readClause_181, z_CountryReader_readClause_182, z_CountryReader_readClause_185, z_CountryReader_readClause_186, z_CountryReader_readClause_189, z_CountryReader_readClause_190, z_CountryReader_readClause_191, z_CountryReader_readClause_194, z_CountryReader_readClause_195, z_CountryReader_readClause_196, z_CountryReader_readClause_197, z_CountryReader_readClause_200, z_CountryReader_readClause_201, z_CountryReader_readClause_202, z_CountryReader_readClause_205, z_CountryReader_readClause_206, z_CountryReader_readClause_209, z_CountryReader_readClause_210, z_CountryReader_readClause_211, z_CountryReader_readClause_212, z_CountryReader_readClause_215, z_CountryReader_readClause_216, z_CountryReader_readClause_217, z_CountryReader_readClause_220, z_CountryReader_readClause_221, z_CountryReader_readClause_222, z_CountryReader_readClause_225, z_CountryReader_readClause_226, false_and, and_false, if_true, if_false, Decidable.not_not, sd_ci, sd_cr, sd_cl9, sd_cu, sd_cat0, sd_cat1, sd_rfS, sd_n01, sd_n11, sd_n1, sd_n10, sd_n00, sd_b01, sd_b0, true_and, and_true, and_self, not_true_eq_false, not_false_eq_true, false_implies, true_implies, implies_true, or_true, true_or, or_false, false_or, Option.toList_some, Option.toList_none, List.cons_append, List.nil_append, Nat.reduceAdd, Nat.reduceLeDiff, nz_sub, nz_lt0, nz_ge0, nz_le0, nz_gt0, nz_eq0, nz_eq1, nz_lt, nz_le, nz_eq, nz_cl, nz_in, nz_add, nz_mul, nz_m1, nz_m1', Nat.reduceMul, Nat.reduceSub, Nat.reduceLT, Nat.reduceEqDiff, not_false_eq_true, false_implies, true_implies, true_and, and_true, h_0, h_1, t_2, n_2, h_3, t_4, n_4, t_5, n_5, h_6, t_7, n_7, t_8, n_8, t_9, n_9, t_10, n_10, t_11, n_11, t_12, n_12, t_13, n_13, t_14, n_14, t_15, n_15, t_16, n_16, h_17, h_18, t_19, n_19, t_20, n_20, t_21, n_21, t_22, n_22, h_28, t_29, n_29, t_30, n_30, t_31, n_31, t_32, n_32, h_38, t_39, n_39, t_240, n_240, t_246, n_246, t_252, n_252, h_253, t_254, n_254, t_255, n_255, t_256, n_256, t_257, n_257, h_258, t_259, n_259, t_260, n_260, t_261, n_261, t_262, n_262, t_263, n_263, t_264, n_264, h_265, t_266, n_266, t_267, n_267, t_268, n_268, t_269, n_269, t_270, n_270, r_0_0, r_0_1, r_0_2, r_0_3, r_0_6, r_0_7, r_0_8, r_0_9, r_0_11, r_0_12, r_0_13, r_0_14, r_0_15, r_1_0, r_3_0, r_3_1, r_3_2, r_6_0, r_6_1, r_6_4, r_6_5, r_6_7, r_7_0, r_7_1, r_7_2, r_7_3, r_7_4, r_17_0, r_17_1, r_18_1, r_18_2, r_18_3, r_18_4, r_18_6, r_28_1, r_28_2, r_28_3, r_28_4, r_28_6, r_38_0, r_253_0, r_253_1, r_253_2, r_253_3, r_258_0, r_258_1, r_258_3, r_258_4, r_258_6, r_258_8, r_265_0, r_265_1, r_265_3, r_265_4, r_265_5, r_0_4, r_0_5, r_3_1, k0, k3, k4, k5, k6, k7, k8, r0, r1, r2, r3, r4, s0, s7, s8, sr3, z0, z0', c72, Option.isSome_some, sd_bT trivial, Nat.zero_add, Nat.le_refl]
        exact hq
    · intro σ o h hf hM
      obtain ⟨σ2, y1, y2, y3, y4, y5, y6⟩ := hitM σ o h hf hM
      obtain ⟨yM, yf, yv⟩ := y5 v rfl
      refine ⟨σ2, ⟨fun e' j z1 z2 z3 z4 z5 z6 => y1 e' j (by omega) (by omega), y2⟩, fun q => (by cases q), fun A' W' dn' q => ?_, fun D Q hD => ?_⟩
      · cases q
        refine ⟨yM, yf, ?_⟩
        obtain ⟨c0, c1, c2, c3, c4, c5, c6, c7⟩ := hM
        have g7 : ∀ i, σ2.1 277 i = σ.1 277 i := fun i => y1 277 i (by omega) (by omega)
        have g9 : ∀ i, σ2.1 279 i = σ.1 279 i := fun i => y1 279 i (by omega) (by omega)
        refine ⟨?_, ?_, ?_, ?_, fun p hp' => ?_, fun e' he => ?_, fun v' hv' j hj => ?_, fun e' he j hj => ?_⟩
        · rw [ct_A3_o (by omega), y1 271 30 (by omega) (by omega)]; exact c0
        · rw [y1 271 31 (by omega) (by omega)]; exact c1
        · rw [y1 271 32 (by omega) (by omega)]; exact c2
        · rw [ct_A3_5]; exact y3
        · rw [ct_A3_o (by omega)] at hp'
          rw [g7, g7, g7, ct_A3_o (by omega)]
          obtain ⟨d1, d2, d3, d4⟩ := c4 p hp'
          exact ⟨d1, d2, d3, fun i hi => by rw [g7]; exact d4 i hi⟩
        · rw [g9, g9, ct_A3_o (by omega), ct_A3_o (by omega)]; exact c5 e' he
        · rw [y1 280 _ (by omega) (by omega)]; exact c6 v' hv' j hj
        · rw [ct_A3_5] at he
          rw [ct_A3_4]
          by_cases q : e' = A 5 0 0
          · rw [if_pos q, if_pos hj, q]; exact yv j hj
          · rw [if_neg q, y1 282 _ (by omega) (by omega)]; exact c7 e' (by omega) j hj
      · obtain ⟨d, rfl⟩ : ∃ d, D = d + 1 := ⟨D - 1, by omega⟩
        refine sd_Call.iff (fun Q hq => ?_) Q
        rw [sd_Call.start (ls := [.ref 271, sd_un, sd_un, sd_un]) m_M_readClause (by decide) (Nat.le_of_ble_eq_true rfl) rfl]
        exact y6 d Q (by omega) hq
    · cases q
      refine ⟨⟨fun i j k => ?_, q2, by rw [ct_A3_o (by omega)]; exact q3, by rw [ct_A3_5]; omega, q5, q6, fun p => by rw [ct_A3_o (by omega)]; exact q7 p, fun p => by rw [ct_A3_o (by omega)]; exact q8 p, fun p => by rw [ct_A3_o (by omega)]; exact q9 p, by rw [ct_A3_o (by omega)]; exact q10, q11, q12, q13, fun e' he => ?_, q15⟩, by omega, fun i j k hi => ct_A3_o (by omega)⟩
      · unfold ct_A3
        split
        · omega
        · split
          · split
            · rename_i z; have := vb k z; omega
            · decide
          · exact q1 i j k
      · rw [ct_A3_5] at he
        rw [ct_A3_4, ct_A3_4, ct_A3_4, ct_A3_4]
        by_cases q : e' = A 5 0 0
        · rw [if_pos q, if_pos q, if_pos q, if_pos q]
          exact ⟨v0, v1, v2, v3⟩
        · rw [if_neg q, if_neg q, if_neg q, if_neg q]
          exact q14 e' (by omega)
end SDBZ
