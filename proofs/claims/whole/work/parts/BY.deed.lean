/-! clauses of a country: the beginning of one; a deed -/
theorem ct_x0 : ∀ m, m < 256 → ∀ s, tx_x 0 (nI m) = some s → s < 4 ∧ m = tx_b 0 s := by
  intro m hm s hs
  have : ∀ m, m < 256 → tx_x 0 (nI m) = none ∨ ∃ s, s < 4 ∧ tx_x 0 (nI m) = some s ∧ m = tx_b 0 s := by decide +kernel
  rcases this m hm with q | ⟨s', q1, q2, q3⟩
  · rw [q] at hs; cases hs
  · rw [q2] at hs
    cases hs
    exact ⟨q1, q3⟩
theorem ct_x0s : ∀ s, s < 4 → tx_x 0 (nI (tx_b 0 s)) = some s ∧ tx_b 0 s < 256 := by decide +kernel
theorem ct_x0m : tx_x 0 (-1) = none := by decide +kernel
/-- how many clauses of a sort were read -/
def ct_cn (A W : sw_T) (dn s : Nat) : Nat := if s = 0 then A 0 0 0 else if s = 1 then dn else if s = 2 then W 0 0 0 else A 5 0 0
section SDBY
variable {L : Nat} {xs : Nat → Int32} {fm : Option Nat} {b : Nat → Nat} {n a c s dn : Nat} {A W : sw_T} {σ : sd_Mem}
theorem ct_mc8 : ∀ s, s < 4 → ct_mc s ≤ 8 := by decide
theorem ct_X.cn (h : ct_X σ c A W dn) (hs : s < 4) : σ.1 5 s = nI (ct_cn A W dn s) := by
  obtain ⟨_, _, _, h0, h1, h2, h3⟩ := h
  unfold ct_cn
  have : s = 0 ∨ s = 1 ∨ s = 2 ∨ s = 3 := by omega
  rcases this with rfl | rfl | rfl | rfl
  · exact h0
  · exact h1
  · exact h2
  · exact h3
/-- the store of the class when it goes for the items -/
def ct_s1 (σ : sd_Mem) (s cn p : Nat) : sd_Mem := sd_wI (sd_wI (sd_wI σ 1 2 (nI p)) 5 s (nI (cn + 1))) 1 2 (nI (p + 1))
theorem ct_s1_o {cn p e j : Nat} (h1 : ¬ (e = 1 ∧ j = 2)) (h5 : ¬ (e = 5 ∧ j = s)) : (ct_s1 σ s cn p).1 e j = σ.1 e j := by
  unfold ct_s1
  rw [wI_1, if_neg h1, wI_1, if_neg h5, wI_1, if_neg h1]
theorem ct_s1_5 {cn p : Nat} : (ct_s1 σ s cn p).1 5 s = nI (cn + 1) := by
  unfold ct_s1
  rw [wI_c (by decide), wI_k]
theorem ct_s1_X (h : tp_X σ b n a) {cn p : Nat} (hp : p < n) : tp_X (ct_s1 σ s cn p) b n (p + 1) := by
  unfold ct_s1
  refine (((h.at (a' := p) (by omega)).fr (σ' := sd_wI (sd_wI σ 1 2 (nI p)) 5 s (nI (cn + 1))) (fun j _ => by rw [wI_c (by decide)]) (fun j => by rw [wI_c (by decide)]))).at (by omega)
theorem ct_preX (h : tp_X σ b n a) (hX : ct_X σ c A W dn) (hb : ∀ i, i < n → b i < 256) (hs : s < 4) (hp : tk_T b n a (tx_b 0 s)) (hcn : ct_cn A W dn s < ct_mc s) {D : Nat} {Q : Option Value → sd_Mem → Prop} (hD : 7 ≤ D) (hq : sd_Call (sd_E1 L xs fm) D y_CountryReader_readItems [.ref 3, .int (nI s)] (ct_s1 σ s (ct_cn A W dn s) (tp_ps b n a)) fun v σ2 => sd_Go (sd_E1 L xs fm) D y_CountryReader_readClause 78 [.ref 3, .ref c, .int (nI (tx_b 0 s)), .int (nI s)] (v.toList ++ []) σ2 Q) : sd_Go (sd_E1 L xs fm) D y_CountryReader_readClause 0 [.ref 3, .ref c, sd_un, sd_un] [] σ Q := by
  have ea : tp_at b n a = nI (tx_b 0 s) := (tk_at hb (ct_x0s s hs).2).mpr hp
  have cp := fun Q => k_peek (L := L) (xs := xs) (fm := fm) (D := D) (Q := Q) h (by omega)
  rw [ea] at cp
  have hb2 := (ct_x0s s hs).2
  have ci : ∀ (σ : sd_Mem) Q, sd_Call (sd_E1 L xs fm) D y_Str_indexOf [.ref 410, .int (nI (tx_b 0 s))] σ Q ↔ Q (some (.int (nI s))) σ := fun σ Q => by
    have := k_indexOf (L := L) (xs := xs) (fm := fm) (σ := σ) (Q := Q) (i := 0) (D := D) (by decide) hb2 (by omega)
    rw [(ct_x0s s hs).1] at this
    exact this
  have c4 := hX.cn hs
  have c4' : (sd_wI σ 1 2 (nI (tp_ps b n a))).1 5 s = nI (ct_cn A W dn s) := by rw [wI_c (by decide)]; exact c4
  have c12 : (sd_wI (sd_wI σ 1 2 (nI (tp_ps b n a))) 5 s (nI (ct_cn A W dn s + 1))).1 1 2 = nI (tp_ps b n a) := by rw [wI_c (by decide)]; exact wI_k
  have u1 := ct_t1
  have e0 := ct_e0 s hs
  have hmc := ct_mc8 s hs
  have hm0 : tx_b 0 s < 1000 := by omega
  have hs4 : ¬ 4 ≤ s := by omega
  unfold ct_s1 at hq
  simp (disch := first | exact sd_cr | exact sd_ci | exact sd_cu | exact sd_cl9 | assumption | omega | exact t_259 | exact t_260 | exact t_261 | exact t_262 | exact t_263 | exact t_264 | exact t_254 | exact t_255 | exact t_256 | exact t_257 | exact t_266 | exact t_267 | exact t_268 | exact t_269 | exact t_270 | exact t_252 | exact t_240 | exact t_246 | exact t_2 | exact t_4 | exact t_5 | exact t_13 | exact t_14 | exact t_15 | exact t_16 | exact Or.inl t_39 | exact Or.inr t_7) only [z_CountryReader_readClause_0, z_CountryReader_readClause_1, z_CountryReader_readClause_4, z_CountryReader_readClause_7, z_CountryReader_readClause_8, z_CountryReader_readClause_9, z_CountryReader_readClause_10, z_CountryReader_readClause_13, z_CountryReader_readClause_14, z_CountryReader_readClause_17, z_CountryReader_readClause_19, z_CountryReader_readClause_20, z_CountryReader_readClause_21, z_CountryReader_readClause_24, z_CountryReader_readClause_25, z_CountryReader_readClause_26, z_CountryReader_readClause_29, z_CountryReader_readClause_30, z_CountryReader_readClause_31, z_CountryReader_readClause_34, z_CountryReader_readClause_35, z_CountryReader_readClause_38, z_CountryReader_readClause_39, zx_CountryReader_readClause_39, z_CountryReader_readClause_40, z_CountryReader_readClause_43, z_CountryReader_readClause_44, zx_CountryReader_readClause_44, z_CountryReader_readClause_45, z_CountryReader_readClause_48, z_CountryReader_readClause_49, z_CountryReader_readClause_50, z_CountryReader_readClause_51, z_CountryReader_readClause_54, z_CountryReader_readClause_55, z_CountryReader_readClause_56, zx_CountryReader_readClause_56, z_CountryReader_readClause_57, z_CountryReader_readClause_58, z_CountryReader_readClause_59, z_CountryReader_readClause_60, z_CountryReader_readClause_61, z_CountryReader_readClause_64, z_CountryReader_readClause_65, z_CountryReader_readClause_68, z_CountryReader_readClause_69, z_CountryReader_readClause_70, z_CountryReader_readClause_73, z_CountryReader_readClause_74, z_CountryReader_readClause_75, false_and, and_false, if_true, if_false, Decidable.not_not, sd_ci, sd_cr, sd_cl9, sd_cu, sd_cat0, sd_cat1, sd_rfS, sd_n01, sd_n11, sd_n1, sd_n10, sd_n00, sd_b01, sd_b0, true_and, and_true, and_self, not_true_eq_false, not_false_eq_true, false_implies, true_implies, implies_true, or_true, true_or, or_false, false_or, Option.toList_some, Option.toList_none, List.cons_append, List.nil_append, Nat.reduceAdd, Nat.reduceLeDiff, nz_sub, nz_lt0, nz_ge0, nz_le0, nz_gt0, nz_eq0, nz_eq1, nz_lt, nz_le, nz_eq, nz_cl, nz_in, nz_add, nz_mul, nz_m1, nz_m1', Nat.reduceMul, Nat.reduceSub, Nat.reduceLT, Nat.reduceEqDiff, not_false_eq_true, false_implies, true_implies, true_and, and_true, h_0, h_1, t_2, n_2, h_3, t_4, n_4, t_5, n_5, h_6, t_7, n_7, t_8, n_8, t_9, n_9, t_10, n_10, t_11, n_11, t_12, n_12, t_13, n_13, t_14, n_14, t_15, n_15, t_16, n_16, h_17, h_18, t_19, n_19, t_20, n_20, t_21, n_21, t_22, n_22, h_28, t_29, n_29, t_30, n_30, t_31, n_31, t_32, n_32, h_38, t_39, n_39, t_240, n_240, t_246, n_246, t_252, n_252, h_253, t_254, n_254, t_255, n_255, t_256, n_256, t_257, n_257, h_258, t_259, n_259, t_260, n_260, t_261, n_261, t_262, n_262, t_263, n_263, t_264, n_264, h_265, t_266, n_266, t_267, n_267, t_268, n_268, t_269, n_269, t_270, n_270, r_0_0, r_0_1, r_0_2, r_0_3, r_0_6, r_0_7, r_0_8, r_0_9, r_0_11, r_0_12, r_0_13, r_0_14, r_0_15, r_1_0, r_3_0, r_3_1, r_3_2, r_6_0, r_6_1, r_6_4, r_6_5, r_6_7, r_7_0, r_7_1, r_7_2, r_7_3, r_7_4, r_17_0, r_17_1, r_18_1, r_18_2, r_18_3, r_18_4, r_18_6, r_28_1, r_28_2, r_28_3, r_28_4, r_28_6, r_38_0, r_253_0, r_253_1, r_253_2, r_253_3, r_258_0, r_258_1, r_258_3, r_258_4, r_258_6, r_258_8, r_265_0, r_265_1, r_265_3, r_265_4, r_265_5, r_0_4, r_0_5, r_3_0, r_3_2, cp, tx_c2 _ hb2, ci, hs, hs4, ct_q1, ct_E0, e0, c4', hcn, c12]
  exact hq
/-- the reference goes for the items -/
theorem ct_preM {t o : Nat} (h : tp_M σ t o b n a) (hM : ct_M σ A W dn) (hb : ∀ i, i < n → b i < 256) (hs : s < 4) (hp : tk_T b n a (tx_b 0 s)) (hcn : ct_cn A W dn s < ct_mc s) {D : Nat} {Q : Option Value → sd_Mem → Prop} (hD : 7 ≤ D) (hq : sd_Go (sd_E1 L xs fm) D y_M_readClause (if s = 0 then 96 else if s = 1 then 181 else if s = 2 then 262 else 296) [.ref 271, .int (nI (tx_b 0 s)), .int (nI 1), sd_un] [] (sd_wI σ 271 10 (nI (tp_ps b n a + 1))) Q) : sd_Go (sd_E1 L xs fm) D y_M_readClause 0 [.ref 271, sd_un, sd_un, sd_un] [] σ Q := by
  have ea : tp_at b n a = nI (tx_b 0 s) := (tk_at hb (ct_x0s s hs).2).mpr hp
  have cl := fun Q => k_look (L := L) (xs := xs) (fm := fm) (D := D) (Q := Q) h (by omega)
  rw [ea] at cl
  obtain ⟨m0, m1, m2, m3, _⟩ := hM
  have w : ∀ j, j ≠ 10 → (sd_wI σ 271 10 (nI (tp_ps b n a))).1 271 j = σ.1 271 j := fun j hj => wI_o hj
  have m0' := (w 30 (by decide)).trans m0
  have m1' := (w 31 (by decide)).trans m1
  have m2' := (w 32 (by decide)).trans m2
  have m3' := (w 33 (by decide)).trans m3
  have : s = 0 ∨ s = 1 ∨ s = 2 ∨ s = 3 := by omega
  rcases this with rfl | rfl | rfl | rfl
  · rw [if_pos rfl] at hq
    have hcn : A 0 0 0 < 5 := hcn
    rw [tx_b0] at cl hq
    simp (disch := first | exact sd_cr | exact sd_ci | exact sd_cu | exact sd_cl9 | assumption | omega | exact t_285 | exact t_283 | exact t_278 | exact t_281 | exact t_276 | exact t_274 | exact t_275 | exact t_277 | exact t_279 | exact t_280 | exact t_282 | exact t_284 | exact t_286 | exact t_287 | exact t_288 | exact t_289 | exact t_290 | exact t_291 | exact t_292 | exact t_293 | exact t_294 | exact t_295 | exact t_296 | exact t_297 | exact t_298 | exact t_299 | exact t_300) only [z_M_readClause_0, z_M_readClause_1, z_M_readClause_4, z_M_readClause_5, z_M_readClause_6, z_M_readClause_8, z_M_readClause_11, z_M_readClause_12, z_M_readClause_15, z_M_readClause_16, z_M_readClause_19, z_M_readClause_20, z_M_readClause_22, z_M_readClause_25, z_M_readClause_26, z_M_readClause_29, z_M_readClause_31, z_M_readClause_34, z_M_readClause_35, z_M_readClause_37, z_M_readClause_40, z_M_readClause_41, z_M_readClause_44, z_M_readClause_46, z_M_readClause_49, z_M_readClause_50, z_M_readClause_52, z_M_readClause_55, z_M_readClause_56, z_M_readClause_59, z_M_readClause_61, z_M_readClause_64, z_M_readClause_65, z_M_readClause_68, z_M_readClause_69, z_M_readClause_70, z_M_readClause_71, z_M_readClause_74, z_M_readClause_75, z_M_readClause_78, z_M_readClause_79, z_M_readClause_80, z_M_readClause_81, z_M_readClause_82, z_M_readClause_85, z_M_readClause_86, z_M_readClause_87, z_M_readClause_90, z_M_readClause_91, z_M_readClause_93, false_and, and_false, if_true, if_false, Decidable.not_not, sd_ci, sd_cr, sd_cl9, sd_cu, sd_cat0, sd_cat1, sd_rfS, sd_n01, sd_n11, sd_n1, sd_n10, sd_n00, sd_b01, sd_b0, true_and, and_true, and_self, not_true_eq_false, not_false_eq_true, false_implies, true_implies, implies_true, or_true, true_or, or_false, false_or, Option.toList_some, Option.toList_none, List.cons_append, List.nil_append, Nat.reduceAdd, Nat.reduceLeDiff, nz_sub, nz_lt0, nz_ge0, nz_le0, nz_gt0, nz_eq0, nz_eq1, nz_lt, nz_le, nz_eq, nz_cl, nz_in, nz_add, nz_mul, nz_m1, nz_m1', Nat.reduceMul, Nat.reduceSub, Nat.reduceLT, Nat.reduceEqDiff, not_false_eq_true, false_implies, true_implies, true_and, and_true, h_271, t_272, n_272, t_273, n_273, t_274, n_274, t_275, n_275, t_276, n_276, t_277, n_277, t_278, n_278, t_279, n_279, t_280, n_280, t_281, n_281, t_282, n_282, t_283, n_283, t_284, n_284, t_285, n_285, t_286, n_286, t_287, n_287, t_288, n_288, t_289, n_289, t_290, n_290, t_291, n_291, t_292, n_292, t_293, n_293, t_294, n_294, t_295, n_295, t_296, n_296, t_297, n_297, t_298, n_298, t_299, n_299, t_300, n_300, t_301, n_301, r_271_1, r_271_2, r_271_3, r_271_4, r_271_15, r_271_16, r_271_18, r_271_19, r_271_20, r_271_21, r_271_22, r_271_23, r_271_24, r_271_25, r_271_26, r_271_34, r_271_35, r_271_38, r_271_39, r_271_40, r_271_42, r_271_45, r_271_46, r_271_47, r_271_48, r_271_49, r_271_50, r_271_53, r_271_54, r_271_55, r_271_57, cl, m0', hcn, wI_k, wI_wI]
    exact hq
  · rw [if_neg (by decide), if_pos rfl] at hq
    have hcn : dn < 8 := hcn
    rw [tx_b1] at cl hq
    simp (disch := first | exact sd_cr | exact sd_ci | exact sd_cu | exact sd_cl9 | assumption | omega | exact t_285 | exact t_283 | exact t_278 | exact t_281 | exact t_276 | exact t_274 | exact t_275 | exact t_277 | exact t_279 | exact t_280 | exact t_282 | exact t_284 | exact t_286 | exact t_287 | exact t_288 | exact t_289 | exact t_290 | exact t_291 | exact t_292 | exact t_293 | exact t_294 | exact t_295 | exact t_296 | exact t_297 | exact t_298 | exact t_299 | exact t_300) only [z_M_readClause_0, z_M_readClause_1, z_M_readClause_4, z_M_readClause_5, z_M_readClause_6, z_M_readClause_8, z_M_readClause_11, z_M_readClause_12, z_M_readClause_15, z_M_readClause_16, z_M_readClause_19, z_M_readClause_20, z_M_readClause_22, z_M_readClause_25, z_M_readClause_26, z_M_readClause_29, z_M_readClause_31, z_M_readClause_34, z_M_readClause_35, z_M_readClause_37, z_M_readClause_40, z_M_readClause_41, z_M_readClause_44, z_M_readClause_46, z_M_readClause_49, z_M_readClause_50, z_M_readClause_52, z_M_readClause_55, z_M_readClause_56, z_M_readClause_59, z_M_readClause_61, z_M_readClause_64, z_M_readClause_65, z_M_readClause_68, z_M_readClause_69, z_M_readClause_70, z_M_readClause_71, z_M_readClause_74, z_M_readClause_75, z_M_readClause_78, z_M_readClause_79, z_M_readClause_80, z_M_readClause_81, z_M_readClause_82, z_M_readClause_85, z_M_readClause_86, z_M_readClause_87, z_M_readClause_90, z_M_readClause_91, z_M_readClause_93, z_M_readClause_175, z_M_readClause_176, z_M_readClause_178, false_and, and_false, if_true, if_false, Decidable.not_not, sd_ci, sd_cr, sd_cl9, sd_cu, sd_cat0, sd_cat1, sd_rfS, sd_n01, sd_n11, sd_n1, sd_n10, sd_n00, sd_b01, sd_b0, true_and, and_true, and_self, not_true_eq_false, not_false_eq_true, false_implies, true_implies, implies_true, or_true, true_or, or_false, false_or, Option.toList_some, Option.toList_none, List.cons_append, List.nil_append, Nat.reduceAdd, Nat.reduceLeDiff, nz_sub, nz_lt0, nz_ge0, nz_le0, nz_gt0, nz_eq0, nz_eq1, nz_lt, nz_le, nz_eq, nz_cl, nz_in, nz_add, nz_mul, nz_m1, nz_m1', Nat.reduceMul, Nat.reduceSub, Nat.reduceLT, Nat.reduceEqDiff, not_false_eq_true, false_implies, true_implies, true_and, and_true, h_271, t_272, n_272, t_273, n_273, t_274, n_274, t_275, n_275, t_276, n_276, t_277, n_277, t_278, n_278, t_279, n_279, t_280, n_280, t_281, n_281, t_282, n_282, t_283, n_283, t_284, n_284, t_285, n_285, t_286, n_286, t_287, n_287, t_288, n_288, t_289, n_289, t_290, n_290, t_291, n_291, t_292, n_292, t_293, n_293, t_294, n_294, t_295, n_295, t_296, n_296, t_297, n_297, t_298, n_298, t_299, n_299, t_300, n_300, t_301, n_301, r_271_1, r_271_2, r_271_3, r_271_4, r_271_15, r_271_16, r_271_18, r_271_19, r_271_20, r_271_21, r_271_22, r_271_23, r_271_24, r_271_25, r_271_26, r_271_34, r_271_35, r_271_38, r_271_39, r_271_40, r_271_42, r_271_45, r_271_46, r_271_47, r_271_48, r_271_49, r_271_50, r_271_53, r_271_54, r_271_55, r_271_57, cl, m1', hcn, wI_k, wI_wI]
    exact hq
  · rw [if_neg (by decide), if_neg (by decide), if_pos rfl] at hq
    have hcn : W 0 0 0 < 8 := hcn
    rw [tx_b2] at cl hq
    simp (disch := first | exact sd_cr | exact sd_ci | exact sd_cu | exact sd_cl9 | assumption | omega | exact t_285 | exact t_283 | exact t_278 | exact t_281 | exact t_276 | exact t_274 | exact t_275 | exact t_277 | exact t_279 | exact t_280 | exact t_282 | exact t_284 | exact t_286 | exact t_287 | exact t_288 | exact t_289 | exact t_290 | exact t_291 | exact t_292 | exact t_293 | exact t_294 | exact t_295 | exact t_296 | exact t_297 | exact t_298 | exact t_299 | exact t_300) only [z_M_readClause_0, z_M_readClause_1, z_M_readClause_4, z_M_readClause_5, z_M_readClause_6, z_M_readClause_8, z_M_readClause_11, z_M_readClause_12, z_M_readClause_15, z_M_readClause_16, z_M_readClause_19, z_M_readClause_20, z_M_readClause_22, z_M_readClause_25, z_M_readClause_26, z_M_readClause_29, z_M_readClause_31, z_M_readClause_34, z_M_readClause_35, z_M_readClause_37, z_M_readClause_40, z_M_readClause_41, z_M_readClause_44, z_M_readClause_46, z_M_readClause_49, z_M_readClause_50, z_M_readClause_52, z_M_readClause_55, z_M_readClause_56, z_M_readClause_59, z_M_readClause_61, z_M_readClause_64, z_M_readClause_65, z_M_readClause_68, z_M_readClause_69, z_M_readClause_70, z_M_readClause_71, z_M_readClause_74, z_M_readClause_75, z_M_readClause_78, z_M_readClause_79, z_M_readClause_80, z_M_readClause_81, z_M_readClause_82, z_M_readClause_85, z_M_readClause_86, z_M_readClause_87, z_M_readClause_90, z_M_readClause_91, z_M_readClause_93, z_M_readClause_175, z_M_readClause_176, z_M_readClause_178, z_M_readClause_256, z_M_readClause_257, z_M_readClause_259, false_and, and_false, if_true, if_false, Decidable.not_not, sd_ci, sd_cr, sd_cl9, sd_cu, sd_cat0, sd_cat1, sd_rfS, sd_n01, sd_n11, sd_n1, sd_n10, sd_n00, sd_b01, sd_b0, true_and, and_true, and_self, not_true_eq_false, not_false_eq_true, false_implies, true_implies, implies_true, or_true, true_or, or_false, false_or, Option.toList_some, Option.toList_none, List.cons_append, List.nil_append, Nat.reduceAdd, Nat.reduceLeDiff, nz_sub, nz_lt0, nz_ge0, nz_le0, nz_gt0, nz_eq0, nz_eq1, nz_lt, nz_le, nz_eq, nz_cl, nz_in, nz_add, nz_mul, nz_m1, nz_m1', Nat.reduceMul, Nat.reduceSub, Nat.reduceLT, Nat.reduceEqDiff, not_false_eq_true, false_implies, true_implies, true_and, and_true, h_271, t_272, n_272, t_273, n_273, t_274, n_274, t_275, n_275, t_276, n_276, t_277, n_277, t_278, n_278, t_279, n_279, t_280, n_280, t_281, n_281, t_282, n_282, t_283, n_283, t_284, n_284, t_285, n_285, t_286, n_286, t_287, n_287, t_288, n_288, t_289, n_289, t_290, n_290, t_291, n_291, t_292, n_292, t_293, n_293, t_294, n_294, t_295, n_295, t_296, n_296, t_297, n_297, t_298, n_298, t_299, n_299, t_300, n_300, t_301, n_301, r_271_1, r_271_2, r_271_3, r_271_4, r_271_15, r_271_16, r_271_18, r_271_19, r_271_20, r_271_21, r_271_22, r_271_23, r_271_24, r_271_25, r_271_26, r_271_34, r_271_35, r_271_38, r_271_39, r_271_40, r_271_42, r_271_45, r_271_46, r_271_47, r_271_48, r_271_49, r_271_50, r_271_53, r_271_54, r_271_55, r_271_57, cl, m2', hcn, wI_k, wI_wI]
    exact hq
  · rw [if_neg (by decide), if_neg (by decide), if_neg (by decide)] at hq
    have hcn : A 5 0 0 < 8 := hcn
    have hcn' : ¬ 8 ≤ A 5 0 0 := by omega
    rw [tx_b3] at cl hq
    simp (disch := first | exact sd_cr | exact sd_ci | exact sd_cu | exact sd_cl9 | assumption | omega | exact t_285 | exact t_283 | exact t_278 | exact t_281 | exact t_276 | exact t_274 | exact t_275 | exact t_277 | exact t_279 | exact t_280 | exact t_282 | exact t_284 | exact t_286 | exact t_287 | exact t_288 | exact t_289 | exact t_290 | exact t_291 | exact t_292 | exact t_293 | exact t_294 | exact t_295 | exact t_296 | exact t_297 | exact t_298 | exact t_299 | exact t_300) only [z_M_readClause_0, z_M_readClause_1, z_M_readClause_4, z_M_readClause_5, z_M_readClause_6, z_M_readClause_8, z_M_readClause_11, z_M_readClause_12, z_M_readClause_15, z_M_readClause_16, z_M_readClause_19, z_M_readClause_20, z_M_readClause_22, z_M_readClause_25, z_M_readClause_26, z_M_readClause_29, z_M_readClause_31, z_M_readClause_34, z_M_readClause_35, z_M_readClause_37, z_M_readClause_40, z_M_readClause_41, z_M_readClause_44, z_M_readClause_46, z_M_readClause_49, z_M_readClause_50, z_M_readClause_52, z_M_readClause_55, z_M_readClause_56, z_M_readClause_59, z_M_readClause_61, z_M_readClause_64, z_M_readClause_65, z_M_readClause_68, z_M_readClause_69, z_M_readClause_70, z_M_readClause_71, z_M_readClause_74, z_M_readClause_75, z_M_readClause_78, z_M_readClause_79, z_M_readClause_80, z_M_readClause_81, z_M_readClause_82, z_M_readClause_85, z_M_readClause_86, z_M_readClause_87, z_M_readClause_90, z_M_readClause_91, z_M_readClause_93, z_M_readClause_175, z_M_readClause_176, z_M_readClause_178, z_M_readClause_256, z_M_readClause_257, z_M_readClause_259, false_and, and_false, if_true, if_false, Decidable.not_not, sd_ci, sd_cr, sd_cl9, sd_cu, sd_cat0, sd_cat1, sd_rfS, sd_n01, sd_n11, sd_n1, sd_n10, sd_n00, sd_b01, sd_b0, true_and, and_true, and_self, not_true_eq_false, not_false_eq_true, false_implies, true_implies, implies_true, or_true, true_or, or_false, false_or, Option.toList_some, Option.toList_none, List.cons_append, List.nil_append, Nat.reduceAdd, Nat.reduceLeDiff, nz_sub, nz_lt0, nz_ge0, nz_le0, nz_gt0, nz_eq0, nz_eq1, nz_lt, nz_le, nz_eq, nz_cl, nz_in, nz_add, nz_mul, nz_m1, nz_m1', Nat.reduceMul, Nat.reduceSub, Nat.reduceLT, Nat.reduceEqDiff, not_false_eq_true, false_implies, true_implies, true_and, and_true, h_271, t_272, n_272, t_273, n_273, t_274, n_274, t_275, n_275, t_276, n_276, t_277, n_277, t_278, n_278, t_279, n_279, t_280, n_280, t_281, n_281, t_282, n_282, t_283, n_283, t_284, n_284, t_285, n_285, t_286, n_286, t_287, n_287, t_288, n_288, t_289, n_289, t_290, n_290, t_291, n_291, t_292, n_292, t_293, n_293, t_294, n_294, t_295, n_295, t_296, n_296, t_297, n_297, t_298, n_298, t_299, n_299, t_300, n_300, t_301, n_301, r_271_1, r_271_2, r_271_3, r_271_4, r_271_15, r_271_16, r_271_18, r_271_19, r_271_20, r_271_21, r_271_22, r_271_23, r_271_24, r_271_25, r_271_26, r_271_34, r_271_35, r_271_38, r_271_39, r_271_40, r_271_42, r_271_45, r_271_46, r_271_47, r_271_48, r_271_49, r_271_50, r_271_53, r_271_54, r_271_55, r_271_57, cl, m3', hcn', wI_k, wI_wI]
    exact hq
/-- a clause in both -/
def ct_C (L : Nat) (xs : Nat → Int32) (fm : Option Nat) (b : Nat → Nat) (n c a : Nat) (A W : sw_T) (dn e : Nat) (r : Option (sw_T × sw_T × Nat)) : Prop := (∀ σ, tp_X σ b n a → ct_X σ c A W dn → ∃ σ', ct_fX σ σ' c ∧ tp_X σ' b n e ∧ (∀ A' W' dn', r = some (A', W', dn') → ct_X σ' c A' W' dn') ∧ ∀ D Q, 9 ≤ D → (sd_Call (sd_E1 L xs fm) D y_CountryReader_readClause [.ref 3, .ref c] σ Q ↔ Q (some (.int (sd_b (r.isSome = true)))) σ')) ∧ (∀ σ o, tp_M σ 272 o b n a → σ.1 271 11 = -1 → ct_M σ A W dn → ∃ σ', ct_fM σ σ' ∧ (r = none → σ'.1 271 11 = nI e) ∧ (∀ A' W' dn', r = some (A', W', dn') → tp_M σ' 272 o b n e ∧ σ'.1 271 11 = -1 ∧ ct_M σ' A' W' dn') ∧ ∀ D Q, 9 ≤ D → (sd_Call (sd_E1 L xs fm) D y_M_readClause [.ref 271] σ Q ↔ Q none σ')) ∧ a ≤ e ∧ e ≤ n ∧ ∀ A' W' dn', r = some (A', W', dn') → ct_P A' W' dn' ∧ a < e ∧ ∀ i j k, 6 ≤ i → A' i j k = A i j k
/-- a deed told -/
def ct_A1 (A : sw_T) (x y z : Nat) : sw_T := fun i j k => if i = 2 ∧ j = x ∧ k = 0 then y else if i = 3 ∧ j = x ∧ k = 0 then z else A i j k
theorem ct_A1_o {x y z i j k : Nat} (h : i ≠ 2 ∧ i ≠ 3) : ct_A1 A x y z i j k = A i j k := by
  unfold ct_A1
  rw [if_neg (by omega), if_neg (by omega)]
theorem ct_A1_2 {x y z j : Nat} : ct_A1 A x y z 2 j 0 = if j = x then y else A 2 j 0 := by
  unfold ct_A1
  by_cases q : j = x
  · rw [if_pos ⟨rfl, q, rfl⟩, if_pos q]
  · rw [if_neg (by omega), if_neg (by omega), if_neg q]
theorem ct_A1_3 {x y z j : Nat} : ct_A1 A x y z 3 j 0 = if j = x then z else A 3 j 0 := by
  unfold ct_A1
  rw [if_neg (by omega)]
  by_cases q : j = x
  · rw [if_pos ⟨rfl, q, rfl⟩, if_pos q]
  · rw [if_neg (by omega), if_neg q]
theorem ct_cl1 (hn : n ≤ 240) (hb : ∀ i, i < n → b i < 256) (ha : a ≤ n) (hP : ct_P A W dn) (hC : sd_isC c) (hp : tk_T b n a 100) (hcn : dn < 8) : ∃ e r, ct_C L xs fm b n c a A W dn e r := by
  have hpl := tp_ps_le (b := b) ha
  have hpn := hp.1
  obtain ⟨e, r, x, m, p1, p2, p3⟩ := ct_items (L := L) (xs := xs) (fm := fm) (s := 1) (by decide) hn hb (show tp_ps b n a + 1 ≤ n by omega)
  obtain ⟨q1, q2, q3, q4, q5, q6, q7, q8, q9, q10, q11, q12, q13, q14, q15⟩ := id hP
  have hcc := hC.2.2.2.2.2.2.2.2.2.2.2
  have hitM : ∀ σ o, tp_M σ 272 o b n a → σ.1 271 11 = -1 → ct_M σ A W dn → ∃ σ2, (∀ e' j, ¬ (e' = 271 ∧ (j = 10 ∨ j = 11 ∨ j = 31)) → ¬ (e' = 284 ∧ j < 3) → σ2.1 e' j = σ.1 e' j) ∧ σ2.2 = σ.2 ∧ σ2.1 271 31 = nI (dn + 1) ∧ (r = none → σ2.1 271 11 = nI e) ∧ (∀ v', r = some v' → tp_M σ2 272 o b n e ∧ σ2.1 271 11 = -1 ∧ ∀ k, k < 3 → σ2.1 284 k = nI (v' k)) ∧ ∀ d Q, 8 ≤ d → sd_Go (sd_E1 L xs fm) d y_M_readClause 204 [.ref 271, .int (nI 100), .int (nI 1), sd_un] [] σ2 Q → sd_Go (sd_E1 L xs fm) d y_M_readClause 0 [.ref 271, sd_un, sd_un, sd_un] [] σ Q := by
    intro σ o h hf hM
    have h1 := h.at (a' := tp_ps b n a + 1) (by omega)
    have h2 : tp_M (sd_wI (sd_wI σ 271 10 (nI (tp_ps b n a + 1))) 271 31 (nI (dn + 1))) 272 o b n (tp_ps b n a + 1) := h1.fr (fun j hj => wI_o (by omega)) (fun j => by rw [wI_c (by decide)]) rfl
    obtain ⟨σ2, y1, y2, y3, y4, y5⟩ := m _ 272 o 284 0 h2 (by rw [wI_o (by decide), wI_o (by decide)]; exact hf) t_284 (by rw [n_284]; decide) (by decide) (by decide) (by decide)
    refine ⟨σ2, fun e' j z1 z2 => ?_, y2, ?_, y3, fun v' q => ⟨(y4 v' q).1, (y4 v' q).2.1, fun k hk => by have := (y4 v' q).2.2 k hk; rw [Nat.zero_add] at this; exact this⟩, fun d Q hd hq => ?_⟩
    · rw [y1 e' j (by omega) (fun q => z2 ⟨q.1, by have : j < 0 + 3 := q.2.2; omega⟩), wI_1, if_neg (by omega), wI_1, if_neg (by omega)]
    · rw [y1 271 31 (by omega) (by omega), wI_k]
    · refine ct_preM (s := 1) h hM hb (by decide) hp hcn (by omega) ?_
      rw [if_neg (by decide), if_pos rfl, tx_b1]
      have e31 : (sd_wI σ 271 10 (nI (tp_ps b n a + 1))).1 271 31 = nI dn := by rw [wI_o (by decide)]; exact hM.2.1
      have cr : ∀ Q, sd_Call (sd_E1 L xs fm) d y_M_readItems [.ref 271, .int (nI 100), .ref 284, .int (nI 0), .ref 412] (sd_wI (sd_wI σ 271 10 (nI (tp_ps b n a + 1))) 271 31 (nI (dn + 1))) Q ↔ Q none σ2 := fun Q => y5 d Q (by omega)
      simp (disch := first | exact sd_cr | exact sd_ci | exact sd_cu | exact sd_cl9 | assumption | omega | exact t_285 | exact t_283 | exact t_278 | exact t_281 | exact t_276 | exact t_274 | exact t_275 | exact t_277 | exact t_279 | exact t_280 | exact t_282 | exact t_284 | exact t_286 | exact t_287 | exact t_288 | exact t_289 | exact t_290 | exact t_291 | exact t_292 | exact t_293 | exact t_294 | exact t_295 | exact t_296 | exact t_297 | exact t_298 | exact t_299 | exact t_300) only [z_M_readClause_181, z_M_readClause_182, z_M_readClause_183, z_M_readClause_186, z_M_readClause_187, z_M_readClause_188, z_M_readClause_191, z_M_readClause_192, z_M_readClause_193, z_M_readClause_194, z_M_readClause_197, z_M_readClause_198, z_M_readClause_201, false_and, and_false, if_true, if_false, Decidable.not_not, sd_ci, sd_cr, sd_cl9, sd_cu, sd_cat0, sd_cat1, sd_rfS, sd_n01, sd_n11, sd_n1, sd_n10, sd_n00, sd_b01, sd_b0, true_and, and_true, and_self, not_true_eq_false, not_false_eq_true, false_implies, true_implies, implies_true, or_true, true_or, or_false, false_or, Option.toList_some, Option.toList_none, List.cons_append, List.nil_append, Nat.reduceAdd, Nat.reduceLeDiff, nz_sub, nz_lt0, nz_ge0, nz_le0, nz_gt0, nz_eq0, nz_eq1, nz_lt, nz_le, nz_eq, nz_cl, nz_in, nz_add, nz_mul, nz_m1, nz_m1', Nat.reduceMul, Nat.reduceSub, Nat.reduceLT, Nat.reduceEqDiff, not_false_eq_true, false_implies, true_implies, true_and, and_true, h_271, t_272, n_272, t_273, n_273, t_274, n_274, t_275, n_275, t_276, n_276, t_277, n_277, t_278, n_278, t_279, n_279, t_280, n_280, t_281, n_281, t_282, n_282, t_283, n_283, t_284, n_284, t_285, n_285, t_286, n_286, t_287, n_287, t_288, n_288, t_289, n_289, t_290, n_290, t_291, n_291, t_292, n_292, t_293, n_293, t_294, n_294, t_295, n_295, t_296, n_296, t_297, n_297, t_298, n_298, t_299, n_299, t_300, n_300, t_301, n_301, r_271_1, r_271_2, r_271_3, r_271_4, r_271_15, r_271_16, r_271_18, r_271_19, r_271_20, r_271_21, r_271_22, r_271_23, r_271_24, r_271_25, r_271_26, r_271_34, r_271_35, r_271_38, r_271_39, r_271_40, r_271_42, r_271_45, r_271_46, r_271_47, r_271_48, r_271_49, r_271_50, r_271_53, r_271_54, r_271_55, r_271_57, e31, cr]
      exact hq
  cases r with
  | none =>
    refine ⟨e, none, ?_, ?_, by omega, p2, fun _ _ _ q => by cases q⟩
    · intro σ h hX
      obtain ⟨σ2, y1, y2, y3, y4, y5⟩ := x _ (ct_s1_X (s := 1) (cn := dn) h hpn)
      refine ⟨σ2, ⟨fun e' j z1 z2 z3 z4 => ?_, y2⟩, y3, fun _ _ _ q => (by cases q), fun D Q hD => ?_⟩
      · rw [y1 e' j z1 z2, ct_s1_o z1 (fun q => z3 q.1)]
      · obtain ⟨d, rfl⟩ : ∃ d, D = d + 1 := ⟨D - 1, by omega⟩
        refine sd_Call.iff (fun Q hq => ?_) Q
        rw [sd_Call.start (ls := [.ref 3, .ref c, sd_un, sd_un]) m_CountryReader_readClause (by decide) (Nat.le_of_ble_eq_true rfl) rfl]
        refine ct_preX (s := 1) h hX hb (by decide) hp hcn (by omega) ((y5 d _ (by omega)).mpr ?_)
        simp (disch := first | exact sd_cr | exact sd_ci | exact sd_cu | exact sd_cl9 | assumption | omega | exact t_259 | exact t_260 | exact t_261 | exact t_262 | exact t_263 | exact t_264 | exact t_254 | exact t_255 | exact t_256 | exact t_257 | exact t_266 | exact t_267 | exact t_268 | exact t_269 | exact t_270 | exact t_252 | exact t_240 | exact t_246 | exact t_2 | exact t_4 | exact t_5 | exact t_13 | exact t_14 | exact t_15 | exact t_16 | exact Or.inl t_39 | exact Or.inr t_7) only [z_CountryReader_readClause_78, z_CountryReader_readClause_81, z_CountryReader_readClause_82, false_and, and_false, if_true, if_false, Decidable.not_not, sd_ci, sd_cr, sd_cl9, sd_cu, sd_cat0, sd_cat1, sd_rfS, sd_n01, sd_n11, sd_n1, sd_n10, sd_n00, sd_b01, sd_b0, true_and, and_true, and_self, not_true_eq_false, not_false_eq_true, false_implies, true_implies, implies_true, or_true, true_or, or_false, false_or, Option.toList_some, Option.toList_none, List.cons_append, List.nil_append, Nat.reduceAdd, Nat.reduceLeDiff, nz_sub, nz_lt0, nz_ge0, nz_le0, nz_gt0, nz_eq0, nz_eq1, nz_lt, nz_le, nz_eq, nz_cl, nz_in, nz_add, nz_mul, nz_m1, nz_m1', Nat.reduceMul, Nat.reduceSub, Nat.reduceLT, Nat.reduceEqDiff, not_false_eq_true, false_implies, true_implies, true_and, and_true, Option.isSome_none, Bool.false_eq_true, sd_bF not_false]
        exact hq
    · intro σ o h hf hM
      obtain ⟨σ2, y1, y2, y3, y4, y5, y6⟩ := hitM σ o h hf hM
      have y4 := y4 rfl
      refine ⟨σ2, ⟨fun e' j z1 z2 z3 z4 z5 z6 => y1 e' j (by omega) (by omega), y2⟩, fun _ => y4, fun _ _ _ q => (by cases q), fun D Q hD => ?_⟩
      obtain ⟨d, rfl⟩ : ∃ d, D = d + 1 := ⟨D - 1, by omega⟩
      refine sd_Call.iff (fun Q hq => ?_) Q
      rw [sd_Call.start (ls := [.ref 271, sd_un, sd_un, sd_un]) m_M_readClause (by decide) (Nat.le_of_ble_eq_true rfl) rfl]
      refine y6 d Q (by omega) ?_
      simp (disch := first | exact sd_cr | exact sd_ci | exact sd_cu | exact sd_cl9 | assumption | omega | exact t_285 | exact t_283 | exact t_278 | exact t_281 | exact t_276 | exact t_274 | exact t_275 | exact t_277 | exact t_279 | exact t_280 | exact t_282 | exact t_284 | exact t_286 | exact t_287 | exact t_288 | exact t_289 | exact t_290 | exact t_291 | exact t_292 | exact t_293 | exact t_294 | exact t_295 | exact t_296 | exact t_297 | exact t_298 | exact t_299 | exact t_300) only [z_M_readClause_204, z_M_readClause_205, z_M_readClause_208, z_M_readClause_209, z_M_readClause_212, false_and, and_false, if_true, if_false, Decidable.not_not, sd_ci, sd_cr, sd_cl9, sd_cu, sd_cat0, sd_cat1, sd_rfS, sd_n01, sd_n11, sd_n1, sd_n10, sd_n00, sd_b01, sd_b0, true_and, and_true, and_self, not_true_eq_false, not_false_eq_true, false_implies, true_implies, implies_true, or_true, true_or, or_false, false_or, Option.toList_some, Option.toList_none, List.cons_append, List.nil_append, Nat.reduceAdd, Nat.reduceLeDiff, nz_sub, nz_lt0, nz_ge0, nz_le0, nz_gt0, nz_eq0, nz_eq1, nz_lt, nz_le, nz_eq, nz_cl, nz_in, nz_add, nz_mul, nz_m1, nz_m1', Nat.reduceMul, Nat.reduceSub, Nat.reduceLT, Nat.reduceEqDiff, not_false_eq_true, false_implies, true_implies, true_and, and_true, h_271, t_272, n_272, t_273, n_273, t_274, n_274, t_275, n_275, t_276, n_276, t_277, n_277, t_278, n_278, t_279, n_279, t_280, n_280, t_281, n_281, t_282, n_282, t_283, n_283, t_284, n_284, t_285, n_285, t_286, n_286, t_287, n_287, t_288, n_288, t_289, n_289, t_290, n_290, t_291, n_291, t_292, n_292, t_293, n_293, t_294, n_294, t_295, n_295, t_296, n_296, t_297, n_297, t_298, n_298, t_299, n_299, t_300, n_300, t_301, n_301, r_271_1, r_271_2, r_271_3, r_271_4, r_271_15, r_271_16, r_271_18, r_271_19, r_271_20, r_271_21, r_271_22, r_271_23, r_271_24, r_271_25, r_271_26, r_271_34, r_271_35, r_271_38, r_271_39, r_271_40, r_271_42, r_271_45, r_271_46, r_271_47, r_271_48, r_271_49, r_271_50, r_271_53, r_271_54, r_271_55, r_271_57, y4]
      exact hq
  | some v =>
    have hv := p3 v rfl
    have v0 : v 0 ≤ 7 := hv 0 (by decide)
    have v1 : v 1 ≤ 9 := hv 1 (by decide)
    have v2 : v 2 ≤ 9 := hv 2 (by decide)
    refine ⟨e, some (ct_A1 A (v 0) (v 1) (v 2), W, dn + 1), ?_, ?_, by omega, p2, fun A' W' dn' q => ?_⟩
    · intro σ h hX
      obtain ⟨σ2, y1, y2, y3, y4, y5⟩ := x _ (ct_s1_X (s := 1) (cn := dn) h hpn)
      have y4 := y4 v rfl
      have g : ∀ e' j, ¬ (e' = 1 ∧ j = 2) → e' ≠ 4 → ¬ (e' = 5 ∧ j = 1) → σ2.1 e' j = σ.1 e' j := fun e' j z1 z2 z3 => by rw [y1 e' j z1 z2, ct_s1_o z1 z3]
      refine ⟨sd_wI (sd_wI σ2 (c + 2) (v 0) (nI (v 1))) (c + 3) (v 0) (nI (v 2)), ⟨fun e' j z1 z2 z3 z4 => ?_, y2⟩, y3.fr (fun j _ => by rw [wI_c (by omega), wI_c (by omega)]) (fun j => by rw [wI_c (by omega), wI_c (by omega)]), fun A' W' dn' q => ?_, fun D Q hD => ?_⟩
      · rw [wI_c (by omega), wI_c (by omega)]
        exact g e' j z1 z2 (fun q => z3 q.1)
      · cases q
        obtain ⟨hC', ⟨x1, x2, x3, x4, x5, x6⟩, hS, c0, c1, c2, c3⟩ := hX
        refine ⟨hC, ⟨?_, ?_, fun p hp' => ?_, fun e' he => ?_, fun e' he => ?_, fun e' he j hj => ?_⟩, ?_, ?_, ?_, ?_, ?_⟩
        · rw [ct_A1_o (by omega), wI_c (by omega), wI_c (by omega), g c 0 (by omega) (by omega) (by omega)]; exact x1
        · rw [ct_A1_o (by omega), wI_c (by omega), wI_c (by omega), g c 5 (by omega) (by omega) (by omega)]; exact x2
        · rw [ct_A1_o (by omega)] at hp'
          rw [ct_A1_o (by omega), wI_c (by omega), wI_c (by omega), g (c + 1) p (by omega) (by omega) (by omega)]; exact x3 p hp'
        · rw [ct_A1_2, wI_c (by omega), wI_1]
          by_cases q : e' = v 0
          · rw [if_pos ⟨rfl, q⟩, if_pos q]
          · rw [if_neg (fun r => q r.2), if_neg q, g (c + 2) e' (by omega) (by omega) (by omega)]; exact x4 e' he
        · rw [ct_A1_3, wI_1]
          by_cases q : e' = v 0
          · rw [if_pos ⟨rfl, q⟩, if_pos q]
          · rw [if_neg (fun r => q r.2), if_neg q, wI_c (by omega), g (c + 3) e' (by omega) (by omega) (by omega)]; exact x5 e' he
        · rw [ct_A1_o (by omega)] at he
          rw [ct_A1_o (by omega), wI_c (by omega), wI_c (by omega), g (c + 4) _ (by omega) (by omega) (by omega)]; exact x6 e' he j hj
        · rw [ct_A1_o (by omega)]
          exact hS.fr (fun j hj => funext fun i => by rw [wI_c (by omega), wI_c (by omega), g _ i (by omega) (by omega) (by omega)])
        · rw [ct_A1_o (by omega), wI_c (by omega), wI_c (by omega), g 5 0 (by omega) (by omega) (by omega)]; exact c0
        · rw [wI_c (by omega), wI_c (by omega), y1 5 1 (by omega) (by omega)]; exact ct_s1_5
        · rw [wI_c (by omega), wI_c (by omega), g 5 2 (by omega) (by omega) (by omega)]; exact c2
        · rw [ct_A1_o (by omega), wI_c (by omega), wI_c (by omega), g 5 3 (by omega) (by omega) (by omega)]; exact c3
      · obtain ⟨d, rfl⟩ : ∃ d, D = d + 1 := ⟨D - 1, by omega⟩
        refine sd_Call.iff (fun Q hq => ?_) Q
        obtain ⟨k0, k1, k2, k3, k4, k5, k6, k7, k8, r0, r1, r2, r3, r4, k9⟩ := hC.all (L := L) (xs := xs) (fm := fm)
        have z0 := y4 0 (by decide)
        have z1 := y4 1 (by decide)
        have z0' : (sd_wI σ2 (c + 2) (v 0) (nI (v 1))).1 4 0 = nI (v 0) := by rw [wI_c (by omega)]; exact z0
        have z2' : (sd_wI σ2 (c + 2) (v 0) (nI (v 1))).1 4 2 = nI (v 2) := by rw [wI_c (by omega)]; exact y4 2 (by decide)
        have c8 : v 0 < 8 := by omega
        rw [sd_Call.start (ls := [.ref 3, .ref c, sd_un, sd_un]) m_CountryReader_readClause (by decide) (Nat.le_of_ble_eq_true rfl) rfl]
        refine ct_preX (s := 1) h hX hb (by decide) hp hcn (by omega) ((y5 d _ (by omega)).mpr ?_)
        simp (disch := first | exact sd_cr | exact sd_ci | exact sd_cu | exact sd_cl9 | assumption | omega | exact t_259 | exact t_260 | exact t_261 | exact t_262 | exact t_263 | exact t_264 | exact t_254 | exact t_255 | exact t_256 | exact t_257 | exact t_266 | exact t_267 | exact t_268 | exact t_269 | exact t_270 | exact t_252 | exact t_240 | exact t_246 | exact t_2 | exact t_4 | exact t_5 | exact t_13 | exact t_14 | exact t_15 | exact t_16 | exact Or.inl t_39 | exact Or.inr t_7) only [z_CountryReader_readClause_78, z_CountryReader_readClause_81, z_CountryReader_readClause_82, z_CountryReader_readClause_83, z_CountryReader_readClause_84_0, z_CountryReader_readClause_84_1, z_CountryReader_readClause_84_2, z_CountryReader_readClause_112, z_CountryReader_readClause_113, z_CountryReader_readClause_114, z_CountryReader_readClause_117, z_CountryReader_readClause_118, z_CountryReader_readClause_119, z_CountryReader_readClause_122, z_CountryReader_readClause_123, z_CountryReader_readClause_126, z_CountryReader_readClause_127, zx_CountryReader_readClause_127, z_CountryReader_readClause_128, z_CountryReader_readClause_129, z_CountryReader_readClause_132, z_CountryReader_readClause_133, zx_CountryReader_readClause_133, z_CountryReader_readClause_134, z_CountryReader_readClause_135, z_CountryReader_readClause_136, z_CountryReader_readClause_139, z_CountryReader_readClause_140, z_CountryReader_readClause_143, z_CountryReader_readClause_144, zx_CountryReader_readClause_144, z_CountryReader_readClause_145, z_CountryReader_readClause_146, z_CountryReader_readClause_149, z_CountryReader_readClause_150, zx_CountryReader_readClause_150, z_CountryReader_readClause_151, z_CountryReader_readClause_152, z_CountryReader_readClause_153, false_and, and_false, if_true, if_false, Decidable.not_not, sd_ci, sd_cr, sd_cl9, sd_cu, sd_cat0, sd_cat1, sd_rfS, sd_n01, sd_n11, sd_n1, sd_n10, sd_n00, sd_b01, sd_b0, true_and, and_true, and_self, not_true_eq_false, not_false_eq_true, false_implies, true_implies, implies_true, or_true, true_or, or_false, false_or, Option.toList_some, Option.toList_none, List.cons_append, List.nil_append, Nat.reduceAdd, Nat.reduceLeDiff, nz_sub, nz_lt0, nz_ge0, nz_le0, nz_gt0, nz_eq0, nz_eq1, nz_lt, nz_le, nz_eq, nz_cl, nz_in, nz_add, nz_mul, nz_m1, nz_m1', Nat.reduceMul, Nat.reduceSub, Nat.reduceLT, Nat.reduceEqDiff, not_false_eq_true, false_implies, true_implies, true_and, and_true, h_0, h_1, t_2, n_2, h_3, t_4, n_4, t_5, n_5, h_6, t_7, n_7, t_8, n_8, t_9, n_9, t_10, n_10, t_11, n_11, t_12, n_12, t_13, n_13, t_14, n_14, t_15, n_15, t_16, n_16, h_17, h_18, t_19, n_19, t_20, n_20, t_21, n_21, t_22, n_22, h_28, t_29, n_29, t_30, n_30, t_31, n_31, t_32, n_32, h_38, t_39, n_39, t_240, n_240, t_246, n_246, t_252, n_252, h_253, t_254, n_254, t_255, n_255, t_256, n_256, t_257, n_257, h_258, t_259, n_259, t_260, n_260, t_261, n_261, t_262, n_262, t_263, n_263, t_264, n_264, h_265, t_266, n_266, t_267, n_267, t_268, n_268, t_269, n_269, t_270, n_270, r_0_0, r_0_1, r_0_2, r_0_3, r_0_6, r_0_7, r_0_8, r_0_9, r_0_11, r_0_12, r_0_13, r_0_14, r_0_15, r_1_0, r_3_0, r_3_1, r_3_2, r_6_0, r_6_1, r_6_4, r_6_5, r_6_7, r_7_0, r_7_1, r_7_2, r_7_3, r_7_4, r_17_0, r_17_1, r_18_1, r_18_2, r_18_3, r_18_4, r_18_6, r_28_1, r_28_2, r_28_3, r_28_4, r_28_6, r_38_0, r_253_0, r_253_1, r_253_2, r_253_3, r_258_0, r_258_1, r_258_3, r_258_4, r_258_6, r_258_8, r_265_0, r_265_1, r_265_3, r_265_4, r_265_5, r_0_4, r_0_5, r_3_1, k0, k3, k4, k5, k6, r0, r1, r2, r3, r4, z0, z1, z0', z2', c8, Option.isSome_some, sd_bT trivial]
        exact hq
    · intro σ o h hf hM
      obtain ⟨σ2, y1, y2, y3, y4, y5, y6⟩ := hitM σ o h hf hM
      obtain ⟨yM, yf, yv⟩ := y5 v rfl
      refine ⟨sd_wI (sd_wI σ2 279 (2 * v 0) (nI (v 1))) 279 (2 * v 0 + 1) (nI (v 2)), ⟨fun e' j z1 z2 z3 z4 z5 z6 => ?_, y2⟩, fun q => (by cases q), fun A' W' dn' q => ?_, fun D Q hD => ?_⟩
      · rw [wI_c z3, wI_c z3]
        exact y1 e' j (by omega) (by omega)
      · cases q
        refine ⟨(yM.wk (by decide) (by decide)).wk (by decide) (by decide), by rw [wI_c (by decide), wI_c (by decide)]; exact yf, ?_⟩
        obtain ⟨c0, c1, c2, c3, c4, c5, c6, c7⟩ := hM
        refine ⟨?_, ?_, ?_, ?_, fun p hp' => ?_, fun e' he => ⟨?_, ?_⟩, fun v' hv' j hj => ?_, fun e' he j hj => ?_⟩
        · rw [ct_A1_o (by omega), wI_c (by decide), wI_c (by decide), y1 271 30 (by omega) (by omega)]; exact c0
        · rw [wI_c (by decide), wI_c (by decide)]; exact y3
        · rw [wI_c (by decide), wI_c (by decide), y1 271 32 (by omega) (by omega)]; exact c2
        · rw [ct_A1_o (by omega), wI_c (by decide), wI_c (by decide), y1 271 33 (by omega) (by omega)]; exact c3
        · rw [ct_A1_o (by omega)] at hp'
          have g : ∀ i, (sd_wI (sd_wI σ2 279 (2 * v 0) (nI (v 1))) 279 (2 * v 0 + 1) (nI (v 2))).1 277 i = σ.1 277 i := fun i => by rw [wI_c (by decide), wI_c (by decide), y1 277 i (by omega) (by omega)]
          rw [ct_A1_o (by omega), g, g, g]
          obtain ⟨d1, d2, d3, d4⟩ := c4 p hp'
          exact ⟨d1, d2, d3, fun i hi => by rw [g]; exact d4 i hi⟩
        · rw [ct_A1_2, wI_1, if_neg (by omega), wI_1]
          by_cases q : e' = v 0
          · rw [if_pos ⟨rfl, by omega⟩, if_pos q]
          · rw [if_neg (by omega), if_neg q, y1 279 _ (by omega) (by omega)]; exact (c5 e' he).1
        · rw [ct_A1_3, wI_1]
          by_cases q : e' = v 0
          · rw [if_pos ⟨rfl, by omega⟩, if_pos q]
          · rw [if_neg (by omega), if_neg q, wI_1, if_neg (by omega), y1 279 _ (by omega) (by omega)]; exact (c5 e' he).2
        · rw [wI_c (by decide), wI_c (by decide), y1 280 _ (by omega) (by omega)]; exact c6 v' hv' j hj
        · rw [ct_A1_o (by omega)] at he
          rw [ct_A1_o (by omega), wI_c (by decide), wI_c (by decide), y1 282 _ (by omega) (by omega)]; exact c7 e' he j hj
      · obtain ⟨d, rfl⟩ : ∃ d, D = d + 1 := ⟨D - 1, by omega⟩
        refine sd_Call.iff (fun Q hq => ?_) Q
        have z0 := yv 0 (by decide)
        have z1 := yv 1 (by decide)
        have z0' : (sd_wI σ2 279 (2 * v 0) (nI (v 1))).1 284 0 = nI (v 0) := by rw [wI_c (by decide)]; exact z0
        have z2' : (sd_wI σ2 279 (2 * v 0) (nI (v 1))).1 284 2 = nI (v 2) := by rw [wI_c (by decide)]; exact yv 2 (by decide)
        have c8 : 2 * v 0 < 16 := by omega
        have c9 : 2 * v 0 + 1 < 16 := by omega
        rw [sd_Call.start (ls := [.ref 271, sd_un, sd_un, sd_un]) m_M_readClause (by decide) (Nat.le_of_ble_eq_true rfl) rfl]
        refine y6 d Q (by omega) ?_
        simp (disch := first | exact sd_cr | exact sd_ci | exact sd_cu | exact sd_cl9 | assumption | omega | exact t_285 | exact t_283 | exact t_278 | exact t_281 | exact t_276 | exact t_274 | exact t_275 | exact t_277 | exact t_279 | exact t_280 | exact t_282 | exact t_284 | exact t_286 | exact t_287 | exact t_288 | exact t_289 | exact t_290 | exact t_291 | exact t_292 | exact t_293 | exact t_294 | exact t_295 | exact t_296 | exact t_297 | exact t_298 | exact t_299 | exact t_300) only [z_M_readClause_204, z_M_readClause_205, z_M_readClause_208, z_M_readClause_209, z_M_readClause_212, z_M_readClause_213, z_M_readClause_214, z_M_readClause_217, z_M_readClause_218, z_M_readClause_219, z_M_readClause_222, z_M_readClause_223, z_M_readClause_224, z_M_readClause_225, z_M_readClause_226, z_M_readClause_229, z_M_readClause_230, z_M_readClause_231, z_M_readClause_232, z_M_readClause_233, z_M_readClause_236, z_M_readClause_237, z_M_readClause_238, z_M_readClause_241, z_M_readClause_242, z_M_readClause_243, z_M_readClause_244, z_M_readClause_245, z_M_readClause_246, z_M_readClause_247, z_M_readClause_250, z_M_readClause_251, z_M_readClause_252, z_M_readClause_253, z_M_readClause_326, false_and, and_false, if_true, if_false, Decidable.not_not, sd_ci, sd_cr, sd_cl9, sd_cu, sd_cat0, sd_cat1, sd_rfS, sd_n01, sd_n11, sd_n1, sd_n10, sd_n00, sd_b01, sd_b0, true_and, and_true, and_self, not_true_eq_false, not_false_eq_true, false_implies, true_implies, implies_true, or_true, true_or, or_false, false_or, Option.toList_some, Option.toList_none, List.cons_append, List.nil_append, Nat.reduceAdd, Nat.reduceLeDiff, nz_sub, nz_lt0, nz_ge0, nz_le0, nz_gt0, nz_eq0, nz_eq1, nz_lt, nz_le, nz_eq, nz_cl, nz_in, nz_add, nz_mul, nz_m1, nz_m1', Nat.reduceMul, Nat.reduceSub, Nat.reduceLT, Nat.reduceEqDiff, not_false_eq_true, false_implies, true_implies, true_and, and_true, h_271, t_272, n_272, t_273, n_273, t_274, n_274, t_275, n_275, t_276, n_276, t_277, n_277, t_278, n_278, t_279, n_279, t_280, n_280, t_281, n_281, t_282, n_282, t_283, n_283, t_284, n_284, t_285, n_285, t_286, n_286, t_287, n_287, t_288, n_288, t_289, n_289, t_290, n_290, t_291, n_291, t_292, n_292, t_293, n_293, t_294, n_294, t_295, n_295, t_296, n_296, t_297, n_297, t_298, n_298, t_299, n_299, t_300, n_300, t_301, n_301, r_271_1, r_271_2, r_271_3, r_271_4, r_271_15, r_271_16, r_271_18, r_271_19, r_271_20, r_271_21, r_271_22, r_271_23, r_271_24, r_271_25, r_271_26, r_271_34, r_271_35, r_271_38, r_271_39, r_271_40, r_271_42, r_271_45, r_271_46, r_271_47, r_271_48, r_271_49, r_271_50, r_271_53, r_271_54, r_271_55, r_271_57, yf, z0, z1, z0', z2', c8, c9]
        exact hq
    · cases q
      refine ⟨⟨fun i j k => ?_, q2, ?_, ?_, q5, by omega, fun p => ?_, fun e' => ?_, fun e' => ?_, ?_, q11, q12, q13, ?_, q15⟩, by omega, fun i j k hi => ct_A1_o (by omega)⟩
      · unfold ct_A1
        split
        · omega
        · split
          · omega
          · exact q1 i j k
      · rw [ct_A1_o (by omega)]; exact q3
      · rw [ct_A1_o (by omega)]; exact q4
      · rw [ct_A1_o (by omega)]; exact q7 p
      · rw [ct_A1_2]; split
        · exact v1
        · exact q8 e'
      · rw [ct_A1_3]; split
        · exact v2
        · exact q9 e'
      · rw [ct_A1_o (by omega)]; exact q10
      · intro e' he
        rw [ct_A1_o (by omega)] at he
        rw [ct_A1_o (by omega), ct_A1_o (by omega), ct_A1_o (by omega), ct_A1_o (by omega)]
        exact q14 e' he
end SDBY
