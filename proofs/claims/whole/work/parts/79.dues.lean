/-! the reference's dues -/
theorem sw_M.t7 {σ : sd_Mem} {c P j y : Nat} {W : sw_T} (h : sw_M σ c P W) : sw_M σ c P (sw_set W 7 j 0 y) := by
  obtain ⟨⟨t1, t2, w1, w2, w3, w4⟩, w5, w6⟩ := h
  refine ⟨⟨t1, t2, ?_, ?_, fun w hw j hj => ?_, fun w j => ?_⟩, fun p hp => ?_, ?_⟩
  · rw [sw_set_n (by omega)]; exact w1
  · rw [sw_set_n (by omega)]; exact w2
  · rw [sw_set_n (by omega)] at hw ⊢; exact w3 w hw j hj
  · rw [sw_set_n (by omega)]; exact w4 w j
  · rw [sw_set_n (by omega), sw_set_n (by omega)]
    obtain ⟨q1, q2, q3⟩ := w5 p hp
    exact ⟨q1, q2, fun i hi => by rw [sw_set_n (by omega)]; exact q3 i hi⟩
  · rw [sw_set_n (by omega)]; exact w6
/-- a cell of the log -/
theorem sw_M.lg {σ : sd_Mem} {c P e : Nat} {x : Int32} {W : sw_T} (h : sw_M σ c P W) (hW : sw_OK P W) (he : 144 ≤ e) : sw_M (sd_wI σ c e x) c P W := by
  obtain ⟨⟨t1, t2, w1, w2, w3, w4⟩, w5, w6⟩ := h
  have hb := hW.1
  refine ⟨⟨t1, t2, ?_, w2, fun w hw j hj => ?_, w4⟩, fun p hp => ?_, ?_⟩
  · rw [wI_o (by omega)]; exact w1
  · rw [wI_o (by omega)]; exact w3 w hw j hj
  · have hz := hW.2.2.1 p hp
    obtain ⟨q1, q2, q3⟩ := w5 p hp
    rw [wI_o (by omega), wI_o (by omega)]
    exact ⟨q1, q2, fun i hi => by rw [wI_o (by omega)]; exact q3 i hi⟩
  · rw [wI_o (by omega)]; exact w6
theorem sw_M.vow {σ : sd_Mem} {c P v x : Nat} {W : sw_T} (h : sw_M σ c P W) (hW : sw_OK P W) (hv : v < W 0 0 0) (hx : x < 1000) : sw_M (sd_wI σ c (70 + 6 * v + 5) (nI x)) c P (sw_set W 1 v 5 x) := by
  obtain ⟨⟨t1, t2, w1, w2, w3, w4⟩, w5, w6⟩ := h
  have hb := hW.1
  refine ⟨⟨t1, t2, ?_, ?_, fun w hw j hj => ?_, fun w j => ?_⟩, fun p hp => ?_, ?_⟩
  · rw [wI_o (by omega), sw_set_n (by omega)]; exact w1
  · rw [sw_set_n (by omega)]; exact w2
  · rw [sw_set_n (by omega)] at hw
    rw [wI_1]
    unfold sw_set
    by_cases hq : w = v ∧ j = 5
    · rw [if_pos ⟨rfl, by omega⟩, if_pos ⟨rfl, hq⟩]
    · rw [if_neg (by omega), if_neg (by omega)]; exact w3 w hw j hj
  · unfold sw_set; split
    · exact hx
    · exact w4 w j
  · have hz := hW.2.2.1 p hp
    obtain ⟨q1, q2, q3⟩ := w5 p hp
    rw [wI_o (by omega), wI_o (by omega), sw_set_n (by omega), sw_set_n (by omega)]
    exact ⟨q1, q2, fun i hi => by rw [wI_o (by omega), sw_set_n (by omega)]; exact q3 i hi⟩
  · rw [wI_o (by omega), sw_set_n (by omega)]; exact w6
theorem sw_M.slip {σ : sd_Mem} {c P p y : Nat} {W : sw_T} (h : sw_M σ c P W) (hW : sw_OK P W) (hp9 : p < P) : sw_M (sd_wI σ c (14 * p) (nI y)) c P (sw_set W 3 p 0 y) := by
  obtain ⟨⟨t1, t2, w1, w2, w3, w4⟩, w5, w6⟩ := h
  have hb := hW.1
  refine ⟨⟨t1, t2, ?_, ?_, fun w hw j hj => ?_, fun w j => ?_⟩, fun q hq => ?_, ?_⟩
  · rw [wI_o (by omega), sw_set_n (by omega)]; exact w1
  · rw [sw_set_n (by omega)]; exact w2
  · rw [sw_set_n (by omega)] at hw
    rw [wI_o (by omega), sw_set_n (by omega)]; exact w3 w hw j hj
  · rw [sw_set_n (by omega)]; exact w4 w j
  · have hz := hW.2.2.1 q hq
    obtain ⟨q1, q2, q3⟩ := w5 q hq
    rw [wI_o (j := 14 * q + 1) (by omega), sw_set_n (a' := 2) (by omega)]
    refine ⟨?_, q2, fun i hi => by rw [wI_o (by omega), sw_set_n (by omega)]; exact q3 i hi⟩
    rw [wI_1]
    unfold sw_set
    by_cases hqp : q = p
    · rw [if_pos ⟨rfl, by rw [hqp]⟩, if_pos ⟨rfl, hqp, rfl⟩]
    · rw [if_neg (by omega), if_neg (by omega)]; exact q1
  · rw [wI_o (by omega), sw_set_n (by omega)]; exact w6
section SD79
variable {L : Nat} {xs : Nat → Int32} {fm : Option Nat} {A D X : sw_T} {σ : sd_Mem} {c d P lb : Nat} {Q : Option Value → sd_Mem → Prop}
/-- the tallies lie at lb; the log's other cells are g's -/
def sw_tl (σ : sd_Mem) (c lb : Nat) (g : Nat → Int32) (X : sw_T) : Prop := (∀ j, j < 4 → σ.1 c (lb + j) = nI (X 7 j 0)) ∧ ∀ e, 144 ≤ e → (e < lb ∨ lb + 4 ≤ e) → σ.1 c e = g e
theorem sw_tl.t {σ : sd_Mem} {c lb j y : Nat} {g : Nat → Int32} {X : sw_T} (h : sw_tl σ c lb g X) (hj : j < 4) : sw_tl (sd_wI σ c (lb + j) (nI y)) c lb g (sw_set X 7 j 0 y) := by
  refine ⟨fun i hi => ?_, fun e h1 h2 => by rw [wI_o (by omega)]; exact h.2 e h1 h2⟩
  rw [wI_1]
  unfold sw_set
  by_cases hij : i = j
  · rw [if_pos ⟨rfl, by omega⟩, if_pos ⟨rfl, hij, rfl⟩]
  · rw [if_neg (by omega), if_neg (by omega)]; exact h.1 i hi
theorem sw_tl.lo {σ : sd_Mem} {c lb e a b y : Nat} {x : Int32} {g : Nat → Int32} {X : sw_T} (h : sw_tl σ c lb g X) (hl : 144 ≤ lb) (he : e < 144) (ha : a ≠ 7) {c' : Nat} : sw_tl (sd_wI σ c e x) c lb g (sw_set X a b c' y) := by
  refine ⟨fun i hi => ?_, fun f h1 h2 => by rw [wI_o (by omega)]; exact h.2 f h1 h2⟩
  rw [wI_o (by omega), sw_set_n (by omega)]; exact h.1 i hi
theorem c_M_dues {v : Nat} {g : Nat → Int32} (hc : c = 285 ∨ c = 286) (hY : sw_Y σ A) (hA : sw_AK A) (hM : sw_M σ c P X) (hXo : sw_OK P X) (hD : sw_OK P D) (hDX : sw_DX D X) (hFP : sw_FP σ 287 288 D) (hv : v < X 0 0 0) (hfo : 0 < X 1 v 5) (hvf : 0 < D 1 v 5) (hlb : 145 ≤ lb ∧ lb + 4 ≤ 385) (ht : sw_tl σ c lb g X) (htb : ∀ b, X 7 b 0 < 1000) : ∃ σ', (∀ (d : Nat) Q, sd_Call (sd_E1 L xs fm) (d + 2) y_M_dues [.ref 271, .ref c, .int (nI v), .int (nI lb)] σ Q ↔ Q none σ') ∧ sw_M σ' c P (sw_due A D v X) ∧ sw_tl σ' c lb g (sw_due A D v X) ∧ (∀ e, e ≠ c → σ'.1 e = σ.1 e) ∧ σ'.2 = σ.2 := by
  obtain ⟨⟨t1, t2, w1, w2, w3, w4⟩, w5, w6⟩ := id hM
  obtain ⟨bP2, bW, bz, bf, bs, bv, bu⟩ := id hXo
  have w30 : ∀ v, v < X 0 0 0 → σ.1 c (70 + 6 * v) = nI (X 1 v 0) := fun v hv => w3 v hv 0 (by decide)
  have e0 : X 1 v 0 = D 1 v 0 := hDX.2 v 0 (by decide)
  have e1 : X 1 v 1 = D 1 v 1 := hDX.2 v 1 (by decide)
  have hvD : v < D 0 0 0 := by rw [← hDX.1]; exact hv
  have hp := (bv v hv).1
  have hp' : D 1 v 0 < P := by rw [← e0]; exact hp
  have hz3 := (bz _ hp').2.2
  have hu5 := w4 v 5
  have hfl := sw_fate_le hD v
  have hfa : σ.1 287 v = nI (sw_fate D v) := hFP.1 v hvD hvf
  have T := ht.1
  have m0 : σ.1 c lb = nI (X 7 0 0) := T 0 (by decide)
  have b0 := htb 0
  have b1 := htb 1
  have b2 := htb 2
  have b3 := htb 3
  have tg7 : ∀ e x f, e < 144 → 144 ≤ f → (sd_wI σ c f x).1 c e = σ.1 c e := fun e x f h1 h2 => wI_o (by omega)
  by_cases h0 : sw_fate D v = 0
  · have e : sw_due A D v X = sw_set (sw_set X 7 0 0 (X 7 0 0 + 1)) 1 v 5 (X 1 v 5 - 1) := by
      unfold sw_due
      rw [if_neg (fun q => q hfo), if_pos h0]
    have g4 : (sd_wI σ c lb (nI (X 7 0 0 + 1))).1 c (70 + 6 * v + 5) = nI (X 1 v 5) := by rw [wI_o (by omega)]; exact w3 v hv 5 (by decide)
    rw [e]
    refine ⟨sd_wI (sd_wI σ c lb (nI (X 7 0 0 + 1))) c (70 + 6 * v + 5) (nI (X 1 v 5 - 1)), fun d Q => sd_Call.iff (fun Q hq => ?_) Q, (hM.lg hXo (by omega)).t7.vow (hXo.t7 (by omega)) hv (by omega), (ht.t (j := 0) (by decide)).lo (by omega) (by omega) (by decide), fun e he => by rw [wI_c he, wI_c he], rfl⟩
    rw [sd_Call.start (ls := [.ref 271, .ref c, .int (nI v), .int (nI lb), sd_un, sd_un]) m_M_dues (by decide) (Nat.le_of_ble_eq_true rfl) rfl]
    simp (disch := first | exact sd_cr | exact sd_ci | exact sd_cu | exact sd_cl9 | assumption | omega | (apply nz_m; apply w4) | (apply nz_k; apply w4) | exact t_285 | exact t_283 | exact t_278 | exact t_281 | exact t_276 | exact t_274 | exact t_275 | exact t_277 | exact t_279 | exact t_280 | exact t_282 | exact t_284 | exact t_286 | exact t_287 | exact t_288 | exact t_289 | exact t_290 | exact t_291 | exact t_292 | exact t_293 | exact t_294 | exact t_295 | exact t_296 | exact t_297 | exact t_298 | exact t_299 | exact t_300) only [z_M_dues_0, z_M_dues_2, z_M_dues_4, z_M_dues_5, z_M_dues_6, z_M_dues_7, z_M_dues_9, z_M_dues_10, z_M_dues_12, z_M_dues_13, z_M_dues_15, z_M_dues_16, z_M_dues_19, z_M_dues_20, z_M_dues_21, z_M_dues_24, z_M_dues_25, z_M_dues_26, z_M_dues_27, z_M_dues_28, z_M_dues_29, z_M_dues_30, z_M_dues_31, z_M_dues_32, z_M_dues_34, z_M_dues_35, z_M_dues_36, z_M_dues_37, z_M_dues_38, z_M_dues_39, z_M_dues_40, z_M_dues_41, z_M_dues_42, z_M_dues_43, z_M_dues_46, z_M_dues_47, z_M_dues_48, z_M_dues_49, z_M_dues_52, z_M_dues_53, z_M_dues_54, z_M_dues_55, z_M_dues_56, z_M_dues_57, z_M_dues_58, z_M_dues_59, z_M_dues_60, z_M_dues_61, z_M_dues_62, z_M_dues_64, z_M_dues_65, z_M_dues_66, z_M_dues_67, z_M_dues_68, z_M_dues_69, z_M_dues_70, z_M_dues_71, z_M_dues_72, z_M_dues_73, z_M_dues_74, z_M_dues_75, z_M_dues_76, z_M_dues_77, z_M_dues_78, z_M_dues_79, z_M_dues_80, z_M_dues_83, z_M_dues_86, z_M_dues_87, z_M_dues_89, z_M_dues_90, z_M_dues_93, z_M_dues_94, z_M_dues_95, z_M_dues_98, z_M_dues_101, z_M_dues_102, z_M_dues_103, z_M_dues_104, z_M_dues_105, z_M_dues_106, z_M_dues_107, z_M_dues_108, z_M_dues_109, z_M_dues_110, z_M_dues_111, z_M_dues_112, z_M_dues_114, z_M_dues_116, z_M_dues_117, z_M_dues_118, z_M_dues_121, z_M_dues_122, z_M_dues_124, z_M_dues_126, z_M_dues_127, z_M_dues_128, z_M_dues_129, z_M_dues_130, z_M_dues_131, z_M_dues_132, z_M_dues_135, z_M_dues_136, z_M_dues_138, z_M_dues_139, z_M_dues_140, z_M_dues_143, z_M_dues_144, z_M_dues_145, z_M_dues_147, z_M_dues_148, z_M_dues_149, z_M_dues_150, z_M_dues_151, z_M_dues_154, z_M_dues_155, false_and, and_false, if_true, if_false, Decidable.not_not, sd_ci, sd_cr, sd_cl9, sd_cu, sd_cat0, sd_cat1, sd_rfS, sd_n01, sd_n11, sd_n1, sd_n10, sd_n00, sd_b01, sd_b0, true_and, and_true, and_self, not_true_eq_false, not_false_eq_true, false_implies, true_implies, implies_true, or_true, true_or, or_false, false_or, Option.toList_some, Option.toList_none, List.cons_append, List.nil_append, Nat.reduceAdd, Nat.reduceLeDiff, nz_sub, nz_lt0, nz_ge0, nz_le0, nz_gt0, nz_eq0, nz_eq1, nz_lt, nz_le, nz_eq, nz_cl, nz_in, nz_add, nz_mul, nz_m1, nz_m1', Nat.reduceMul, Nat.reduceSub, Nat.reduceLT, Nat.reduceEqDiff, not_false_eq_true, false_implies, true_implies, true_and, and_true, h_271, t_272, n_272, t_273, n_273, t_274, n_274, t_275, n_275, t_276, n_276, t_277, n_277, t_278, n_278, t_279, n_279, t_280, n_280, t_281, n_281, t_282, n_282, t_283, n_283, t_284, n_284, t_285, n_285, t_286, n_286, t_287, n_287, t_288, n_288, t_289, n_289, t_290, n_290, t_291, n_291, t_292, n_292, t_293, n_293, t_294, n_294, t_295, n_295, t_296, n_296, t_297, n_297, t_298, n_298, t_299, n_299, t_300, n_300, t_301, n_301, r_271_1, r_271_2, r_271_3, r_271_4, r_271_15, r_271_16, r_271_18, r_271_19, r_271_20, r_271_21, r_271_22, r_271_23, r_271_24, r_271_25, r_271_26, r_271_34, r_271_35, r_271_38, r_271_39, r_271_40, r_271_42, r_271_45, r_271_46, r_271_47, r_271_48, r_271_49, r_271_50, r_271_53, r_271_54, r_271_55, r_271_57, t1, t2, w30 v hv, hfa, h0, m0, g4]
    ((repeat' first | (refine And.intro ?_ ?_) | (intro _)) <;> first | omega | exact hq)
  · by_cases h2 : sw_fate D v = 2
    · have e : sw_due A D v X = sw_set (sw_set X 7 3 0 (X 7 3 0 + 1)) 1 v 5 0 := by
        unfold sw_due
        rw [if_neg (fun q => q hfo), if_neg h0, if_pos h2]
      have m3 := T 3 (by decide)
      rw [e]
      refine ⟨sd_wI (sd_wI σ c (lb + 3) (nI (X 7 3 0 + 1))) c (70 + 6 * v + 5) (nI 0), fun d Q => sd_Call.iff (fun Q hq => ?_) Q, (hM.lg hXo (by omega)).t7.vow (hXo.t7 (by omega)) hv (by omega), (ht.t (j := 3) (by decide)).lo (by omega) (by omega) (by decide), fun e he => by rw [wI_c he, wI_c he], rfl⟩
      rw [sd_Call.start (ls := [.ref 271, .ref c, .int (nI v), .int (nI lb), sd_un, sd_un]) m_M_dues (by decide) (Nat.le_of_ble_eq_true rfl) rfl]
      simp (disch := first | exact sd_cr | exact sd_ci | exact sd_cu | exact sd_cl9 | assumption | omega | (apply nz_m; apply w4) | (apply nz_k; apply w4) | exact t_285 | exact t_283 | exact t_278 | exact t_281 | exact t_276 | exact t_274 | exact t_275 | exact t_277 | exact t_279 | exact t_280 | exact t_282 | exact t_284 | exact t_286 | exact t_287 | exact t_288 | exact t_289 | exact t_290 | exact t_291 | exact t_292 | exact t_293 | exact t_294 | exact t_295 | exact t_296 | exact t_297 | exact t_298 | exact t_299 | exact t_300) only [z_M_dues_0, z_M_dues_2, z_M_dues_4, z_M_dues_5, z_M_dues_6, z_M_dues_7, z_M_dues_9, z_M_dues_10, z_M_dues_12, z_M_dues_13, z_M_dues_15, z_M_dues_16, z_M_dues_19, z_M_dues_20, z_M_dues_21, z_M_dues_24, z_M_dues_25, z_M_dues_26, z_M_dues_27, z_M_dues_28, z_M_dues_29, z_M_dues_30, z_M_dues_31, z_M_dues_32, z_M_dues_34, z_M_dues_35, z_M_dues_36, z_M_dues_37, z_M_dues_38, z_M_dues_39, z_M_dues_40, z_M_dues_41, z_M_dues_42, z_M_dues_43, z_M_dues_46, z_M_dues_47, z_M_dues_48, z_M_dues_49, z_M_dues_52, z_M_dues_53, z_M_dues_54, z_M_dues_55, z_M_dues_56, z_M_dues_57, z_M_dues_58, z_M_dues_59, z_M_dues_60, z_M_dues_61, z_M_dues_62, z_M_dues_64, z_M_dues_65, z_M_dues_66, z_M_dues_67, z_M_dues_68, z_M_dues_69, z_M_dues_70, z_M_dues_71, z_M_dues_72, z_M_dues_73, z_M_dues_74, z_M_dues_75, z_M_dues_76, z_M_dues_77, z_M_dues_78, z_M_dues_79, z_M_dues_80, z_M_dues_83, z_M_dues_86, z_M_dues_87, z_M_dues_89, z_M_dues_90, z_M_dues_93, z_M_dues_94, z_M_dues_95, z_M_dues_98, z_M_dues_101, z_M_dues_102, z_M_dues_103, z_M_dues_104, z_M_dues_105, z_M_dues_106, z_M_dues_107, z_M_dues_108, z_M_dues_109, z_M_dues_110, z_M_dues_111, z_M_dues_112, z_M_dues_114, z_M_dues_116, z_M_dues_117, z_M_dues_118, z_M_dues_121, z_M_dues_122, z_M_dues_124, z_M_dues_126, z_M_dues_127, z_M_dues_128, z_M_dues_129, z_M_dues_130, z_M_dues_131, z_M_dues_132, z_M_dues_135, z_M_dues_136, z_M_dues_138, z_M_dues_139, z_M_dues_140, z_M_dues_143, z_M_dues_144, z_M_dues_145, z_M_dues_147, z_M_dues_148, z_M_dues_149, z_M_dues_150, z_M_dues_151, z_M_dues_154, z_M_dues_155, false_and, and_false, if_true, if_false, Decidable.not_not, sd_ci, sd_cr, sd_cl9, sd_cu, sd_cat0, sd_cat1, sd_rfS, sd_n01, sd_n11, sd_n1, sd_n10, sd_n00, sd_b01, sd_b0, true_and, and_true, and_self, not_true_eq_false, not_false_eq_true, false_implies, true_implies, implies_true, or_true, true_or, or_false, false_or, Option.toList_some, Option.toList_none, List.cons_append, List.nil_append, Nat.reduceAdd, Nat.reduceLeDiff, nz_sub, nz_lt0, nz_ge0, nz_le0, nz_gt0, nz_eq0, nz_eq1, nz_lt, nz_le, nz_eq, nz_cl, nz_in, nz_add, nz_mul, nz_m1, nz_m1', Nat.reduceMul, Nat.reduceSub, Nat.reduceLT, Nat.reduceEqDiff, not_false_eq_true, false_implies, true_implies, true_and, and_true, h_271, t_272, n_272, t_273, n_273, t_274, n_274, t_275, n_275, t_276, n_276, t_277, n_277, t_278, n_278, t_279, n_279, t_280, n_280, t_281, n_281, t_282, n_282, t_283, n_283, t_284, n_284, t_285, n_285, t_286, n_286, t_287, n_287, t_288, n_288, t_289, n_289, t_290, n_290, t_291, n_291, t_292, n_292, t_293, n_293, t_294, n_294, t_295, n_295, t_296, n_296, t_297, n_297, t_298, n_298, t_299, n_299, t_300, n_300, t_301, n_301, r_271_1, r_271_2, r_271_3, r_271_4, r_271_15, r_271_16, r_271_18, r_271_19, r_271_20, r_271_21, r_271_22, r_271_23, r_271_24, r_271_25, r_271_26, r_271_34, r_271_35, r_271_38, r_271_39, r_271_40, r_271_42, r_271_45, r_271_46, r_271_47, r_271_48, r_271_49, r_271_50, r_271_53, r_271_54, r_271_55, r_271_57, t1, t2, w30 v hv, hfa, h2, m3]
      ((repeat' first | (refine And.intro ?_ ?_) | (intro _)) <;> first | omega | exact hq)
    · have e : sw_due A D v X = sw_due2 A D v X := by
        unfold sw_due
        rw [if_neg (fun q => q hfo), if_neg h0, if_neg h2]
      rw [e]
      have m1 := T 1 (by decide)
      have m2 : (sd_wI σ c (lb + 1) (nI (X 7 1 0 + 1))).1 c (lb + 2) = nI (X 7 2 0) := by rw [wI_o (by omega)]; exact T 2 (by decide)
      have hM1 : sw_M (sd_wI σ c (lb + 1) (nI (X 7 1 0 + 1))) c P X := hM.lg hXo (by omega)
      have hY1 : sw_Y (sd_wI σ c (lb + 1) (nI (X 7 1 0 + 1))) A := by
        unfold sw_Y at hY ⊢
        rw [wI_c (by omega), wI_c (by omega), wI_c (by omega), wI_c (by omega)]
        exact hY
      have c1 := fun d Q => c_M_isPlain (L := L) (xs := xs) (fm := fm) (d := d) (Q := Q) hM1.1 hv
      have hrest : ¬ (D 1 v 1 ≤ 5 ∧ sw_seen A (D 1 v 0) ((sw_pl D v).getD 0) = false) → ∃ σ', (∀ (d : Nat) (Q : Option Value → sd_Mem → Prop), Q none σ' → sd_Go (sd_E1 L xs fm) (d + 1) y_M_dues 102 [.ref 271, .ref c, .int (nI v), .int (nI lb), .int (nI (70 + 6 * v)), .int (nI (D 1 v 0))] [] (sd_wI σ c (lb + 1) (nI (X 7 1 0 + 1))) Q) ∧ sw_M σ' c P (sw_due2 A D v X) ∧ sw_tl σ' c lb g (sw_due2 A D v X) ∧ (∀ e, e ≠ c → σ'.1 e = σ.1 e) ∧ σ'.2 = σ.2 := by
        intro hns
        have g3 : (sd_wI (sd_wI σ c (lb + 1) (nI (X 7 1 0 + 1))) c (lb + 2) (nI (X 7 2 0 + 1))).1 c (14 * D 1 v 0) = nI (X 3 (D 1 v 0) 0) := by rw [wI_o (by omega), wI_o (by omega)]; exact (w5 _ hp').1
        have g4 : (sd_wI (sd_wI σ c (lb + 1) (nI (X 7 1 0 + 1))) c (lb + 2) (nI (X 7 2 0 + 1))).1 c (70 + 6 * v + 5) = nI (X 1 v 5) := by rw [wI_o (by omega), wI_o (by omega)]; exact w3 v hv 5 (by decide)
        by_cases hsl : 0 < X 3 (D 1 v 0) 0
        · have e : sw_due2 A D v X = sw_set (sw_set (sw_set X 7 1 0 (X 7 1 0 + 1)) 7 2 0 (X 7 2 0 + 1)) 3 (D 1 v 0) 0 (X 3 (D 1 v 0) 0 - 1) := by
            unfold sw_due2
            rw [if_neg hns, if_pos hsl]
          rw [e]
          refine ⟨sd_wI (sd_wI (sd_wI σ c (lb + 1) (nI (X 7 1 0 + 1))) c (lb + 2) (nI (X 7 2 0 + 1))) c (14 * D 1 v 0) (nI (X 3 (D 1 v 0) 0 - 1)), fun d Q hq => ?_, ((hM1.lg hXo (by omega)).t7.t7).slip ((hXo.t7 (by omega)).t7 (by omega)) hp', ((ht.t (j := 1) (by decide)).t (j := 2) (by decide)).lo (by omega) (by omega) (by decide), fun e he => by rw [wI_c he, wI_c he, wI_c he], rfl⟩
          simp (disch := first | exact sd_cr | exact sd_ci | exact sd_cu | exact sd_cl9 | assumption | omega | (apply nz_m; apply w4) | (apply nz_k; apply w4) | (apply nz_m; apply bW) | (apply nz_k; apply bW) | exact t_285 | exact t_283 | exact t_278 | exact t_281 | exact t_276 | exact t_274 | exact t_275 | exact t_277 | exact t_279 | exact t_280 | exact t_282 | exact t_284 | exact t_286 | exact t_287 | exact t_288 | exact t_289 | exact t_290 | exact t_291 | exact t_292 | exact t_293 | exact t_294 | exact t_295 | exact t_296 | exact t_297 | exact t_298 | exact t_299 | exact t_300) only [z_M_dues_0, z_M_dues_2, z_M_dues_4, z_M_dues_5, z_M_dues_6, z_M_dues_7, z_M_dues_9, z_M_dues_10, z_M_dues_12, z_M_dues_13, z_M_dues_15, z_M_dues_16, z_M_dues_19, z_M_dues_20, z_M_dues_21, z_M_dues_24, z_M_dues_25, z_M_dues_26, z_M_dues_27, z_M_dues_28, z_M_dues_29, z_M_dues_30, z_M_dues_31, z_M_dues_32, z_M_dues_34, z_M_dues_35, z_M_dues_36, z_M_dues_37, z_M_dues_38, z_M_dues_39, z_M_dues_40, z_M_dues_41, z_M_dues_42, z_M_dues_43, z_M_dues_46, z_M_dues_47, z_M_dues_48, z_M_dues_49, z_M_dues_52, z_M_dues_53, z_M_dues_54, z_M_dues_55, z_M_dues_56, z_M_dues_57, z_M_dues_58, z_M_dues_59, z_M_dues_60, z_M_dues_61, z_M_dues_62, z_M_dues_64, z_M_dues_65, z_M_dues_66, z_M_dues_67, z_M_dues_68, z_M_dues_69, z_M_dues_70, z_M_dues_71, z_M_dues_72, z_M_dues_73, z_M_dues_74, z_M_dues_75, z_M_dues_76, z_M_dues_77, z_M_dues_78, z_M_dues_79, z_M_dues_80, z_M_dues_83, z_M_dues_86, z_M_dues_87, z_M_dues_89, z_M_dues_90, z_M_dues_93, z_M_dues_94, z_M_dues_95, z_M_dues_98, z_M_dues_101, z_M_dues_102, z_M_dues_103, z_M_dues_104, z_M_dues_105, z_M_dues_106, z_M_dues_107, z_M_dues_108, z_M_dues_109, z_M_dues_110, z_M_dues_111, z_M_dues_112, z_M_dues_114, z_M_dues_116, z_M_dues_117, z_M_dues_118, z_M_dues_121, z_M_dues_122, z_M_dues_124, z_M_dues_126, z_M_dues_127, z_M_dues_128, z_M_dues_129, z_M_dues_130, z_M_dues_131, z_M_dues_132, z_M_dues_135, z_M_dues_136, z_M_dues_138, z_M_dues_139, z_M_dues_140, z_M_dues_143, z_M_dues_144, z_M_dues_145, z_M_dues_147, z_M_dues_148, z_M_dues_149, z_M_dues_150, z_M_dues_151, z_M_dues_154, z_M_dues_155, false_and, and_false, if_true, if_false, Decidable.not_not, sd_ci, sd_cr, sd_cl9, sd_cu, sd_cat0, sd_cat1, sd_rfS, sd_n01, sd_n11, sd_n1, sd_n10, sd_n00, sd_b01, sd_b0, true_and, and_true, and_self, not_true_eq_false, not_false_eq_true, false_implies, true_implies, implies_true, or_true, true_or, or_false, false_or, Option.toList_some, Option.toList_none, List.cons_append, List.nil_append, Nat.reduceAdd, Nat.reduceLeDiff, nz_sub, nz_lt0, nz_ge0, nz_le0, nz_gt0, nz_eq0, nz_eq1, nz_lt, nz_le, nz_eq, nz_cl, nz_in, nz_add, nz_mul, nz_m1, nz_m1', Nat.reduceMul, Nat.reduceSub, Nat.reduceLT, Nat.reduceEqDiff, not_false_eq_true, false_implies, true_implies, true_and, and_true, h_271, t_272, n_272, t_273, n_273, t_274, n_274, t_275, n_275, t_276, n_276, t_277, n_277, t_278, n_278, t_279, n_279, t_280, n_280, t_281, n_281, t_282, n_282, t_283, n_283, t_284, n_284, t_285, n_285, t_286, n_286, t_287, n_287, t_288, n_288, t_289, n_289, t_290, n_290, t_291, n_291, t_292, n_292, t_293, n_293, t_294, n_294, t_295, n_295, t_296, n_296, t_297, n_297, t_298, n_298, t_299, n_299, t_300, n_300, t_301, n_301, r_271_1, r_271_2, r_271_3, r_271_4, r_271_15, r_271_16, r_271_18, r_271_19, r_271_20, r_271_21, r_271_22, r_271_23, r_271_24, r_271_25, r_271_26, r_271_34, r_271_35, r_271_38, r_271_39, r_271_40, r_271_42, r_271_45, r_271_46, r_271_47, r_271_48, r_271_49, r_271_50, r_271_53, r_271_54, r_271_55, r_271_57, t1, t2, m2, g3]
          ((repeat' first | (refine And.intro ?_ ?_) | (intro _)) <;> first | omega | exact hq)
        · have e : sw_due2 A D v X = sw_set (sw_set (sw_set X 7 1 0 (X 7 1 0 + 1)) 7 2 0 (X 7 2 0 + 1)) 1 v 5 (min 999 (2 * X 1 v 5)) := by
            unfold sw_due2
            rw [if_neg hns, if_neg hsl]
          rw [e]
          have hmin : (if 2 * X 1 v 5 < 999 then nI (2 * X 1 v 5) else nI 999) = nI (min 999 (2 * X 1 v 5)) := by
            split
            · rw [Nat.min_eq_right (by omega)]
            · rw [Nat.min_eq_left (by omega)]
          refine ⟨sd_wI (sd_wI (sd_wI σ c (lb + 1) (nI (X 7 1 0 + 1))) c (lb + 2) (nI (X 7 2 0 + 1))) c (70 + 6 * v + 5) (nI (min 999 (2 * X 1 v 5))), fun d Q hq => ?_, ((hM1.lg hXo (by omega)).t7.t7).vow ((hXo.t7 (by omega)).t7 (by omega)) hv (by omega), ((ht.t (j := 1) (by decide)).t (j := 2) (by decide)).lo (by omega) (by omega) (by decide), fun e he => by rw [wI_c he, wI_c he, wI_c he], rfl⟩
          simp (disch := first | exact sd_cr | exact sd_ci | exact sd_cu | exact sd_cl9 | assumption | omega | (apply nz_m; apply w4) | (apply nz_k; apply w4) | (apply nz_m; apply bW) | (apply nz_k; apply bW) | exact t_285 | exact t_283 | exact t_278 | exact t_281 | exact t_276 | exact t_274 | exact t_275 | exact t_277 | exact t_279 | exact t_280 | exact t_282 | exact t_284 | exact t_286 | exact t_287 | exact t_288 | exact t_289 | exact t_290 | exact t_291 | exact t_292 | exact t_293 | exact t_294 | exact t_295 | exact t_296 | exact t_297 | exact t_298 | exact t_299 | exact t_300) only [z_M_dues_0, z_M_dues_2, z_M_dues_4, z_M_dues_5, z_M_dues_6, z_M_dues_7, z_M_dues_9, z_M_dues_10, z_M_dues_12, z_M_dues_13, z_M_dues_15, z_M_dues_16, z_M_dues_19, z_M_dues_20, z_M_dues_21, z_M_dues_24, z_M_dues_25, z_M_dues_26, z_M_dues_27, z_M_dues_28, z_M_dues_29, z_M_dues_30, z_M_dues_31, z_M_dues_32, z_M_dues_34, z_M_dues_35, z_M_dues_36, z_M_dues_37, z_M_dues_38, z_M_dues_39, z_M_dues_40, z_M_dues_41, z_M_dues_42, z_M_dues_43, z_M_dues_46, z_M_dues_47, z_M_dues_48, z_M_dues_49, z_M_dues_52, z_M_dues_53, z_M_dues_54, z_M_dues_55, z_M_dues_56, z_M_dues_57, z_M_dues_58, z_M_dues_59, z_M_dues_60, z_M_dues_61, z_M_dues_62, z_M_dues_64, z_M_dues_65, z_M_dues_66, z_M_dues_67, z_M_dues_68, z_M_dues_69, z_M_dues_70, z_M_dues_71, z_M_dues_72, z_M_dues_73, z_M_dues_74, z_M_dues_75, z_M_dues_76, z_M_dues_77, z_M_dues_78, z_M_dues_79, z_M_dues_80, z_M_dues_83, z_M_dues_86, z_M_dues_87, z_M_dues_89, z_M_dues_90, z_M_dues_93, z_M_dues_94, z_M_dues_95, z_M_dues_98, z_M_dues_101, z_M_dues_102, z_M_dues_103, z_M_dues_104, z_M_dues_105, z_M_dues_106, z_M_dues_107, z_M_dues_108, z_M_dues_109, z_M_dues_110, z_M_dues_111, z_M_dues_112, z_M_dues_114, z_M_dues_116, z_M_dues_117, z_M_dues_118, z_M_dues_121, z_M_dues_122, z_M_dues_124, z_M_dues_126, z_M_dues_127, z_M_dues_128, z_M_dues_129, z_M_dues_130, z_M_dues_131, z_M_dues_132, z_M_dues_135, z_M_dues_136, z_M_dues_138, z_M_dues_139, z_M_dues_140, z_M_dues_143, z_M_dues_144, z_M_dues_145, z_M_dues_147, z_M_dues_148, z_M_dues_149, z_M_dues_150, z_M_dues_151, z_M_dues_154, z_M_dues_155, false_and, and_false, if_true, if_false, Decidable.not_not, sd_ci, sd_cr, sd_cl9, sd_cu, sd_cat0, sd_cat1, sd_rfS, sd_n01, sd_n11, sd_n1, sd_n10, sd_n00, sd_b01, sd_b0, true_and, and_true, and_self, not_true_eq_false, not_false_eq_true, false_implies, true_implies, implies_true, or_true, true_or, or_false, false_or, Option.toList_some, Option.toList_none, List.cons_append, List.nil_append, Nat.reduceAdd, Nat.reduceLeDiff, nz_sub, nz_lt0, nz_ge0, nz_le0, nz_gt0, nz_eq0, nz_eq1, nz_lt, nz_le, nz_eq, nz_cl, nz_in, nz_add, nz_mul, nz_m1, nz_m1', Nat.reduceMul, Nat.reduceSub, Nat.reduceLT, Nat.reduceEqDiff, not_false_eq_true, false_implies, true_implies, true_and, and_true, h_271, t_272, n_272, t_273, n_273, t_274, n_274, t_275, n_275, t_276, n_276, t_277, n_277, t_278, n_278, t_279, n_279, t_280, n_280, t_281, n_281, t_282, n_282, t_283, n_283, t_284, n_284, t_285, n_285, t_286, n_286, t_287, n_287, t_288, n_288, t_289, n_289, t_290, n_290, t_291, n_291, t_292, n_292, t_293, n_293, t_294, n_294, t_295, n_295, t_296, n_296, t_297, n_297, t_298, n_298, t_299, n_299, t_300, n_300, t_301, n_301, r_271_1, r_271_2, r_271_3, r_271_4, r_271_15, r_271_16, r_271_18, r_271_19, r_271_20, r_271_21, r_271_22, r_271_23, r_271_24, r_271_25, r_271_26, r_271_34, r_271_35, r_271_38, r_271_39, r_271_40, r_271_42, r_271_45, r_271_46, r_271_47, r_271_48, r_271_49, r_271_50, r_271_53, r_271_54, r_271_55, r_271_57, t1, t2, m2, g3, g4, hmin]
          ((repeat' first | (refine And.intro ?_ ?_) | (intro _)) <;> first | omega | exact hq)
      by_cases hpl : D 1 v 1 ≤ 5
      · obtain ⟨i, hi⟩ := sw_fate_pl hpl h0
        have hi12 := sw_pl_lt hD hvD hi
        have hplace : (sd_wI σ c (lb + 1) (nI (X 7 1 0 + 1))).1 288 v = nI i := by rw [wI_c (by omega), hFP.2 v hvD hvf hpl, hi]; rfl
        have c2 := fun d Q => c_M_isSpanned (L := L) (xs := xs) (fm := fm) (d := d) (Q := Q) (p := D 1 v 0) (i := i) hY1 hA (by rw [← e0]; exact w4 v 0) (by omega)
        cases hse : sw_seen A (D 1 v 0) i with
        | false =>
          have e : sw_due2 A D v X = sw_set X 7 1 0 (X 7 1 0 + 1) := by
            unfold sw_due2
            rw [if_pos ⟨hpl, by rw [hi]; exact hse⟩]
          rw [e]
          refine ⟨sd_wI σ c (lb + 1) (nI (X 7 1 0 + 1)), fun d Q => sd_Call.iff (fun Q hq => ?_) Q, hM1.t7, ht.t (j := 1) (by decide), fun e he => wI_c he, rfl⟩
          have c2' := fun Q => c2 d Q
          rw [hse] at c2'
          rw [sd_Call.start (ls := [.ref 271, .ref c, .int (nI v), .int (nI lb), sd_un, sd_un]) m_M_dues (by decide) (Nat.le_of_ble_eq_true rfl) rfl]
          simp (disch := first | exact sd_cr | exact sd_ci | exact sd_cu | exact sd_cl9 | assumption | omega | (apply nz_m; apply w4) | (apply nz_k; apply w4) | exact t_285 | exact t_283 | exact t_278 | exact t_281 | exact t_276 | exact t_274 | exact t_275 | exact t_277 | exact t_279 | exact t_280 | exact t_282 | exact t_284 | exact t_286 | exact t_287 | exact t_288 | exact t_289 | exact t_290 | exact t_291 | exact t_292 | exact t_293 | exact t_294 | exact t_295 | exact t_296 | exact t_297 | exact t_298 | exact t_299 | exact t_300) only [z_M_dues_0, z_M_dues_2, z_M_dues_4, z_M_dues_5, z_M_dues_6, z_M_dues_7, z_M_dues_9, z_M_dues_10, z_M_dues_12, z_M_dues_13, z_M_dues_15, z_M_dues_16, z_M_dues_19, z_M_dues_20, z_M_dues_21, z_M_dues_24, z_M_dues_25, z_M_dues_26, z_M_dues_27, z_M_dues_28, z_M_dues_29, z_M_dues_30, z_M_dues_31, z_M_dues_32, z_M_dues_34, z_M_dues_35, z_M_dues_36, z_M_dues_37, z_M_dues_38, z_M_dues_39, z_M_dues_40, z_M_dues_41, z_M_dues_42, z_M_dues_43, z_M_dues_46, z_M_dues_47, z_M_dues_48, z_M_dues_49, z_M_dues_52, z_M_dues_53, z_M_dues_54, z_M_dues_55, z_M_dues_56, z_M_dues_57, z_M_dues_58, z_M_dues_59, z_M_dues_60, z_M_dues_61, z_M_dues_62, z_M_dues_64, z_M_dues_65, z_M_dues_66, z_M_dues_67, z_M_dues_68, z_M_dues_69, z_M_dues_70, z_M_dues_71, z_M_dues_72, z_M_dues_73, z_M_dues_74, z_M_dues_75, z_M_dues_76, z_M_dues_77, z_M_dues_78, z_M_dues_79, z_M_dues_80, z_M_dues_83, z_M_dues_86, z_M_dues_87, z_M_dues_89, z_M_dues_90, z_M_dues_93, z_M_dues_94, z_M_dues_95, z_M_dues_98, z_M_dues_101, false_and, and_false, if_true, if_false, Decidable.not_not, sd_ci, sd_cr, sd_cl9, sd_cu, sd_cat0, sd_cat1, sd_rfS, sd_n01, sd_n11, sd_n1, sd_n10, sd_n00, sd_b01, sd_b0, true_and, and_true, and_self, not_true_eq_false, not_false_eq_true, false_implies, true_implies, implies_true, or_true, true_or, or_false, false_or, Option.toList_some, Option.toList_none, List.cons_append, List.nil_append, Nat.reduceAdd, Nat.reduceLeDiff, nz_sub, nz_lt0, nz_ge0, nz_le0, nz_gt0, nz_eq0, nz_eq1, nz_lt, nz_le, nz_eq, nz_cl, nz_in, nz_add, nz_mul, nz_m1, nz_m1', Nat.reduceMul, Nat.reduceSub, Nat.reduceLT, Nat.reduceEqDiff, not_false_eq_true, false_implies, true_implies, true_and, and_true, h_271, t_272, n_272, t_273, n_273, t_274, n_274, t_275, n_275, t_276, n_276, t_277, n_277, t_278, n_278, t_279, n_279, t_280, n_280, t_281, n_281, t_282, n_282, t_283, n_283, t_284, n_284, t_285, n_285, t_286, n_286, t_287, n_287, t_288, n_288, t_289, n_289, t_290, n_290, t_291, n_291, t_292, n_292, t_293, n_293, t_294, n_294, t_295, n_295, t_296, n_296, t_297, n_297, t_298, n_298, t_299, n_299, t_300, n_300, t_301, n_301, r_271_1, r_271_2, r_271_3, r_271_4, r_271_15, r_271_16, r_271_18, r_271_19, r_271_20, r_271_21, r_271_22, r_271_23, r_271_24, r_271_25, r_271_26, r_271_34, r_271_35, r_271_38, r_271_39, r_271_40, r_271_42, r_271_45, r_271_46, r_271_47, r_271_48, r_271_49, r_271_50, r_271_53, r_271_54, r_271_55, r_271_57, t1, t2, w30 v hv, hfa, e0, e1, m1, c1, hplace, c2', Bool.false_eq_true]
          ((repeat' first | (refine And.intro ?_ ?_) | (intro _)) <;> first | omega | exact hq)
        | true =>
          have hns : ¬ (D 1 v 1 ≤ 5 ∧ sw_seen A (D 1 v 0) ((sw_pl D v).getD 0) = false) := fun q => by
            have := q.2
            rw [hi] at this
            rw [show (some i).getD 0 = i from rfl, hse] at this
            cases this
          obtain ⟨σ', h1, h2', h3, h4, h5⟩ := hrest hns
          refine ⟨σ', fun d Q => sd_Call.iff (fun Q hq => ?_) Q, h2', h3, h4, h5⟩
          have c2' := fun Q => c2 d Q
          rw [hse] at c2'
          rw [sd_Call.start (ls := [.ref 271, .ref c, .int (nI v), .int (nI lb), sd_un, sd_un]) m_M_dues (by decide) (Nat.le_of_ble_eq_true rfl) rfl]
          simp (disch := first | exact sd_cr | exact sd_ci | exact sd_cu | exact sd_cl9 | assumption | omega | (apply nz_m; apply w4) | (apply nz_k; apply w4) | exact t_285 | exact t_283 | exact t_278 | exact t_281 | exact t_276 | exact t_274 | exact t_275 | exact t_277 | exact t_279 | exact t_280 | exact t_282 | exact t_284 | exact t_286 | exact t_287 | exact t_288 | exact t_289 | exact t_290 | exact t_291 | exact t_292 | exact t_293 | exact t_294 | exact t_295 | exact t_296 | exact t_297 | exact t_298 | exact t_299 | exact t_300) only [z_M_dues_0, z_M_dues_2, z_M_dues_4, z_M_dues_5, z_M_dues_6, z_M_dues_7, z_M_dues_9, z_M_dues_10, z_M_dues_12, z_M_dues_13, z_M_dues_15, z_M_dues_16, z_M_dues_19, z_M_dues_20, z_M_dues_21, z_M_dues_24, z_M_dues_25, z_M_dues_26, z_M_dues_27, z_M_dues_28, z_M_dues_29, z_M_dues_30, z_M_dues_31, z_M_dues_32, z_M_dues_34, z_M_dues_35, z_M_dues_36, z_M_dues_37, z_M_dues_38, z_M_dues_39, z_M_dues_40, z_M_dues_41, z_M_dues_42, z_M_dues_43, z_M_dues_46, z_M_dues_47, z_M_dues_48, z_M_dues_49, z_M_dues_52, z_M_dues_53, z_M_dues_54, z_M_dues_55, z_M_dues_56, z_M_dues_57, z_M_dues_58, z_M_dues_59, z_M_dues_60, z_M_dues_61, z_M_dues_62, z_M_dues_64, z_M_dues_65, z_M_dues_66, z_M_dues_67, z_M_dues_68, z_M_dues_69, z_M_dues_70, z_M_dues_71, z_M_dues_72, z_M_dues_73, z_M_dues_74, z_M_dues_75, z_M_dues_76, z_M_dues_77, z_M_dues_78, z_M_dues_79, z_M_dues_80, z_M_dues_83, z_M_dues_86, z_M_dues_87, z_M_dues_89, z_M_dues_90, z_M_dues_93, z_M_dues_94, z_M_dues_95, z_M_dues_98, z_M_dues_101, false_and, and_false, if_true, if_false, Decidable.not_not, sd_ci, sd_cr, sd_cl9, sd_cu, sd_cat0, sd_cat1, sd_rfS, sd_n01, sd_n11, sd_n1, sd_n10, sd_n00, sd_b01, sd_b0, true_and, and_true, and_self, not_true_eq_false, not_false_eq_true, false_implies, true_implies, implies_true, or_true, true_or, or_false, false_or, Option.toList_some, Option.toList_none, List.cons_append, List.nil_append, Nat.reduceAdd, Nat.reduceLeDiff, nz_sub, nz_lt0, nz_ge0, nz_le0, nz_gt0, nz_eq0, nz_eq1, nz_lt, nz_le, nz_eq, nz_cl, nz_in, nz_add, nz_mul, nz_m1, nz_m1', Nat.reduceMul, Nat.reduceSub, Nat.reduceLT, Nat.reduceEqDiff, not_false_eq_true, false_implies, true_implies, true_and, and_true, h_271, t_272, n_272, t_273, n_273, t_274, n_274, t_275, n_275, t_276, n_276, t_277, n_277, t_278, n_278, t_279, n_279, t_280, n_280, t_281, n_281, t_282, n_282, t_283, n_283, t_284, n_284, t_285, n_285, t_286, n_286, t_287, n_287, t_288, n_288, t_289, n_289, t_290, n_290, t_291, n_291, t_292, n_292, t_293, n_293, t_294, n_294, t_295, n_295, t_296, n_296, t_297, n_297, t_298, n_298, t_299, n_299, t_300, n_300, t_301, n_301, r_271_1, r_271_2, r_271_3, r_271_4, r_271_15, r_271_16, r_271_18, r_271_19, r_271_20, r_271_21, r_271_22, r_271_23, r_271_24, r_271_25, r_271_26, r_271_34, r_271_35, r_271_38, r_271_39, r_271_40, r_271_42, r_271_45, r_271_46, r_271_47, r_271_48, r_271_49, r_271_50, r_271_53, r_271_54, r_271_55, r_271_57, t1, t2, w30 v hv, hfa, e0, e1, m1, c1, hplace, c2']
          ((repeat' first | (refine And.intro ?_ ?_) | (intro _)) <;> first | omega | exact h1 d Q hq)
      · obtain ⟨σ', h1, h2', h3, h4, h5⟩ := hrest (fun q => hpl q.1)
        refine ⟨σ', fun d Q => sd_Call.iff (fun Q hq => ?_) Q, h2', h3, h4, h5⟩
        rw [sd_Call.start (ls := [.ref 271, .ref c, .int (nI v), .int (nI lb), sd_un, sd_un]) m_M_dues (by decide) (Nat.le_of_ble_eq_true rfl) rfl]
        simp (disch := first | exact sd_cr | exact sd_ci | exact sd_cu | exact sd_cl9 | assumption | omega | (apply nz_m; apply w4) | (apply nz_k; apply w4) | exact t_285 | exact t_283 | exact t_278 | exact t_281 | exact t_276 | exact t_274 | exact t_275 | exact t_277 | exact t_279 | exact t_280 | exact t_282 | exact t_284 | exact t_286 | exact t_287 | exact t_288 | exact t_289 | exact t_290 | exact t_291 | exact t_292 | exact t_293 | exact t_294 | exact t_295 | exact t_296 | exact t_297 | exact t_298 | exact t_299 | exact t_300) only [z_M_dues_0, z_M_dues_2, z_M_dues_4, z_M_dues_5, z_M_dues_6, z_M_dues_7, z_M_dues_9, z_M_dues_10, z_M_dues_12, z_M_dues_13, z_M_dues_15, z_M_dues_16, z_M_dues_19, z_M_dues_20, z_M_dues_21, z_M_dues_24, z_M_dues_25, z_M_dues_26, z_M_dues_27, z_M_dues_28, z_M_dues_29, z_M_dues_30, z_M_dues_31, z_M_dues_32, z_M_dues_34, z_M_dues_35, z_M_dues_36, z_M_dues_37, z_M_dues_38, z_M_dues_39, z_M_dues_40, z_M_dues_41, z_M_dues_42, z_M_dues_43, z_M_dues_46, z_M_dues_47, z_M_dues_48, z_M_dues_49, z_M_dues_52, z_M_dues_53, z_M_dues_54, z_M_dues_55, z_M_dues_56, z_M_dues_57, z_M_dues_58, z_M_dues_59, z_M_dues_60, z_M_dues_61, z_M_dues_62, z_M_dues_64, z_M_dues_65, z_M_dues_66, z_M_dues_67, z_M_dues_68, z_M_dues_69, z_M_dues_70, z_M_dues_71, z_M_dues_72, z_M_dues_73, z_M_dues_74, z_M_dues_75, z_M_dues_76, z_M_dues_77, z_M_dues_78, z_M_dues_79, z_M_dues_80, z_M_dues_83, z_M_dues_86, z_M_dues_87, z_M_dues_89, z_M_dues_90, z_M_dues_93, z_M_dues_94, z_M_dues_95, z_M_dues_98, z_M_dues_101, false_and, and_false, if_true, if_false, Decidable.not_not, sd_ci, sd_cr, sd_cl9, sd_cu, sd_cat0, sd_cat1, sd_rfS, sd_n01, sd_n11, sd_n1, sd_n10, sd_n00, sd_b01, sd_b0, true_and, and_true, and_self, not_true_eq_false, not_false_eq_true, false_implies, true_implies, implies_true, or_true, true_or, or_false, false_or, Option.toList_some, Option.toList_none, List.cons_append, List.nil_append, Nat.reduceAdd, Nat.reduceLeDiff, nz_sub, nz_lt0, nz_ge0, nz_le0, nz_gt0, nz_eq0, nz_eq1, nz_lt, nz_le, nz_eq, nz_cl, nz_in, nz_add, nz_mul, nz_m1, nz_m1', Nat.reduceMul, Nat.reduceSub, Nat.reduceLT, Nat.reduceEqDiff, not_false_eq_true, false_implies, true_implies, true_and, and_true, h_271, t_272, n_272, t_273, n_273, t_274, n_274, t_275, n_275, t_276, n_276, t_277, n_277, t_278, n_278, t_279, n_279, t_280, n_280, t_281, n_281, t_282, n_282, t_283, n_283, t_284, n_284, t_285, n_285, t_286, n_286, t_287, n_287, t_288, n_288, t_289, n_289, t_290, n_290, t_291, n_291, t_292, n_292, t_293, n_293, t_294, n_294, t_295, n_295, t_296, n_296, t_297, n_297, t_298, n_298, t_299, n_299, t_300, n_300, t_301, n_301, r_271_1, r_271_2, r_271_3, r_271_4, r_271_15, r_271_16, r_271_18, r_271_19, r_271_20, r_271_21, r_271_22, r_271_23, r_271_24, r_271_25, r_271_26, r_271_34, r_271_35, r_271_38, r_271_39, r_271_40, r_271_42, r_271_45, r_271_46, r_271_47, r_271_48, r_271_49, r_271_50, r_271_53, r_271_54, r_271_55, r_271_57, t1, t2, w30 v hv, hfa, e0, e1, m1, c1]
        ((repeat' first | (refine And.intro ?_ ?_) | (intro _)) <;> first | omega | exact h1 d Q hq)
end SD79
