/-! strike -/
section SDAA
variable {L : Nat} {xs : Nat → Int32} {fm : Option Nat} {A W : sw_T} {B T : Nat} {V : Nat → sw_T} {im : Nat} {I : sw_T}
def sw_hr (W : sw_T) (b l : Nat) : Bool := sw_any (fun x => sw_ka W b l x) (8 ^ l) 0
theorem c_M_hasRow {σ : sd_Mem} (h : sw_RM σ A W) {b l : Nat} (hl : 0 < l ∧ l ≤ 5) (hb : b < 4096) (hbk : ∀ v, v < W 0 0 0 → b.testBit v = true → W 1 v 1 ≤ 5) (f : Nat → Int32) : ∃ f', ∀ (d : Nat) Q, sd_Call (sd_E1 L xs fm) (d + 4) y_M_hasRow [.ref 271, .int (nI b), .int (nI l)] (sd_wA σ 293 f) Q ↔ Q (some (.int (sd_b (sw_hr W b l = true)))) (sd_wA σ 293 f') := by
  have h8 := sw_8l hl.2
  have key : ∀ n x f, x + n = 8 ^ l → ∃ f', ∀ (d : Nat) Q, Q (some (.int (sd_b (sw_any (fun x => sw_ka W b l x) n x = true)))) (sd_wA σ 293 f') → sd_Go (sd_E1 L xs fm) (d + 3) y_M_hasRow 2 [.ref 271, .int (nI b), .int (nI l), .int (nI x)] [] (sd_wA σ 293 f) Q := by
    intro n
    induction n with
    | zero =>
      intro x f hx
      refine ⟨f, fun d Q hq => ?_⟩
      rw [sd_bF (by unfold sw_any; decide)] at hq
      rw [z_M_hasRow_2]
      simp (disch := first | exact sd_cr | exact sd_ci | exact sd_cu | exact sd_cl9 | assumption | omega | exact t_285 | exact t_283 | exact t_278 | exact t_281 | exact t_276 | exact t_274 | exact t_275 | exact t_277 | exact t_279 | exact t_280 | exact t_282 | exact t_284 | exact t_286 | exact t_287 | exact t_288 | exact t_289 | exact t_290 | exact t_291 | exact t_292 | exact t_293 | exact t_294 | exact t_295 | exact t_296 | exact t_297 | exact t_298 | exact t_299 | exact t_300) only [z_M_hasRow_3, z_M_hasRow_4, z_M_hasRow_7, z_M_hasRow_33, z_M_hasRow_34, false_and, and_false, if_true, if_false, Decidable.not_not, sd_ci, sd_cr, sd_cl9, sd_cu, sd_cat0, sd_cat1, sd_rfS, sd_n01, sd_n11, sd_n1, sd_n10, sd_n00, sd_b01, sd_b0, true_and, and_true, and_self, not_true_eq_false, not_false_eq_true, false_implies, true_implies, implies_true, or_true, true_or, or_false, false_or, Option.toList_some, Option.toList_none, List.cons_append, List.nil_append, Nat.reduceAdd, Nat.reduceLeDiff, nz_sub, nz_lt0, nz_ge0, nz_le0, nz_gt0, nz_eq0, nz_eq1, nz_lt, nz_le, nz_eq, nz_cl, nz_in, nz_add, nz_mul, nz_m1, nz_m1', Nat.reduceMul, Nat.reduceSub, Nat.reduceLT, Nat.reduceEqDiff, not_false_eq_true, false_implies, true_implies, true_and, and_true, h_271, t_272, n_272, t_273, n_273, t_274, n_274, t_275, n_275, t_276, n_276, t_277, n_277, t_278, n_278, t_279, n_279, t_280, n_280, t_281, n_281, t_282, n_282, t_283, n_283, t_284, n_284, t_285, n_285, t_286, n_286, t_287, n_287, t_288, n_288, t_289, n_289, t_290, n_290, t_291, n_291, t_292, n_292, t_293, n_293, t_294, n_294, t_295, n_295, t_296, n_296, t_297, n_297, t_298, n_298, t_299, n_299, t_300, n_300, t_301, n_301, r_271_1, r_271_2, r_271_3, r_271_4, r_271_15, r_271_16, r_271_18, r_271_19, r_271_20, r_271_21, r_271_22, r_271_23, r_271_24, r_271_25, r_271_26, r_271_34, r_271_35, r_271_38, r_271_39, r_271_40, r_271_42, r_271_45, r_271_46, r_271_47, r_271_48, r_271_49, r_271_50, r_271_53, r_271_54, r_271_55, r_271_57, c_M_size hl.2]
      ((repeat' first | (refine And.intro ?_ ?_) | (intro _)) <;> first | omega | exact hq)
    | succ n ih =>
      intro x f hx
      have hx8 : x < 8 ^ l := by omega
      obtain ⟨m1, m2, m3⟩ := sw_row_M (L := L) (xs := xs) (fm := fm) h (f := f) (x := x) hl hb hbk
      by_cases hp : sw_ka W b l x = true
      · refine ⟨sw_tr f l x, fun d Q hq => ?_⟩
        rw [sd_bT (by unfold sw_any; rw [hp, Bool.true_or])] at hq
        have cl := fun Q => c_M_lay (L := L) (xs := xs) (fm := fm) (σ := σ) (d := d + 2) (Q := Q) (f := f) hl.2 hx8
        have m1 := m1 d
        rw [z_M_hasRow_2]
        simp (disch := first | exact sd_cr | exact sd_ci | exact sd_cu | exact sd_cl9 | assumption | omega | exact t_285 | exact t_283 | exact t_278 | exact t_281 | exact t_276 | exact t_274 | exact t_275 | exact t_277 | exact t_279 | exact t_280 | exact t_282 | exact t_284 | exact t_286 | exact t_287 | exact t_288 | exact t_289 | exact t_290 | exact t_291 | exact t_292 | exact t_293 | exact t_294 | exact t_295 | exact t_296 | exact t_297 | exact t_298 | exact t_299 | exact t_300) only [z_M_hasRow_3, z_M_hasRow_4, z_M_hasRow_7, z_M_hasRow_10, z_M_hasRow_11, z_M_hasRow_12, z_M_hasRow_13, z_M_hasRow_16, z_M_hasRow_17, z_M_hasRow_18, z_M_hasRow_19, z_M_hasRow_22, z_M_hasRow_25, z_M_hasRow_26, z_M_hasRow_27, z_M_hasRow_30, false_and, and_false, if_true, if_false, Decidable.not_not, sd_ci, sd_cr, sd_cl9, sd_cu, sd_cat0, sd_cat1, sd_rfS, sd_n01, sd_n11, sd_n1, sd_n10, sd_n00, sd_b01, sd_b0, true_and, and_true, and_self, not_true_eq_false, not_false_eq_true, false_implies, true_implies, implies_true, or_true, true_or, or_false, false_or, Option.toList_some, Option.toList_none, List.cons_append, List.nil_append, Nat.reduceAdd, Nat.reduceLeDiff, nz_sub, nz_lt0, nz_ge0, nz_le0, nz_gt0, nz_eq0, nz_eq1, nz_lt, nz_le, nz_eq, nz_cl, nz_in, nz_add, nz_mul, nz_m1, nz_m1', Nat.reduceMul, Nat.reduceSub, Nat.reduceLT, Nat.reduceEqDiff, not_false_eq_true, false_implies, true_implies, true_and, and_true, h_271, t_272, n_272, t_273, n_273, t_274, n_274, t_275, n_275, t_276, n_276, t_277, n_277, t_278, n_278, t_279, n_279, t_280, n_280, t_281, n_281, t_282, n_282, t_283, n_283, t_284, n_284, t_285, n_285, t_286, n_286, t_287, n_287, t_288, n_288, t_289, n_289, t_290, n_290, t_291, n_291, t_292, n_292, t_293, n_293, t_294, n_294, t_295, n_295, t_296, n_296, t_297, n_297, t_298, n_298, t_299, n_299, t_300, n_300, t_301, n_301, r_271_1, r_271_2, r_271_3, r_271_4, r_271_15, r_271_16, r_271_18, r_271_19, r_271_20, r_271_21, r_271_22, r_271_23, r_271_24, r_271_25, r_271_26, r_271_34, r_271_35, r_271_38, r_271_39, r_271_40, r_271_42, r_271_45, r_271_46, r_271_47, r_271_48, r_271_49, r_271_50, r_271_53, r_271_54, r_271_55, r_271_57, c_M_size hl.2, cl, m1, hp]
        ((repeat' first | (refine And.intro ?_ ?_) | (intro _)) <;> first | omega | exact hq)
      · obtain ⟨f', g⟩ := ih (x + 1) (sw_tr f l x) (by omega)
        refine ⟨f', fun d Q hq => ?_⟩
        have e : sw_any (fun x => sw_ka W b l x) (n + 1) x = sw_any (fun x => sw_ka W b l x) n (x + 1) := by
          show (sw_ka W b l x || _) = _
          rw [Bool.not_eq_true] at hp
          rw [hp, Bool.false_or]
        rw [e] at hq
        have g2 := g d Q hq
        have cl := fun Q => c_M_lay (L := L) (xs := xs) (fm := fm) (σ := σ) (d := d + 2) (Q := Q) (f := f) hl.2 hx8
        have m1 := m1 d
        rw [z_M_hasRow_2]
        simp (disch := first | exact sd_cr | exact sd_ci | exact sd_cu | exact sd_cl9 | assumption | omega | exact t_285 | exact t_283 | exact t_278 | exact t_281 | exact t_276 | exact t_274 | exact t_275 | exact t_277 | exact t_279 | exact t_280 | exact t_282 | exact t_284 | exact t_286 | exact t_287 | exact t_288 | exact t_289 | exact t_290 | exact t_291 | exact t_292 | exact t_293 | exact t_294 | exact t_295 | exact t_296 | exact t_297 | exact t_298 | exact t_299 | exact t_300) only [z_M_hasRow_3, z_M_hasRow_4, z_M_hasRow_7, z_M_hasRow_10, z_M_hasRow_11, z_M_hasRow_12, z_M_hasRow_13, z_M_hasRow_16, z_M_hasRow_17, z_M_hasRow_18, z_M_hasRow_19, z_M_hasRow_22, z_M_hasRow_25, z_M_hasRow_26, z_M_hasRow_27, z_M_hasRow_30, false_and, and_false, if_true, if_false, Decidable.not_not, sd_ci, sd_cr, sd_cl9, sd_cu, sd_cat0, sd_cat1, sd_rfS, sd_n01, sd_n11, sd_n1, sd_n10, sd_n00, sd_b01, sd_b0, true_and, and_true, and_self, not_true_eq_false, not_false_eq_true, false_implies, true_implies, implies_true, or_true, true_or, or_false, false_or, Option.toList_some, Option.toList_none, List.cons_append, List.nil_append, Nat.reduceAdd, Nat.reduceLeDiff, nz_sub, nz_lt0, nz_ge0, nz_le0, nz_gt0, nz_eq0, nz_eq1, nz_lt, nz_le, nz_eq, nz_cl, nz_in, nz_add, nz_mul, nz_m1, nz_m1', Nat.reduceMul, Nat.reduceSub, Nat.reduceLT, Nat.reduceEqDiff, not_false_eq_true, false_implies, true_implies, true_and, and_true, h_271, t_272, n_272, t_273, n_273, t_274, n_274, t_275, n_275, t_276, n_276, t_277, n_277, t_278, n_278, t_279, n_279, t_280, n_280, t_281, n_281, t_282, n_282, t_283, n_283, t_284, n_284, t_285, n_285, t_286, n_286, t_287, n_287, t_288, n_288, t_289, n_289, t_290, n_290, t_291, n_291, t_292, n_292, t_293, n_293, t_294, n_294, t_295, n_295, t_296, n_296, t_297, n_297, t_298, n_298, t_299, n_299, t_300, n_300, t_301, n_301, r_271_1, r_271_2, r_271_3, r_271_4, r_271_15, r_271_16, r_271_18, r_271_19, r_271_20, r_271_21, r_271_22, r_271_23, r_271_24, r_271_25, r_271_26, r_271_34, r_271_35, r_271_38, r_271_39, r_271_40, r_271_42, r_271_45, r_271_46, r_271_47, r_271_48, r_271_49, r_271_50, r_271_53, r_271_54, r_271_55, r_271_57, c_M_size hl.2, cl, m1, hp, Bool.false_eq_true]
        ((repeat' first | (refine And.intro ?_ ?_) | (intro _)) <;> first | omega | exact g2)
  obtain ⟨f', g⟩ := key (8 ^ l) 0 f (by omega)
  refine ⟨f', fun d Q => sd_Call.iff (fun Q hq => ?_) Q⟩
  rw [sd_Call.start (ls := [.ref 271, .int (nI b), .int (nI l), sd_un]) m_M_hasRow (by decide) (Nat.le_of_ble_eq_true rfl) rfl]
  simp (disch := first | exact sd_cr | exact sd_ci | exact sd_cu | exact sd_cl9 | assumption | omega | exact t_285 | exact t_283 | exact t_278 | exact t_281 | exact t_276 | exact t_274 | exact t_275 | exact t_277 | exact t_279 | exact t_280 | exact t_282 | exact t_284 | exact t_286 | exact t_287 | exact t_288 | exact t_289 | exact t_290 | exact t_291 | exact t_292 | exact t_293 | exact t_294 | exact t_295 | exact t_296 | exact t_297 | exact t_298 | exact t_299 | exact t_300) only [z_M_hasRow_0, z_M_hasRow_1, false_and, and_false, if_true, if_false, Decidable.not_not, sd_ci, sd_cr, sd_cl9, sd_cu, sd_cat0, sd_cat1, sd_rfS, sd_n01, sd_n11, sd_n1, sd_n10, sd_n00, sd_b01, sd_b0, true_and, and_true, and_self, not_true_eq_false, not_false_eq_true, false_implies, true_implies, implies_true, or_true, true_or, or_false, false_or, Option.toList_some, Option.toList_none, List.cons_append, List.nil_append, Nat.reduceAdd, Nat.reduceLeDiff]
  exact g d Q hq
/-- strike's sets: those that can be left out -/
def sw_ok1 (W : sw_T) (vs l T : Nat) : Prop := T ||| vs = vs ∧ sw_hr W (vs &&& (T ^^^ 4095)) l = true
theorem l_M_strike1 {σ : sd_Mem} (h : sw_RM σ A W) {p vs l k : Nat} (hl : 0 < l ∧ l ≤ 5) (hvs : vs < 4096) (hbk : ∀ v, v < W 0 0 0 → vs.testBit v = true → W 1 v 1 ≤ 5) (hk : k ≤ 12) : ∀ n t f, t + n = vs + 1 → (∀ T, t ≤ T → T ≤ vs → sw_pc T = k → ¬ sw_ok1 W vs l T) → ∃ f', ∀ (d : Nat) Q, (∀ l5, sd_Go (sd_E1 L xs fm) (d + 4) y_M_strike 36 [.ref 271, .int (nI p), .int (nI l), .int (nI vs), .int (nI (k + 1)), l5] [] (sd_wA σ 293 f') Q) → sd_Go (sd_E1 L xs fm) (d + 4) y_M_strike 46 [.ref 271, .int (nI p), .int (nI l), .int (nI vs), .int (nI k), .int (nI t)] [] (sd_wA σ 293 f) Q := by
  intro n
  induction n with
  | zero =>
    intro t f ht hno
    refine ⟨f, fun d Q hq => ?_⟩
    have hq := hq (.int (nI t))
    rw [z_M_strike_46]
    simp (disch := first | exact sd_cr | exact sd_ci | exact sd_cu | exact sd_cl9 | assumption | omega | exact t_285 | exact t_283 | exact t_278 | exact t_281 | exact t_276 | exact t_274 | exact t_275 | exact t_277 | exact t_279 | exact t_280 | exact t_282 | exact t_284 | exact t_286 | exact t_287 | exact t_288 | exact t_289 | exact t_290 | exact t_291 | exact t_292 | exact t_293 | exact t_294 | exact t_295 | exact t_296 | exact t_297 | exact t_298 | exact t_299 | exact t_300) only [z_M_strike_48, z_M_strike_49, z_M_strike_94, z_M_strike_97, false_and, and_false, if_true, if_false, Decidable.not_not, sd_ci, sd_cr, sd_cl9, sd_cu, sd_cat0, sd_cat1, sd_rfS, sd_n01, sd_n11, sd_n1, sd_n10, sd_n00, sd_b01, sd_b0, true_and, and_true, and_self, not_true_eq_false, not_false_eq_true, false_implies, true_implies, implies_true, or_true, true_or, or_false, false_or, Option.toList_some, Option.toList_none, List.cons_append, List.nil_append, Nat.reduceAdd, Nat.reduceLeDiff, nz_sub, nz_lt0, nz_ge0, nz_le0, nz_gt0, nz_eq0, nz_eq1, nz_lt, nz_le, nz_eq, nz_cl, nz_in, nz_add, nz_mul, nz_m1, nz_m1', Nat.reduceMul, Nat.reduceSub, Nat.reduceLT, Nat.reduceEqDiff, not_false_eq_true, false_implies, true_implies, true_and, and_true, h_271, t_272, n_272, t_273, n_273, t_274, n_274, t_275, n_275, t_276, n_276, t_277, n_277, t_278, n_278, t_279, n_279, t_280, n_280, t_281, n_281, t_282, n_282, t_283, n_283, t_284, n_284, t_285, n_285, t_286, n_286, t_287, n_287, t_288, n_288, t_289, n_289, t_290, n_290, t_291, n_291, t_292, n_292, t_293, n_293, t_294, n_294, t_295, n_295, t_296, n_296, t_297, n_297, t_298, n_298, t_299, n_299, t_300, n_300, t_301, n_301, r_271_1, r_271_2, r_271_3, r_271_4, r_271_15, r_271_16, r_271_18, r_271_19, r_271_20, r_271_21, r_271_22, r_271_23, r_271_24, r_271_25, r_271_26, r_271_34, r_271_35, r_271_38, r_271_39, r_271_40, r_271_42, r_271_45, r_271_46, r_271_47, r_271_48, r_271_49, r_271_50, r_271_53, r_271_54, r_271_55, r_271_57]
    ((repeat' first | (refine And.intro ?_ ?_) | (intro _)) <;> first | omega | exact hq)
  | succ n ih =>
    intro t f ht hno
    have ht4 : t < 4096 := by omega
    have hno2 := fun T (h1 : t + 1 ≤ T) => hno T (by omega)
    have e1 := nz_sub12 (S := t) (T := vs) ht4
    have e2 := nz_sub12 (S := vs) (T := t) hvs
    have l1 : t &&& (vs ^^^ 4095) < 4096 := Nat.lt_of_le_of_lt Nat.and_le_left ht4
    have l2 : vs &&& (t ^^^ 4095) < 4096 := Nat.lt_of_le_of_lt Nat.and_le_left hvs
    have hpc := sw_pc_le t
    by_cases h1 : t &&& (vs ^^^ 4095) = 0
    · by_cases h2 : sw_pc t = k
      · have h3 : ¬ sw_hr W (vs &&& (t ^^^ 4095)) l = true := fun q => hno t (Nat.le_refl _) (by omega) h2 ⟨(sw_dif_0 ht4).mp h1, q⟩
        obtain ⟨f1, c1⟩ := c_M_hasRow (L := L) (xs := xs) (fm := fm) h (b := vs &&& (t ^^^ 4095)) hl l2 (fun v hv hb => hbk v hv (by rw [sw_dif_tb hvs, Bool.and_eq_true] at hb; exact hb.1)) f
        obtain ⟨f', g⟩ := ih (t + 1) f1 (by omega) hno2
        refine ⟨f', fun d Q hq => ?_⟩
        have g2 := g d Q hq
        have c1' := fun Q => c1 d Q
        rw [z_M_strike_46]
        simp (disch := first | exact sd_cr | exact sd_ci | exact sd_cu | exact sd_cl9 | assumption | omega | exact t_285 | exact t_283 | exact t_278 | exact t_281 | exact t_276 | exact t_274 | exact t_275 | exact t_277 | exact t_279 | exact t_280 | exact t_282 | exact t_284 | exact t_286 | exact t_287 | exact t_288 | exact t_289 | exact t_290 | exact t_291 | exact t_292 | exact t_293 | exact t_294 | exact t_295 | exact t_296 | exact t_297 | exact t_298 | exact t_299 | exact t_300) only [z_M_strike_48, z_M_strike_49, z_M_strike_52, z_M_strike_54, z_M_strike_55, z_M_strike_56, z_M_strike_57, z_M_strike_58, z_M_strike_61, z_M_strike_63, z_M_strike_66, z_M_strike_68, z_M_strike_71, z_M_strike_72, z_M_strike_73, z_M_strike_75, z_M_strike_76, z_M_strike_77, z_M_strike_78, z_M_strike_79, z_M_strike_82, z_M_strike_85, z_M_strike_87, z_M_strike_88, z_M_strike_91, false_and, and_false, if_true, if_false, Decidable.not_not, sd_ci, sd_cr, sd_cl9, sd_cu, sd_cat0, sd_cat1, sd_rfS, sd_n01, sd_n11, sd_n1, sd_n10, sd_n00, sd_b01, sd_b0, true_and, and_true, and_self, not_true_eq_false, not_false_eq_true, false_implies, true_implies, implies_true, or_true, true_or, or_false, false_or, Option.toList_some, Option.toList_none, List.cons_append, List.nil_append, Nat.reduceAdd, Nat.reduceLeDiff, nz_sub, nz_lt0, nz_ge0, nz_le0, nz_gt0, nz_eq0, nz_eq1, nz_lt, nz_le, nz_eq, nz_cl, nz_in, nz_add, nz_mul, nz_m1, nz_m1', Nat.reduceMul, Nat.reduceSub, Nat.reduceLT, Nat.reduceEqDiff, not_false_eq_true, false_implies, true_implies, true_and, and_true, h_271, t_272, n_272, t_273, n_273, t_274, n_274, t_275, n_275, t_276, n_276, t_277, n_277, t_278, n_278, t_279, n_279, t_280, n_280, t_281, n_281, t_282, n_282, t_283, n_283, t_284, n_284, t_285, n_285, t_286, n_286, t_287, n_287, t_288, n_288, t_289, n_289, t_290, n_290, t_291, n_291, t_292, n_292, t_293, n_293, t_294, n_294, t_295, n_295, t_296, n_296, t_297, n_297, t_298, n_298, t_299, n_299, t_300, n_300, t_301, n_301, r_271_1, r_271_2, r_271_3, r_271_4, r_271_15, r_271_16, r_271_18, r_271_19, r_271_20, r_271_21, r_271_22, r_271_23, r_271_24, r_271_25, r_271_26, r_271_34, r_271_35, r_271_38, r_271_39, r_271_40, r_271_42, r_271_45, r_271_46, r_271_47, r_271_48, r_271_49, r_271_50, r_271_53, r_271_54, r_271_55, r_271_57, e1, h1, c_Int_bitCount ht4, h2, e2, c1', h3, Bool.false_eq_true]
        ((repeat' first | (refine And.intro ?_ ?_) | (intro _)) <;> first | omega | exact g2)
      · obtain ⟨f', g⟩ := ih (t + 1) f (by omega) hno2
        refine ⟨f', fun d Q hq => ?_⟩
        have g2 := g d Q hq
        rw [z_M_strike_46]
        simp (disch := first | exact sd_cr | exact sd_ci | exact sd_cu | exact sd_cl9 | assumption | omega | exact t_285 | exact t_283 | exact t_278 | exact t_281 | exact t_276 | exact t_274 | exact t_275 | exact t_277 | exact t_279 | exact t_280 | exact t_282 | exact t_284 | exact t_286 | exact t_287 | exact t_288 | exact t_289 | exact t_290 | exact t_291 | exact t_292 | exact t_293 | exact t_294 | exact t_295 | exact t_296 | exact t_297 | exact t_298 | exact t_299 | exact t_300) only [z_M_strike_48, z_M_strike_49, z_M_strike_52, z_M_strike_54, z_M_strike_55, z_M_strike_56, z_M_strike_57, z_M_strike_58, z_M_strike_61, z_M_strike_63, z_M_strike_66, z_M_strike_68, z_M_strike_88, z_M_strike_91, false_and, and_false, if_true, if_false, Decidable.not_not, sd_ci, sd_cr, sd_cl9, sd_cu, sd_cat0, sd_cat1, sd_rfS, sd_n01, sd_n11, sd_n1, sd_n10, sd_n00, sd_b01, sd_b0, true_and, and_true, and_self, not_true_eq_false, not_false_eq_true, false_implies, true_implies, implies_true, or_true, true_or, or_false, false_or, Option.toList_some, Option.toList_none, List.cons_append, List.nil_append, Nat.reduceAdd, Nat.reduceLeDiff, nz_sub, nz_lt0, nz_ge0, nz_le0, nz_gt0, nz_eq0, nz_eq1, nz_lt, nz_le, nz_eq, nz_cl, nz_in, nz_add, nz_mul, nz_m1, nz_m1', Nat.reduceMul, Nat.reduceSub, Nat.reduceLT, Nat.reduceEqDiff, not_false_eq_true, false_implies, true_implies, true_and, and_true, h_271, t_272, n_272, t_273, n_273, t_274, n_274, t_275, n_275, t_276, n_276, t_277, n_277, t_278, n_278, t_279, n_279, t_280, n_280, t_281, n_281, t_282, n_282, t_283, n_283, t_284, n_284, t_285, n_285, t_286, n_286, t_287, n_287, t_288, n_288, t_289, n_289, t_290, n_290, t_291, n_291, t_292, n_292, t_293, n_293, t_294, n_294, t_295, n_295, t_296, n_296, t_297, n_297, t_298, n_298, t_299, n_299, t_300, n_300, t_301, n_301, r_271_1, r_271_2, r_271_3, r_271_4, r_271_15, r_271_16, r_271_18, r_271_19, r_271_20, r_271_21, r_271_22, r_271_23, r_271_24, r_271_25, r_271_26, r_271_34, r_271_35, r_271_38, r_271_39, r_271_40, r_271_42, r_271_45, r_271_46, r_271_47, r_271_48, r_271_49, r_271_50, r_271_53, r_271_54, r_271_55, r_271_57, e1, h1, c_Int_bitCount ht4, h2]
        ((repeat' first | (refine And.intro ?_ ?_) | (intro _)) <;> first | omega | exact g2)
    · obtain ⟨f', g⟩ := ih (t + 1) f (by omega) hno2
      refine ⟨f', fun d Q hq => ?_⟩
      have g2 := g d Q hq
      rw [z_M_strike_46]
      simp (disch := first | exact sd_cr | exact sd_ci | exact sd_cu | exact sd_cl9 | assumption | omega | exact t_285 | exact t_283 | exact t_278 | exact t_281 | exact t_276 | exact t_274 | exact t_275 | exact t_277 | exact t_279 | exact t_280 | exact t_282 | exact t_284 | exact t_286 | exact t_287 | exact t_288 | exact t_289 | exact t_290 | exact t_291 | exact t_292 | exact t_293 | exact t_294 | exact t_295 | exact t_296 | exact t_297 | exact t_298 | exact t_299 | exact t_300) only [z_M_strike_48, z_M_strike_49, z_M_strike_52, z_M_strike_54, z_M_strike_55, z_M_strike_56, z_M_strike_57, z_M_strike_58, z_M_strike_88, z_M_strike_91, false_and, and_false, if_true, if_false, Decidable.not_not, sd_ci, sd_cr, sd_cl9, sd_cu, sd_cat0, sd_cat1, sd_rfS, sd_n01, sd_n11, sd_n1, sd_n10, sd_n00, sd_b01, sd_b0, true_and, and_true, and_self, not_true_eq_false, not_false_eq_true, false_implies, true_implies, implies_true, or_true, true_or, or_false, false_or, Option.toList_some, Option.toList_none, List.cons_append, List.nil_append, Nat.reduceAdd, Nat.reduceLeDiff, nz_sub, nz_lt0, nz_ge0, nz_le0, nz_gt0, nz_eq0, nz_eq1, nz_lt, nz_le, nz_eq, nz_cl, nz_in, nz_add, nz_mul, nz_m1, nz_m1', Nat.reduceMul, Nat.reduceSub, Nat.reduceLT, Nat.reduceEqDiff, not_false_eq_true, false_implies, true_implies, true_and, and_true, h_271, t_272, n_272, t_273, n_273, t_274, n_274, t_275, n_275, t_276, n_276, t_277, n_277, t_278, n_278, t_279, n_279, t_280, n_280, t_281, n_281, t_282, n_282, t_283, n_283, t_284, n_284, t_285, n_285, t_286, n_286, t_287, n_287, t_288, n_288, t_289, n_289, t_290, n_290, t_291, n_291, t_292, n_292, t_293, n_293, t_294, n_294, t_295, n_295, t_296, n_296, t_297, n_297, t_298, n_298, t_299, n_299, t_300, n_300, t_301, n_301, r_271_1, r_271_2, r_271_3, r_271_4, r_271_15, r_271_16, r_271_18, r_271_19, r_271_20, r_271_21, r_271_22, r_271_23, r_271_24, r_271_25, r_271_26, r_271_34, r_271_35, r_271_38, r_271_39, r_271_40, r_271_42, r_271_45, r_271_46, r_271_47, r_271_48, r_271_49, r_271_50, r_271_53, r_271_54, r_271_55, r_271_57, e1, h1]
      ((repeat' first | (refine And.intro ?_ ?_) | (intro _)) <;> first | omega | exact g2)
theorem l_M_strike2 {σ : sd_Mem} (h : sw_RM σ A W) {p vs l b : Nat} (hl : 0 < l ∧ l ≤ 5) (hvs : vs < 4096) (hbk : ∀ v, v < W 0 0 0 → vs.testBit v = true → W 1 v 1 ≤ 5) (hb : b ≤ vs) (hok : sw_ok1 W vs l b) : ∀ n t f, t + n = b → (∀ T, t ≤ T → T < b → sw_pc T = sw_pc b → ¬ sw_ok1 W vs l T) → ∃ f', ∀ (d : Nat) Q, Q (some (.int (nI b))) (sd_wA σ 293 f') → sd_Go (sd_E1 L xs fm) (d + 4) y_M_strike 46 [.ref 271, .int (nI p), .int (nI l), .int (nI vs), .int (nI (sw_pc b)), .int (nI t)] [] (sd_wA σ 293 f) Q := by
  have hpb := sw_pc_le b
  intro n
  induction n with
  | zero =>
    intro t f ht hno
    have et : t = b := by omega
    subst et
    have ht4 : t < 4096 := by omega
    have e1 := nz_sub12 (S := t) (T := vs) ht4
    have e2 := nz_sub12 (S := vs) (T := t) hvs
    have l2 : vs &&& (t ^^^ 4095) < 4096 := Nat.lt_of_le_of_lt Nat.and_le_left hvs
    have h1 := (sw_dif_0 ht4).mpr hok.1
    have h3 := hok.2
    obtain ⟨f1, c1⟩ := c_M_hasRow (L := L) (xs := xs) (fm := fm) h (b := vs &&& (t ^^^ 4095)) hl l2 (fun v hv hb => hbk v hv (by rw [sw_dif_tb hvs, Bool.and_eq_true] at hb; exact hb.1)) f
    refine ⟨f1, fun d Q hq => ?_⟩
    have c1' := fun Q => c1 d Q
    rw [z_M_strike_46]
    simp (disch := first | exact sd_cr | exact sd_ci | exact sd_cu | exact sd_cl9 | assumption | omega | exact t_285 | exact t_283 | exact t_278 | exact t_281 | exact t_276 | exact t_274 | exact t_275 | exact t_277 | exact t_279 | exact t_280 | exact t_282 | exact t_284 | exact t_286 | exact t_287 | exact t_288 | exact t_289 | exact t_290 | exact t_291 | exact t_292 | exact t_293 | exact t_294 | exact t_295 | exact t_296 | exact t_297 | exact t_298 | exact t_299 | exact t_300) only [z_M_strike_48, z_M_strike_49, z_M_strike_52, z_M_strike_54, z_M_strike_55, z_M_strike_56, z_M_strike_57, z_M_strike_58, z_M_strike_61, z_M_strike_63, z_M_strike_66, z_M_strike_68, z_M_strike_71, z_M_strike_72, z_M_strike_73, z_M_strike_75, z_M_strike_76, z_M_strike_77, z_M_strike_78, z_M_strike_79, z_M_strike_82, z_M_strike_85, z_M_strike_87, z_M_strike_88, z_M_strike_91, false_and, and_false, if_true, if_false, Decidable.not_not, sd_ci, sd_cr, sd_cl9, sd_cu, sd_cat0, sd_cat1, sd_rfS, sd_n01, sd_n11, sd_n1, sd_n10, sd_n00, sd_b01, sd_b0, true_and, and_true, and_self, not_true_eq_false, not_false_eq_true, false_implies, true_implies, implies_true, or_true, true_or, or_false, false_or, Option.toList_some, Option.toList_none, List.cons_append, List.nil_append, Nat.reduceAdd, Nat.reduceLeDiff, nz_sub, nz_lt0, nz_ge0, nz_le0, nz_gt0, nz_eq0, nz_eq1, nz_lt, nz_le, nz_eq, nz_cl, nz_in, nz_add, nz_mul, nz_m1, nz_m1', Nat.reduceMul, Nat.reduceSub, Nat.reduceLT, Nat.reduceEqDiff, not_false_eq_true, false_implies, true_implies, true_and, and_true, h_271, t_272, n_272, t_273, n_273, t_274, n_274, t_275, n_275, t_276, n_276, t_277, n_277, t_278, n_278, t_279, n_279, t_280, n_280, t_281, n_281, t_282, n_282, t_283, n_283, t_284, n_284, t_285, n_285, t_286, n_286, t_287, n_287, t_288, n_288, t_289, n_289, t_290, n_290, t_291, n_291, t_292, n_292, t_293, n_293, t_294, n_294, t_295, n_295, t_296, n_296, t_297, n_297, t_298, n_298, t_299, n_299, t_300, n_300, t_301, n_301, r_271_1, r_271_2, r_271_3, r_271_4, r_271_15, r_271_16, r_271_18, r_271_19, r_271_20, r_271_21, r_271_22, r_271_23, r_271_24, r_271_25, r_271_26, r_271_34, r_271_35, r_271_38, r_271_39, r_271_40, r_271_42, r_271_45, r_271_46, r_271_47, r_271_48, r_271_49, r_271_50, r_271_53, r_271_54, r_271_55, r_271_57, e1, h1, c_Int_bitCount ht4, e2, c1', h3]
    ((repeat' first | (refine And.intro ?_ ?_) | (intro _)) <;> first | omega | exact hq)
  | succ n ih =>
    intro t f ht hno
    have ht4 : t < 4096 := by omega
    have hno2 := fun T (h1 : t + 1 ≤ T) => hno T (by omega)
    have e1 := nz_sub12 (S := t) (T := vs) ht4
    have e2 := nz_sub12 (S := vs) (T := t) hvs
    have l1 : t &&& (vs ^^^ 4095) < 4096 := Nat.lt_of_le_of_lt Nat.and_le_left ht4
    have l2 : vs &&& (t ^^^ 4095) < 4096 := Nat.lt_of_le_of_lt Nat.and_le_left hvs
    have hpc := sw_pc_le t
    by_cases h1 : t &&& (vs ^^^ 4095) = 0
    · by_cases h2 : sw_pc t = sw_pc b
      · have h3 : ¬ sw_hr W (vs &&& (t ^^^ 4095)) l = true := fun q => hno t (Nat.le_refl _) (by omega) h2 ⟨(sw_dif_0 ht4).mp h1, q⟩
        obtain ⟨f1, c1⟩ := c_M_hasRow (L := L) (xs := xs) (fm := fm) h (b := vs &&& (t ^^^ 4095)) hl l2 (fun v hv hb => hbk v hv (by rw [sw_dif_tb hvs, Bool.and_eq_true] at hb; exact hb.1)) f
        obtain ⟨f', g⟩ := ih (t + 1) f1 (by omega) hno2
        refine ⟨f', fun d Q hq => ?_⟩
        have g2 := g d Q hq
        have c1' := fun Q => c1 d Q
        rw [z_M_strike_46]
        simp (disch := first | exact sd_cr | exact sd_ci | exact sd_cu | exact sd_cl9 | assumption | omega | exact t_285 | exact t_283 | exact t_278 | exact t_281 | exact t_276 | exact t_274 | exact t_275 | exact t_277 | exact t_279 | exact t_280 | exact t_282 | exact t_284 | exact t_286 | exact t_287 | exact t_288 | exact t_289 | exact t_290 | exact t_291 | exact t_292 | exact t_293 | exact t_294 | exact t_295 | exact t_296 | exact t_297 | exact t_298 | exact t_299 | exact t_300) only [z_M_strike_48, z_M_strike_49, z_M_strike_52, z_M_strike_54, z_M_strike_55, z_M_strike_56, z_M_strike_57, z_M_strike_58, z_M_strike_61, z_M_strike_63, z_M_strike_66, z_M_strike_68, z_M_strike_71, z_M_strike_72, z_M_strike_73, z_M_strike_75, z_M_strike_76, z_M_strike_77, z_M_strike_78, z_M_strike_79, z_M_strike_82, z_M_strike_85, z_M_strike_87, z_M_strike_88, z_M_strike_91, false_and, and_false, if_true, if_false, Decidable.not_not, sd_ci, sd_cr, sd_cl9, sd_cu, sd_cat0, sd_cat1, sd_rfS, sd_n01, sd_n11, sd_n1, sd_n10, sd_n00, sd_b01, sd_b0, true_and, and_true, and_self, not_true_eq_false, not_false_eq_true, false_implies, true_implies, implies_true, or_true, true_or, or_false, false_or, Option.toList_some, Option.toList_none, List.cons_append, List.nil_append, Nat.reduceAdd, Nat.reduceLeDiff, nz_sub, nz_lt0, nz_ge0, nz_le0, nz_gt0, nz_eq0, nz_eq1, nz_lt, nz_le, nz_eq, nz_cl, nz_in, nz_add, nz_mul, nz_m1, nz_m1', Nat.reduceMul, Nat.reduceSub, Nat.reduceLT, Nat.reduceEqDiff, not_false_eq_true, false_implies, true_implies, true_and, and_true, h_271, t_272, n_272, t_273, n_273, t_274, n_274, t_275, n_275, t_276, n_276, t_277, n_277, t_278, n_278, t_279, n_279, t_280, n_280, t_281, n_281, t_282, n_282, t_283, n_283, t_284, n_284, t_285, n_285, t_286, n_286, t_287, n_287, t_288, n_288, t_289, n_289, t_290, n_290, t_291, n_291, t_292, n_292, t_293, n_293, t_294, n_294, t_295, n_295, t_296, n_296, t_297, n_297, t_298, n_298, t_299, n_299, t_300, n_300, t_301, n_301, r_271_1, r_271_2, r_271_3, r_271_4, r_271_15, r_271_16, r_271_18, r_271_19, r_271_20, r_271_21, r_271_22, r_271_23, r_271_24, r_271_25, r_271_26, r_271_34, r_271_35, r_271_38, r_271_39, r_271_40, r_271_42, r_271_45, r_271_46, r_271_47, r_271_48, r_271_49, r_271_50, r_271_53, r_271_54, r_271_55, r_271_57, e1, h1, c_Int_bitCount ht4, h2, e2, c1', h3, Bool.false_eq_true]
        ((repeat' first | (refine And.intro ?_ ?_) | (intro _)) <;> first | omega | exact g2)
      · obtain ⟨f', g⟩ := ih (t + 1) f (by omega) hno2
        refine ⟨f', fun d Q hq => ?_⟩
        have g2 := g d Q hq
        rw [z_M_strike_46]
        simp (disch := first | exact sd_cr | exact sd_ci | exact sd_cu | exact sd_cl9 | assumption | omega | exact t_285 | exact t_283 | exact t_278 | exact t_281 | exact t_276 | exact t_274 | exact t_275 | exact t_277 | exact t_279 | exact t_280 | exact t_282 | exact t_284 | exact t_286 | exact t_287 | exact t_288 | exact t_289 | exact t_290 | exact t_291 | exact t_292 | exact t_293 | exact t_294 | exact t_295 | exact t_296 | exact t_297 | exact t_298 | exact t_299 | exact t_300) only [z_M_strike_48, z_M_strike_49, z_M_strike_52, z_M_strike_54, z_M_strike_55, z_M_strike_56, z_M_strike_57, z_M_strike_58, z_M_strike_61, z_M_strike_63, z_M_strike_66, z_M_strike_68, z_M_strike_88, z_M_strike_91, false_and, and_false, if_true, if_false, Decidable.not_not, sd_ci, sd_cr, sd_cl9, sd_cu, sd_cat0, sd_cat1, sd_rfS, sd_n01, sd_n11, sd_n1, sd_n10, sd_n00, sd_b01, sd_b0, true_and, and_true, and_self, not_true_eq_false, not_false_eq_true, false_implies, true_implies, implies_true, or_true, true_or, or_false, false_or, Option.toList_some, Option.toList_none, List.cons_append, List.nil_append, Nat.reduceAdd, Nat.reduceLeDiff, nz_sub, nz_lt0, nz_ge0, nz_le0, nz_gt0, nz_eq0, nz_eq1, nz_lt, nz_le, nz_eq, nz_cl, nz_in, nz_add, nz_mul, nz_m1, nz_m1', Nat.reduceMul, Nat.reduceSub, Nat.reduceLT, Nat.reduceEqDiff, not_false_eq_true, false_implies, true_implies, true_and, and_true, h_271, t_272, n_272, t_273, n_273, t_274, n_274, t_275, n_275, t_276, n_276, t_277, n_277, t_278, n_278, t_279, n_279, t_280, n_280, t_281, n_281, t_282, n_282, t_283, n_283, t_284, n_284, t_285, n_285, t_286, n_286, t_287, n_287, t_288, n_288, t_289, n_289, t_290, n_290, t_291, n_291, t_292, n_292, t_293, n_293, t_294, n_294, t_295, n_295, t_296, n_296, t_297, n_297, t_298, n_298, t_299, n_299, t_300, n_300, t_301, n_301, r_271_1, r_271_2, r_271_3, r_271_4, r_271_15, r_271_16, r_271_18, r_271_19, r_271_20, r_271_21, r_271_22, r_271_23, r_271_24, r_271_25, r_271_26, r_271_34, r_271_35, r_271_38, r_271_39, r_271_40, r_271_42, r_271_45, r_271_46, r_271_47, r_271_48, r_271_49, r_271_50, r_271_53, r_271_54, r_271_55, r_271_57, e1, h1, c_Int_bitCount ht4, h2]
        ((repeat' first | (refine And.intro ?_ ?_) | (intro _)) <;> first | omega | exact g2)
    · obtain ⟨f', g⟩ := ih (t + 1) f (by omega) hno2
      refine ⟨f', fun d Q hq => ?_⟩
      have g2 := g d Q hq
      rw [z_M_strike_46]
      simp (disch := first | exact sd_cr | exact sd_ci | exact sd_cu | exact sd_cl9 | assumption | omega | exact t_285 | exact t_283 | exact t_278 | exact t_281 | exact t_276 | exact t_274 | exact t_275 | exact t_277 | exact t_279 | exact t_280 | exact t_282 | exact t_284 | exact t_286 | exact t_287 | exact t_288 | exact t_289 | exact t_290 | exact t_291 | exact t_292 | exact t_293 | exact t_294 | exact t_295 | exact t_296 | exact t_297 | exact t_298 | exact t_299 | exact t_300) only [z_M_strike_48, z_M_strike_49, z_M_strike_52, z_M_strike_54, z_M_strike_55, z_M_strike_56, z_M_strike_57, z_M_strike_58, z_M_strike_88, z_M_strike_91, false_and, and_false, if_true, if_false, Decidable.not_not, sd_ci, sd_cr, sd_cl9, sd_cu, sd_cat0, sd_cat1, sd_rfS, sd_n01, sd_n11, sd_n1, sd_n10, sd_n00, sd_b01, sd_b0, true_and, and_true, and_self, not_true_eq_false, not_false_eq_true, false_implies, true_implies, implies_true, or_true, true_or, or_false, false_or, Option.toList_some, Option.toList_none, List.cons_append, List.nil_append, Nat.reduceAdd, Nat.reduceLeDiff, nz_sub, nz_lt0, nz_ge0, nz_le0, nz_gt0, nz_eq0, nz_eq1, nz_lt, nz_le, nz_eq, nz_cl, nz_in, nz_add, nz_mul, nz_m1, nz_m1', Nat.reduceMul, Nat.reduceSub, Nat.reduceLT, Nat.reduceEqDiff, not_false_eq_true, false_implies, true_implies, true_and, and_true, h_271, t_272, n_272, t_273, n_273, t_274, n_274, t_275, n_275, t_276, n_276, t_277, n_277, t_278, n_278, t_279, n_279, t_280, n_280, t_281, n_281, t_282, n_282, t_283, n_283, t_284, n_284, t_285, n_285, t_286, n_286, t_287, n_287, t_288, n_288, t_289, n_289, t_290, n_290, t_291, n_291, t_292, n_292, t_293, n_293, t_294, n_294, t_295, n_295, t_296, n_296, t_297, n_297, t_298, n_298, t_299, n_299, t_300, n_300, t_301, n_301, r_271_1, r_271_2, r_271_3, r_271_4, r_271_15, r_271_16, r_271_18, r_271_19, r_271_20, r_271_21, r_271_22, r_271_23, r_271_24, r_271_25, r_271_26, r_271_34, r_271_35, r_271_38, r_271_39, r_271_40, r_271_42, r_271_45, r_271_46, r_271_47, r_271_48, r_271_49, r_271_50, r_271_53, r_271_54, r_271_55, r_271_57, e1, h1]
      ((repeat' first | (refine And.intro ?_ ?_) | (intro _)) <;> first | omega | exact g2)
theorem l_M_strike {σ : sd_Mem} (h : sw_RM σ A W) {p vs l b : Nat} (hl : 0 < l ∧ l ≤ 5) (hvs : vs < 4096) (hbk : ∀ v, v < W 0 0 0 → vs.testBit v = true → W 1 v 1 ≤ 5) (hb : b ≤ vs) (hok : sw_ok1 W vs l b) (hmin : ∀ T, sw_ok1 W vs l T → ¬ sw_kl T b) : ∀ n k f, k + n = sw_pc b → ∃ f', ∀ (d : Nat) Q, Q (some (.int (nI b))) (sd_wA σ 293 f') → ∀ l5, sd_Go (sd_E1 L xs fm) (d + 4) y_M_strike 36 [.ref 271, .int (nI p), .int (nI l), .int (nI vs), .int (nI k), l5] [] (sd_wA σ 293 f) Q := by
  have hpb := sw_pc_le b
  intro n
  induction n with
  | zero =>
    intro k f hk
    have ek : k = sw_pc b := by omega
    subst ek
    obtain ⟨f', g⟩ := l_M_strike2 (L := L) (xs := xs) (fm := fm) (p := p) h hl hvs hbk hb hok b 0 f (by omega) (fun T _ h2 h3 q => hmin T q (Or.inr ⟨h3, h2⟩))
    refine ⟨f', fun d Q hq l5 => ?_⟩
    have g2 := g d Q hq
    rw [z_M_strike_36]
    simp (disch := first | exact sd_cr | exact sd_ci | exact sd_cu | exact sd_cl9 | assumption | omega | exact t_285 | exact t_283 | exact t_278 | exact t_281 | exact t_276 | exact t_274 | exact t_275 | exact t_277 | exact t_279 | exact t_280 | exact t_282 | exact t_284 | exact t_286 | exact t_287 | exact t_288 | exact t_289 | exact t_290 | exact t_291 | exact t_292 | exact t_293 | exact t_294 | exact t_295 | exact t_296 | exact t_297 | exact t_298 | exact t_299 | exact t_300) only [z_M_strike_38, z_M_strike_40, z_M_strike_43, z_M_strike_44, false_and, and_false, if_true, if_false, Decidable.not_not, sd_ci, sd_cr, sd_cl9, sd_cu, sd_cat0, sd_cat1, sd_rfS, sd_n01, sd_n11, sd_n1, sd_n10, sd_n00, sd_b01, sd_b0, true_and, and_true, and_self, not_true_eq_false, not_false_eq_true, false_implies, true_implies, implies_true, or_true, true_or, or_false, false_or, Option.toList_some, Option.toList_none, List.cons_append, List.nil_append, Nat.reduceAdd, Nat.reduceLeDiff, nz_sub, nz_lt0, nz_ge0, nz_le0, nz_gt0, nz_eq0, nz_eq1, nz_lt, nz_le, nz_eq, nz_cl, nz_in, nz_add, nz_mul, nz_m1, nz_m1', Nat.reduceMul, Nat.reduceSub, Nat.reduceLT, Nat.reduceEqDiff, not_false_eq_true, false_implies, true_implies, true_and, and_true, h_271, t_272, n_272, t_273, n_273, t_274, n_274, t_275, n_275, t_276, n_276, t_277, n_277, t_278, n_278, t_279, n_279, t_280, n_280, t_281, n_281, t_282, n_282, t_283, n_283, t_284, n_284, t_285, n_285, t_286, n_286, t_287, n_287, t_288, n_288, t_289, n_289, t_290, n_290, t_291, n_291, t_292, n_292, t_293, n_293, t_294, n_294, t_295, n_295, t_296, n_296, t_297, n_297, t_298, n_298, t_299, n_299, t_300, n_300, t_301, n_301, r_271_1, r_271_2, r_271_3, r_271_4, r_271_15, r_271_16, r_271_18, r_271_19, r_271_20, r_271_21, r_271_22, r_271_23, r_271_24, r_271_25, r_271_26, r_271_34, r_271_35, r_271_38, r_271_39, r_271_40, r_271_42, r_271_45, r_271_46, r_271_47, r_271_48, r_271_49, r_271_50, r_271_53, r_271_54, r_271_55, r_271_57]
    ((repeat' first | (refine And.intro ?_ ?_) | (intro _)) <;> first | omega | exact g2)
  | succ n ih =>
    intro k f hk
    obtain ⟨f1, g1⟩ := l_M_strike1 (L := L) (xs := xs) (fm := fm) (p := p) (k := k) h hl hvs hbk (by omega) (vs + 1) 0 f (by omega) (fun T _ h2 h3 q => hmin T q (Or.inl (by omega)))
    obtain ⟨f', g⟩ := ih (k + 1) f1 (by omega)
    refine ⟨f', fun d Q hq l5 => ?_⟩
    have g2 := g1 d Q (g d Q hq)
    rw [z_M_strike_36]
    simp (disch := first | exact sd_cr | exact sd_ci | exact sd_cu | exact sd_cl9 | assumption | omega | exact t_285 | exact t_283 | exact t_278 | exact t_281 | exact t_276 | exact t_274 | exact t_275 | exact t_277 | exact t_279 | exact t_280 | exact t_282 | exact t_284 | exact t_286 | exact t_287 | exact t_288 | exact t_289 | exact t_290 | exact t_291 | exact t_292 | exact t_293 | exact t_294 | exact t_295 | exact t_296 | exact t_297 | exact t_298 | exact t_299 | exact t_300) only [z_M_strike_38, z_M_strike_40, z_M_strike_43, z_M_strike_44, false_and, and_false, if_true, if_false, Decidable.not_not, sd_ci, sd_cr, sd_cl9, sd_cu, sd_cat0, sd_cat1, sd_rfS, sd_n01, sd_n11, sd_n1, sd_n10, sd_n00, sd_b01, sd_b0, true_and, and_true, and_self, not_true_eq_false, not_false_eq_true, false_implies, true_implies, implies_true, or_true, true_or, or_false, false_or, Option.toList_some, Option.toList_none, List.cons_append, List.nil_append, Nat.reduceAdd, Nat.reduceLeDiff, nz_sub, nz_lt0, nz_ge0, nz_le0, nz_gt0, nz_eq0, nz_eq1, nz_lt, nz_le, nz_eq, nz_cl, nz_in, nz_add, nz_mul, nz_m1, nz_m1', Nat.reduceMul, Nat.reduceSub, Nat.reduceLT, Nat.reduceEqDiff, not_false_eq_true, false_implies, true_implies, true_and, and_true, h_271, t_272, n_272, t_273, n_273, t_274, n_274, t_275, n_275, t_276, n_276, t_277, n_277, t_278, n_278, t_279, n_279, t_280, n_280, t_281, n_281, t_282, n_282, t_283, n_283, t_284, n_284, t_285, n_285, t_286, n_286, t_287, n_287, t_288, n_288, t_289, n_289, t_290, n_290, t_291, n_291, t_292, n_292, t_293, n_293, t_294, n_294, t_295, n_295, t_296, n_296, t_297, n_297, t_298, n_298, t_299, n_299, t_300, n_300, t_301, n_301, r_271_1, r_271_2, r_271_3, r_271_4, r_271_15, r_271_16, r_271_18, r_271_19, r_271_20, r_271_21, r_271_22, r_271_23, r_271_24, r_271_25, r_271_26, r_271_34, r_271_35, r_271_38, r_271_39, r_271_40, r_271_42, r_271_45, r_271_46, r_271_47, r_271_48, r_271_49, r_271_50, r_271_53, r_271_54, r_271_55, r_271_57]
    ((repeat' first | (refine And.intro ?_ ?_) | (intro _)) <;> first | omega | exact g2)
/-- the search's least is strike's -/
theorem sw_strike {p l b x : Nat} (hW0 : W 0 0 0 ≤ 12) (hx : x < 8 ^ l) (hb : b = sw_st (sw_sb (fun k => W 1 ((sw_bl W p (W 0 0 0)).getD k 0)) (fun k => 2 ^ (sw_bl W p (W 0 0 0)).getD k 0) (sw_bl W p (W 0 0 0)).length l 1) l x) (hmin : ∀ y, y < 8 ^ l → ¬ sw_kl (sw_st (sw_sb (fun k => W 1 ((sw_bl W p (W 0 0 0)).getD k 0)) (fun k => 2 ^ (sw_bl W p (W 0 0 0)).getD k 0) (sw_bl W p (W 0 0 0)).length l 1) l y) b) : b ≤ sw_vb W p ∧ sw_ok1 W (sw_vb W p) l b ∧ ∀ T, sw_ok1 W (sw_vb W p) l T → ¬ sw_kl T b := by
  have hvs := sw_vb_lt W p hW0
  have htb : ∀ y t, (sw_st (sw_sb (fun k => W 1 ((sw_bl W p (W 0 0 0)).getD k 0)) (fun k => 2 ^ (sw_bl W p (W 0 0 0)).getD k 0) (sw_bl W p (W 0 0 0)).length l 1) l y).testBit t = true ↔ ((t < W 0 0 0 ∧ (sw_vb W p).testBit t = true) ∧ sw_kv W l y t = false) := fun y t => by
    rw [sw_st_kv, sw_bl_vb]
  generalize hS : (fun y => sw_st (sw_sb (fun k => W 1 ((sw_bl W p (W 0 0 0)).getD k 0)) (fun k => 2 ^ (sw_bl W p (W 0 0 0)).getD k 0) (sw_bl W p (W 0 0 0)).length l 1) l y) = S
  have hSy : ∀ y, sw_st (sw_sb (fun k => W 1 ((sw_bl W p (W 0 0 0)).getD k 0)) (fun k => 2 ^ (sw_bl W p (W 0 0 0)).getD k 0) (sw_bl W p (W 0 0 0)).length l 1) l y = S y := fun y => congrFun hS y
  simp only [hSy] at htb hb hmin
  have hsub : ∀ y, S y ||| sw_vb W p = sw_vb W p := fun y => Nat.eq_of_testBit_eq (fun i => by
    rw [Nat.testBit_or]
    cases hi : (S y).testBit i
    · rw [Bool.false_or]
    · rw [((htb y i).mp hi).1.2]; rfl)
  have hle : ∀ a c : Nat, a ||| c = c → a ≤ c := fun a c h => by rw [← h]; exact Nat.left_le_or
  have hany : ∀ T, T < 4096 → (sw_hr W (sw_vb W p &&& (T ^^^ 4095)) l = true ↔ ∃ y, y < 8 ^ l ∧ S y ||| T = T) := fun T hT => by
    unfold sw_hr
    rw [sw_any_iff]
    have one : ∀ y, sw_ka W (sw_vb W p &&& (T ^^^ 4095)) l y = true ↔ S y ||| T = T := fun y => by
      unfold sw_ka
      rw [Bool.not_eq_true', ← Bool.not_eq_true, sw_any_iff]
      constructor
      · intro hn
        refine Nat.eq_of_testBit_eq (fun i => ?_)
        rw [Nat.testBit_or]
        cases hi : (S y).testBit i
        · rw [Bool.false_or]
        · obtain ⟨⟨i1, i2⟩, i3⟩ := (htb y i).mp hi
          cases hTi : T.testBit i
          · exact absurd ⟨i, Nat.zero_le _, by omega, by rw [sw_dif_tb hvs, i2, hTi, i3]; rfl⟩ hn
          · rfl
      · rintro he ⟨v, _, hv, hc⟩
        rw [sw_dif_tb hvs, Bool.and_eq_true, Bool.and_eq_true, Bool.not_eq_true', Bool.not_eq_true'] at hc
        have h1 := (htb y v).mpr ⟨⟨by omega, hc.1.1⟩, hc.2⟩
        have h2 := congrArg (fun z => z.testBit v) he
        simp only [Nat.testBit_or, h1, Bool.true_or] at h2
        rw [← h2] at hc
        cases hc.1.2
    exact ⟨fun ⟨y, _, h2, h3⟩ => ⟨y, by omega, (one y).mp h3⟩, fun ⟨y, h2, h3⟩ => ⟨y, Nat.zero_le _, by omega, (one y).mpr h3⟩⟩
  have hbv : b ≤ sw_vb W p := by rw [hb]; exact hle _ _ (hsub x)
  refine ⟨hbv, ⟨by rw [hb]; exact hsub x, (hany b (by omega)).mpr ⟨x, hx, by rw [hb]; exact Nat.or_self _⟩⟩, fun T hT => ?_⟩
  have hTv := hle _ _ hT.1
  obtain ⟨y, hy, hyT⟩ := (hany T (by omega)).mp hT.2
  have h1 := hmin y hy
  have h2 := sw_pc_sub hyT
  have h3 := hle _ _ hyT
  unfold sw_kl at h1 ⊢
  omega
end SDAA
