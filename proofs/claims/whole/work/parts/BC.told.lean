/-! a row told: the reference reads it -/
/-- the store behind starts -/
def tp_st (σ : sd_Mem) (t : Nat) (v w : Int32) : sd_Mem := sd_wI (sd_wI (sd_wI (sd_wI (sd_wR σ 271 5 (some t)) 271 8 v) 271 9 w) 271 10 (nI 0)) 271 11 (-1)
section SDBC
variable {L : Nat} {xs : Nat → Int32} {fm : Option Nat} {σ : sd_Mem} {b : Nat → Nat} {n a t o d : Nat}
theorem tp_e5 : (sd_E1 L xs fm).1 271 5 = none := rfl
theorem c_M_starts {Q : Option Value → sd_Mem → Prop} {v w : Int32} : sd_Call (sd_E1 L xs fm) (d + 1) y_M_starts [.ref 271, .ref t, .int v, .int w] σ Q ↔ Q none (tp_st σ t v w) := by
  refine sd_Call.iff (fun Q hq => ?_) Q
  rw [sd_Call.start (ls := [.ref 271, .ref t, .int v, .int w]) m_M_starts (by decide) (Nat.le_of_ble_eq_true rfl) rfl]
  simp (disch := first | exact sd_cr | exact sd_ci | exact sd_cu | exact sd_cl9 | assumption | omega | exact t_285 | exact t_283 | exact t_278 | exact t_281 | exact t_276 | exact t_274 | exact t_275 | exact t_277 | exact t_279 | exact t_280 | exact t_282 | exact t_284 | exact t_286 | exact t_287 | exact t_288 | exact t_289 | exact t_290 | exact t_291 | exact t_292 | exact t_293 | exact t_294 | exact t_295 | exact t_296 | exact t_297 | exact t_298 | exact t_299 | exact t_300) only [z_M_starts_0, z_M_starts_1, z_M_starts_2, z_M_starts_5, z_M_starts_6, z_M_starts_7, z_M_starts_10, z_M_starts_11, z_M_starts_12, z_M_starts_15, z_M_starts_16, z_M_starts_17, z_M_starts_20, z_M_starts_21, z_M_starts_22, z_M_starts_25, false_and, and_false, if_true, if_false, Decidable.not_not, sd_ci, sd_cr, sd_cl9, sd_cu, sd_cat0, sd_cat1, sd_rfS, sd_n01, sd_n11, sd_n1, sd_n10, sd_n00, sd_b01, sd_b0, true_and, and_true, and_self, not_true_eq_false, not_false_eq_true, false_implies, true_implies, implies_true, or_true, true_or, or_false, false_or, Option.toList_some, Option.toList_none, List.cons_append, List.nil_append, Nat.reduceAdd, Nat.reduceLeDiff, h_271, t_272, n_272, t_273, n_273, t_274, n_274, t_275, n_275, t_276, n_276, t_277, n_277, t_278, n_278, t_279, n_279, t_280, n_280, t_281, n_281, t_282, n_282, t_283, n_283, t_284, n_284, t_285, n_285, t_286, n_286, t_287, n_287, t_288, n_288, t_289, n_289, t_290, n_290, t_291, n_291, t_292, n_292, t_293, n_293, t_294, n_294, t_295, n_295, t_296, n_296, t_297, n_297, t_298, n_298, t_299, n_299, t_300, n_300, t_301, n_301, r_271_1, r_271_2, r_271_3, r_271_4, r_271_15, r_271_16, r_271_18, r_271_19, r_271_20, r_271_21, r_271_22, r_271_23, r_271_24, r_271_25, r_271_26, r_271_34, r_271_35, r_271_38, r_271_39, r_271_40, r_271_42, r_271_45, r_271_46, r_271_47, r_271_48, r_271_49, r_271_50, r_271_53, r_271_54, r_271_55, r_271_57, tp_e5]
  exact hq
theorem tp_st_c {v w : Int32} {e : Nat} (h : e ≠ 271) : (tp_st σ t v w).1 e = σ.1 e := by
  unfold tp_st
  rw [wI_c h, wI_c h, wI_c h, wI_c h]
  rfl
theorem tp_st_o {v w : Int32} {j : Nat} (h : j < 8 ∨ 11 < j) : (tp_st σ t v w).1 271 j = σ.1 271 j := by
  unfold tp_st
  rw [wI_o (by omega), wI_o (by omega), wI_o (by omega), wI_o (by omega)]
  rfl
theorem tp_st_2 {v w : Int32} : (tp_st σ t v w).2.1 = σ.2.1 ∧ ∀ k i, k ≠ 271 → (tp_st σ t v w).2.2 k i = σ.2.2 k i := ⟨rfl, fun k i h => if_neg (fun q => h q.1)⟩
theorem tp_st_M (hby : ∀ i, i < n → σ.1 t (o + i) = sw_by (b i)) (ht : sd_tg t = 1) (hl : o + n ≤ sd_ln t) (hl2 : sd_ln t ≤ 960) (h9 : t ≠ 271) (hb : ∀ i, i < n → b i < 256) : tp_M (tp_st σ t (nI o) (nI n)) t o b n 0 ∧ (tp_st σ t (nI o) (nI n)).1 271 11 = -1 := by
  refine ⟨⟨?_, ?_, ?_, ?_, fun i hi => by rw [tp_st_c h9]; exact hby i hi, ht, hl, hl2, h9, hb, Nat.zero_le _⟩, wI_k⟩
  · show (if 271 = 271 ∧ 5 = 5 then some t else σ.2.2 271 5) = some t
    exact if_pos (And.intro rfl rfl)
  · unfold tp_st
    rw [wI_o (by decide), wI_o (by decide), wI_o (by decide), wI_k]
  · unfold tp_st
    rw [wI_o (by decide), wI_o (by decide), wI_k]
  · unfold tp_st
    rw [wI_o (by decide), wI_k]
theorem c_M_fault2 (hn : σ.1 271 6 = nI n) (hby : ∀ i, i < n → σ.1 272 i = sw_by (b i)) (h240 : n ≤ 240) (hb : ∀ i, i < n → b i < 256) : ∃ σ', (∀ e, e ≠ 271 → e ≠ 283 → σ'.1 e = σ.1 e) ∧ (∀ j, 0 < j → (j < 8 ∨ 11 < j) → σ'.1 271 j = σ.1 271 j) ∧ (∀ j, j < 78 → σ'.1 283 j = σ.1 283 j) ∧ σ'.2.1 = σ.2.1 ∧ (∀ k i, k ≠ 271 → σ'.2.2 k i = σ.2.2 k i) ∧ (rw_f b n = none → σ'.1 283 78 = nI (rw_e b n 12 0).2.2.length ∧ ∀ j, j < (rw_e b n 12 0).2.2.length → σ'.1 283 (79 + j) = nI ((rw_e b n 12 0).2.2.getD j 0)) ∧ ∀ (d : Nat) (Q : Option Value → sd_Mem → Prop), sd_Call (sd_E1 L xs fm) (d + 3) y_M_fault [.ref 271, .int (nI 2)] σ Q ↔ Q (some (.int (rw_fv (rw_f b n)))) σ' := by
  have hst := tp_st_M (σ := sd_wI σ 271 0 (nI 0)) (t := 272) (o := 0) (b := b) (n := n) (fun i hi => by rw [wI_c (by decide), Nat.zero_add]; exact hby i hi) t_272 (by rw [n_272]; omega) (by rw [n_272]; decide) (by decide) hb
  obtain ⟨σ1, s1, s2, s3, s4, s5, s6, s7⟩ := c_M_readRow (L := L) (xs := xs) (fm := fm) (k := 283) (fr := 78) t_283 (by rw [n_283]; decide) (by decide) (by decide) (by decide) hst.1 hst.2
  have hpi := rw_e_i (b := b) (n := n) 12 0 (Nat.zero_le _)
  have f1 : ∀ e, e ≠ 271 → e ≠ 283 → σ1.1 e = σ.1 e := fun e h1 h2 => funext fun j => by rw [s3 e j (fun q => h1 q.1) (fun q => h2 q.1), tp_st_c h1, wI_c h1]
  have f2 : ∀ j, 0 < j → (j < 8 ∨ 11 < j) → σ1.1 271 j = σ.1 271 j := fun j h1 h2 => by rw [s3 271 j (fun q => by omega) (fun q => by omega), tp_st_o h2, wI_o (by omega)]
  have f3 : ∀ j, j < 78 → σ1.1 283 j = σ.1 283 j := fun j h1 => by rw [s3 283 j (fun q => by omega) (fun q => by omega), tp_st_c (by decide), wI_c (by decide)]
  have f4 : σ1.2.1 = σ.2.1 := by rw [s4]; rfl
  have f5 : ∀ k i, k ≠ 271 → σ1.2.2 k i = σ.2.2 k i := fun k i h => by rw [s4]; exact tp_st_2.2 k i h
  have hn0 : (sd_wI σ 271 0 (nI 0)).1 271 6 = nI n := by rw [wI_o (by decide)]; exact hn
  have li : (lN 0 ≤ lN 2) ↔ True := by decide
  have li2 : (lN 2 ≤ lN 2) ↔ True := by decide
  have s10 := s1.2.2.2.1
  by_cases hbad : rw_bad 0 (rw_e b n 12 0)
  · have ef : rw_f b n = some (rw_e b n 12 0).1 := if_neg (fun q => q.1 hbad)
    rw [if_pos hbad] at s2
    have hle := (rw_e_le (b := b) (n := n) 12 0 (Nat.zero_le _)).1
    refine ⟨σ1, f1, f2, f3, f4, f5, fun q => (by rw [ef] at q; cases q), fun d Q => sd_Call.iff (fun Q hq => ?_) Q⟩
    rw [ef] at hq
    have hq : Q (some (.int (nI (rw_e b n 12 0).1))) σ1 := hq
    rw [sd_Call.start (ls := [.ref 271, .int (nI 2)]) m_M_fault (by decide) (Nat.le_of_ble_eq_true rfl) rfl]
    simp (disch := first | exact sd_cr | exact sd_ci | exact sd_cu | exact sd_cl9 | assumption | omega | exact t_285 | exact t_283 | exact t_278 | exact t_281 | exact t_276 | exact t_274 | exact t_275 | exact t_277 | exact t_279 | exact t_280 | exact t_282 | exact t_284 | exact t_286 | exact t_287 | exact t_288 | exact t_289 | exact t_290 | exact t_291 | exact t_292 | exact t_293 | exact t_294 | exact t_295 | exact t_296 | exact t_297 | exact t_298 | exact t_299 | exact t_300) only [z_M_fault_0, z_M_fault_1, z_M_fault_2, z_M_fault_5, z_M_fault_6, z_M_fault_7, z_M_fault_8, z_M_fault_11, z_M_fault_14, z_M_fault_17, z_M_fault_19, z_M_fault_20, z_M_fault_21, z_M_fault_24, z_M_fault_25, z_M_fault_28, z_M_fault_29, z_M_fault_30, z_M_fault_33, z_M_fault_34, z_M_fault_35, z_M_fault_38, z_M_fault_39, z_M_fault_40, z_M_fault_43, z_M_fault_46, z_M_fault_47, z_M_fault_48, z_M_fault_51, z_M_fault_52, z_M_fault_53, z_M_fault_56, z_M_fault_57, z_M_fault_58, z_M_fault_61, z_M_fault_64, z_M_fault_65, z_M_fault_66, z_M_fault_69, z_M_fault_71, z_M_fault_74, z_M_fault_75, z_M_fault_78, z_M_fault_79, z_M_fault_82, z_M_fault_83, z_M_fault_86, z_M_fault_87, z_M_fault_90, z_M_fault_91, z_M_fault_94, z_M_fault_95, z_M_fault_96, z_M_fault_99, false_and, and_false, if_true, if_false, Decidable.not_not, sd_ci, sd_cr, sd_cl9, sd_cu, sd_cat0, sd_cat1, sd_rfS, sd_n01, sd_n11, sd_n1, sd_n10, sd_n00, sd_b01, sd_b0, true_and, and_true, and_self, not_true_eq_false, not_false_eq_true, false_implies, true_implies, implies_true, or_true, true_or, or_false, false_or, Option.toList_some, Option.toList_none, List.cons_append, List.nil_append, Nat.reduceAdd, Nat.reduceLeDiff, nz_sub, nz_lt0, nz_ge0, nz_le0, nz_gt0, nz_eq0, nz_eq1, nz_lt, nz_le, nz_eq, nz_cl, nz_in, nz_add, nz_mul, nz_m1, nz_m1', Nat.reduceMul, Nat.reduceSub, Nat.reduceLT, Nat.reduceEqDiff, not_false_eq_true, false_implies, true_implies, true_and, and_true, h_271, t_272, n_272, t_273, n_273, t_274, n_274, t_275, n_275, t_276, n_276, t_277, n_277, t_278, n_278, t_279, n_279, t_280, n_280, t_281, n_281, t_282, n_282, t_283, n_283, t_284, n_284, t_285, n_285, t_286, n_286, t_287, n_287, t_288, n_288, t_289, n_289, t_290, n_290, t_291, n_291, t_292, n_292, t_293, n_293, t_294, n_294, t_295, n_295, t_296, n_296, t_297, n_297, t_298, n_298, t_299, n_299, t_300, n_300, t_301, n_301, r_271_1, r_271_2, r_271_3, r_271_4, r_271_15, r_271_16, r_271_18, r_271_19, r_271_20, r_271_21, r_271_22, r_271_23, r_271_24, r_271_25, r_271_26, r_271_34, r_271_35, r_271_38, r_271_39, r_271_40, r_271_42, r_271_45, r_271_46, r_271_47, r_271_48, r_271_49, r_271_50, r_271_53, r_271_54, r_271_55, r_271_57, c_M_isIn, lz_i, li, li2, sd_bT trivial, c_M_starts, hn0, s7, s2]
    exact hq
  · rw [if_neg hbad] at s2
    have cl := fun d Q => c_M_look (L := L) (xs := xs) (fm := fm) (d := d) (Q := Q) s1
    rw [hpi, wI_same s10] at cl
    by_cases hp : (rw_e b n 12 0).1 < n
    · have ef : rw_f b n = some (rw_e b n 12 0).1 := if_neg (fun q => q.2 hp)
      have ea : tp_at b n (rw_e b n 12 0).1 = nI (b (rw_e b n 12 0).1) := by unfold tp_at; rw [hpi, if_pos hp]
      have hbp := hb _ hp
      have cf := fun d Q => c_M_fails (L := L) (xs := xs) (fm := fm) (d := d) (Q := Q) s2
      rw [s10] at cf
      refine ⟨sd_wI σ1 271 11 (nI (rw_e b n 12 0).1), fun e h1 h2 => by rw [wI_c h1]; exact f1 e h1 h2, fun j h1 h2 => by rw [wI_o (by omega)]; exact f2 j h1 h2, fun j h1 => by rw [wI_c (by decide)]; exact f3 j h1, f4, f5, fun q => (by rw [ef] at q; cases q), fun d Q => sd_Call.iff (fun Q hq => ?_) Q⟩
      rw [ef] at hq
      have hq : Q (some (.int (nI (rw_e b n 12 0).1))) (sd_wI σ1 271 11 (nI (rw_e b n 12 0).1)) := hq
      rw [sd_Call.start (ls := [.ref 271, .int (nI 2)]) m_M_fault (by decide) (Nat.le_of_ble_eq_true rfl) rfl]
      have cl := cl (d + 1)
      have cf := cf (d + 1)
      rw [ea] at cl
      simp (disch := first | exact sd_cr | exact sd_ci | exact sd_cu | exact sd_cl9 | assumption | omega | exact t_285 | exact t_283 | exact t_278 | exact t_281 | exact t_276 | exact t_274 | exact t_275 | exact t_277 | exact t_279 | exact t_280 | exact t_282 | exact t_284 | exact t_286 | exact t_287 | exact t_288 | exact t_289 | exact t_290 | exact t_291 | exact t_292 | exact t_293 | exact t_294 | exact t_295 | exact t_296 | exact t_297 | exact t_298 | exact t_299 | exact t_300) only [z_M_fault_0, z_M_fault_1, z_M_fault_2, z_M_fault_5, z_M_fault_6, z_M_fault_7, z_M_fault_8, z_M_fault_11, z_M_fault_14, z_M_fault_17, z_M_fault_19, z_M_fault_20, z_M_fault_21, z_M_fault_24, z_M_fault_25, z_M_fault_28, z_M_fault_29, z_M_fault_30, z_M_fault_33, z_M_fault_34, z_M_fault_35, z_M_fault_38, z_M_fault_39, z_M_fault_40, z_M_fault_43, z_M_fault_46, z_M_fault_47, z_M_fault_48, z_M_fault_51, z_M_fault_52, z_M_fault_53, z_M_fault_56, z_M_fault_57, z_M_fault_58, z_M_fault_61, z_M_fault_64, z_M_fault_65, z_M_fault_66, z_M_fault_69, z_M_fault_71, z_M_fault_74, z_M_fault_75, z_M_fault_78, z_M_fault_79, z_M_fault_82, z_M_fault_83, z_M_fault_86, z_M_fault_87, z_M_fault_90, z_M_fault_91, z_M_fault_94, z_M_fault_95, z_M_fault_96, z_M_fault_99, false_and, and_false, if_true, if_false, Decidable.not_not, sd_ci, sd_cr, sd_cl9, sd_cu, sd_cat0, sd_cat1, sd_rfS, sd_n01, sd_n11, sd_n1, sd_n10, sd_n00, sd_b01, sd_b0, true_and, and_true, and_self, not_true_eq_false, not_false_eq_true, false_implies, true_implies, implies_true, or_true, true_or, or_false, false_or, Option.toList_some, Option.toList_none, List.cons_append, List.nil_append, Nat.reduceAdd, Nat.reduceLeDiff, nz_sub, nz_lt0, nz_ge0, nz_le0, nz_gt0, nz_eq0, nz_eq1, nz_lt, nz_le, nz_eq, nz_cl, nz_in, nz_add, nz_mul, nz_m1, nz_m1', Nat.reduceMul, Nat.reduceSub, Nat.reduceLT, Nat.reduceEqDiff, not_false_eq_true, false_implies, true_implies, true_and, and_true, h_271, t_272, n_272, t_273, n_273, t_274, n_274, t_275, n_275, t_276, n_276, t_277, n_277, t_278, n_278, t_279, n_279, t_280, n_280, t_281, n_281, t_282, n_282, t_283, n_283, t_284, n_284, t_285, n_285, t_286, n_286, t_287, n_287, t_288, n_288, t_289, n_289, t_290, n_290, t_291, n_291, t_292, n_292, t_293, n_293, t_294, n_294, t_295, n_295, t_296, n_296, t_297, n_297, t_298, n_298, t_299, n_299, t_300, n_300, t_301, n_301, r_271_1, r_271_2, r_271_3, r_271_4, r_271_15, r_271_16, r_271_18, r_271_19, r_271_20, r_271_21, r_271_22, r_271_23, r_271_24, r_271_25, r_271_26, r_271_34, r_271_35, r_271_38, r_271_39, r_271_40, r_271_42, r_271_45, r_271_46, r_271_47, r_271_48, r_271_49, r_271_50, r_271_53, r_271_54, r_271_55, r_271_57, c_M_isIn, lz_i, li, li2, sd_bT trivial, c_M_starts, hn0, s7, s2, cl, cf, wI_k]
      exact hq
    · have ef : rw_f b n = none := if_pos ⟨hbad, hp⟩
      have ea : tp_at b n (rw_e b n 12 0).1 = -1 := by unfold tp_at; rw [hpi, if_neg hp]
      refine ⟨σ1, f1, f2, f3, f4, f5, fun _ => ⟨s6 hbad, fun j hj => s5 j hj⟩, fun d Q => sd_Call.iff (fun Q hq => ?_) Q⟩
      rw [ef] at hq
      have hq : Q (some (.int (-1))) σ1 := hq
      rw [sd_Call.start (ls := [.ref 271, .int (nI 2)]) m_M_fault (by decide) (Nat.le_of_ble_eq_true rfl) rfl]
      have cl := cl (d + 1)
      rw [ea] at cl
      simp (disch := first | exact sd_cr | exact sd_ci | exact sd_cu | exact sd_cl9 | assumption | omega | exact t_285 | exact t_283 | exact t_278 | exact t_281 | exact t_276 | exact t_274 | exact t_275 | exact t_277 | exact t_279 | exact t_280 | exact t_282 | exact t_284 | exact t_286 | exact t_287 | exact t_288 | exact t_289 | exact t_290 | exact t_291 | exact t_292 | exact t_293 | exact t_294 | exact t_295 | exact t_296 | exact t_297 | exact t_298 | exact t_299 | exact t_300) only [z_M_fault_0, z_M_fault_1, z_M_fault_2, z_M_fault_5, z_M_fault_6, z_M_fault_7, z_M_fault_8, z_M_fault_11, z_M_fault_14, z_M_fault_17, z_M_fault_19, z_M_fault_20, z_M_fault_21, z_M_fault_24, z_M_fault_25, z_M_fault_28, z_M_fault_29, z_M_fault_30, z_M_fault_33, z_M_fault_34, z_M_fault_35, z_M_fault_38, z_M_fault_39, z_M_fault_40, z_M_fault_43, z_M_fault_46, z_M_fault_47, z_M_fault_48, z_M_fault_51, z_M_fault_52, z_M_fault_53, z_M_fault_56, z_M_fault_57, z_M_fault_58, z_M_fault_61, z_M_fault_64, z_M_fault_65, z_M_fault_66, z_M_fault_69, z_M_fault_71, z_M_fault_74, z_M_fault_75, z_M_fault_78, z_M_fault_79, z_M_fault_82, z_M_fault_83, z_M_fault_86, z_M_fault_87, z_M_fault_90, z_M_fault_91, z_M_fault_94, z_M_fault_95, z_M_fault_96, z_M_fault_99, false_and, and_false, if_true, if_false, Decidable.not_not, sd_ci, sd_cr, sd_cl9, sd_cu, sd_cat0, sd_cat1, sd_rfS, sd_n01, sd_n11, sd_n1, sd_n10, sd_n00, sd_b01, sd_b0, true_and, and_true, and_self, not_true_eq_false, not_false_eq_true, false_implies, true_implies, implies_true, or_true, true_or, or_false, false_or, Option.toList_some, Option.toList_none, List.cons_append, List.nil_append, Nat.reduceAdd, Nat.reduceLeDiff, nz_sub, nz_lt0, nz_ge0, nz_le0, nz_gt0, nz_eq0, nz_eq1, nz_lt, nz_le, nz_eq, nz_cl, nz_in, nz_add, nz_mul, nz_m1, nz_m1', Nat.reduceMul, Nat.reduceSub, Nat.reduceLT, Nat.reduceEqDiff, not_false_eq_true, false_implies, true_implies, true_and, and_true, h_271, t_272, n_272, t_273, n_273, t_274, n_274, t_275, n_275, t_276, n_276, t_277, n_277, t_278, n_278, t_279, n_279, t_280, n_280, t_281, n_281, t_282, n_282, t_283, n_283, t_284, n_284, t_285, n_285, t_286, n_286, t_287, n_287, t_288, n_288, t_289, n_289, t_290, n_290, t_291, n_291, t_292, n_292, t_293, n_293, t_294, n_294, t_295, n_295, t_296, n_296, t_297, n_297, t_298, n_298, t_299, n_299, t_300, n_300, t_301, n_301, r_271_1, r_271_2, r_271_3, r_271_4, r_271_15, r_271_16, r_271_18, r_271_19, r_271_20, r_271_21, r_271_22, r_271_23, r_271_24, r_271_25, r_271_26, r_271_34, r_271_35, r_271_38, r_271_39, r_271_40, r_271_42, r_271_45, r_271_46, r_271_47, r_271_48, r_271_49, r_271_50, r_271_53, r_271_54, r_271_55, r_271_57, c_M_isIn, lz_i, li, li2, sd_bT trivial, c_M_starts, hn0, s7, s2, cl]
      exact hq
end SDBC
