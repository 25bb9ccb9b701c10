/-! a row from the tape: the reference -/
/-- a row that fails -/
abbrev rw_bad (i : Nat) (r : Nat × Bool × List Nat) : Prop := r.2.1 = true ∨ i + r.2.2.length = 0
section SDAZ
variable {L : Nat} {xs : Nat → Int32} {fm : Option Nat} {σ : sd_Mem} {b : Nat → Nat} {n a t o d : Nat}
theorem c_M_fails {Q : Option Value → sd_Mem → Prop} (h : σ.1 271 11 = -1) : sd_Call (sd_E1 L xs fm) (d + 1) y_M_fails [.ref 271] σ Q ↔ Q (some (.int (nI 0))) (sd_wI σ 271 11 (σ.1 271 10)) := by
  refine sd_Call.iff (fun Q hq => ?_) Q
  rw [sd_Call.start (ls := [.ref 271]) m_M_fails (by decide) (Nat.le_of_ble_eq_true rfl) rfl]
  simp (disch := first | exact sd_cr | exact sd_ci | exact sd_cu | exact sd_cl9 | assumption | omega | exact t_285 | exact t_283 | exact t_278 | exact t_281 | exact t_276 | exact t_274 | exact t_275 | exact t_277 | exact t_279 | exact t_280 | exact t_282 | exact t_284 | exact t_286 | exact t_287 | exact t_288 | exact t_289 | exact t_290 | exact t_291 | exact t_292 | exact t_293 | exact t_294 | exact t_295 | exact t_296 | exact t_297 | exact t_298 | exact t_299 | exact t_300) only [z_M_fails_0, z_M_fails_1, z_M_fails_4, z_M_fails_5, z_M_fails_8, z_M_fails_9, z_M_fails_10, z_M_fails_13, z_M_fails_16, z_M_fails_17, false_and, and_false, if_true, if_false, Decidable.not_not, sd_ci, sd_cr, sd_cl9, sd_cu, sd_cat0, sd_cat1, sd_rfS, sd_n01, sd_n11, sd_n1, sd_n10, sd_n00, sd_b01, sd_b0, true_and, and_true, and_self, not_true_eq_false, not_false_eq_true, false_implies, true_implies, implies_true, or_true, true_or, or_false, false_or, Option.toList_some, Option.toList_none, List.cons_append, List.nil_append, Nat.reduceAdd, Nat.reduceLeDiff, nz_sub, nz_lt0, nz_ge0, nz_le0, nz_gt0, nz_eq0, nz_eq1, nz_lt, nz_le, nz_eq, nz_cl, nz_in, nz_add, nz_mul, nz_m1, nz_m1', Nat.reduceMul, Nat.reduceSub, Nat.reduceLT, Nat.reduceEqDiff, not_false_eq_true, false_implies, true_implies, true_and, and_true, h_271, t_272, n_272, t_273, n_273, t_274, n_274, t_275, n_275, t_276, n_276, t_277, n_277, t_278, n_278, t_279, n_279, t_280, n_280, t_281, n_281, t_282, n_282, t_283, n_283, t_284, n_284, t_285, n_285, t_286, n_286, t_287, n_287, t_288, n_288, t_289, n_289, t_290, n_290, t_291, n_291, t_292, n_292, t_293, n_293, t_294, n_294, t_295, n_295, t_296, n_296, t_297, n_297, t_298, n_298, t_299, n_299, t_300, n_300, t_301, n_301, r_271_1, r_271_2, r_271_3, r_271_4, r_271_15, r_271_16, r_271_18, r_271_19, r_271_20, r_271_21, r_271_22, r_271_23, r_271_24, r_271_25, r_271_26, r_271_34, r_271_35, r_271_38, r_271_39, r_271_40, r_271_42, r_271_45, r_271_46, r_271_47, r_271_48, r_271_49, r_271_50, r_271_53, r_271_54, r_271_55, r_271_57, h]
  exact hq
theorem rw_isIn (hb : ∀ i, i < n → b i < 256) : (lN 97 ≤ (tp_at b n a).toInt64 ∧ (tp_at b n a).toInt64 ≤ lN 104) ↔ rw_L b n a := by
  by_cases hp : tp_ps b n a < n
  · have e : tp_at b n a = nI (b (tp_ps b n a)) := if_pos hp
    have h1 := hb _ hp
    rw [e, lz_i (by omega), lz_le (by decide) (by omega), lz_le (by omega) (by decide)]
    exact ⟨fun q => ⟨hp, q⟩, fun q => q.2⟩
  · have e : tp_at b n a = -1 := if_neg hp
    rw [e]
    exact ⟨fun q => absurd q.1 (by decide), fun q => absurd q.1 hp⟩
theorem tp_M.wk (h : tp_M σ t o b n a) {k j : Nat} {v : Int32} (hk : k ≠ 271) (ht : k ≠ t) : tp_M (sd_wI σ k j v) t o b n a := by
  obtain ⟨h1, h2, h3, h4, h5, h6, h7, h8, h9, h10, h11⟩ := h
  exact ⟨h1, by rw [wI_c hk.symm]; exact h2, by rw [wI_c hk.symm]; exact h3, by rw [wI_c hk.symm]; exact h4, fun i hi => by rw [wI_c ht.symm]; exact h5 i hi, h6, h7, h8, h9, h10, h11⟩
theorem tp_M.wf (h : tp_M σ t o b n a) {v : Int32} : tp_M (sd_wI σ 271 11 v) t o b n a := by
  obtain ⟨h1, h2, h3, h4, h5, h6, h7, h8, h9, h10, h11⟩ := h
  exact ⟨h1, by rw [wI_o (by decide)]; exact h2, by rw [wI_o (by decide)]; exact h3, by rw [wI_o (by decide)]; exact h4, fun i hi => by rw [wI_c h9]; exact h5 i hi, h6, h7, h8, h9, h10, h11⟩
theorem rw_loopM {k fr : Nat} (hk : sd_tg k = 0) (hl : fr + 13 ≤ sd_ln k) (hf : fr ≤ 1000) (hk1 : k ≠ 271) (hk2 : k ≠ t) : ∀ f i a (σ : sd_Mem), f + i = 12 → a ≤ n → tp_M σ t o b n (tp_ps b n a) → σ.1 271 11 = -1 → ∃ σ', tp_M σ' t o b n (rw_e b n f a).1 ∧ σ'.1 271 11 = (if rw_bad i (rw_e b n f a) then nI (rw_e b n f a).1 else -1) ∧ (∀ e j, ¬ (e = 271 ∧ (j = 10 ∨ j = 11)) → ¬ (e = k ∧ (j = fr ∨ (fr + 1 + i ≤ j ∧ j < fr + 13))) → σ'.1 e j = σ.1 e j) ∧ σ'.2 = σ.2 ∧ (∀ j, j < (rw_e b n f a).2.2.length → σ'.1 k (fr + 1 + i + j) = nI ((rw_e b n f a).2.2.getD j 0)) ∧ (¬ rw_bad i (rw_e b n f a) → σ'.1 k fr = nI (i + (rw_e b n f a).2.2.length)) ∧ ∀ (d : Nat) (Q : Option Value → sd_Mem → Prop), Q none σ' → sd_Go (sd_E1 L xs fm) (d + 1) y_M_readRow 22 [.ref 271, .ref k, .int (nI fr), .int (nI i), .int (tp_at b n a), .int (sd_b (rw_L b n a))] [] σ Q := by
  intro f
  induction f with
  | zero =>
    intro i a σ hi ha h hfl
    obtain rfl : i = 12 := by omega
    have h10 := h.2.2.2.1
    by_cases hL : rw_L b n a
    · refine ⟨sd_wI σ 271 11 (nI (tp_ps b n a)), h.wf, ?_, fun e j h1 _ => wI_1.trans (if_neg (fun q => h1 ⟨q.1, Or.inr q.2⟩)), rfl, fun j hj => absurd hj (Nat.not_lt_zero _), fun hn => absurd (Or.inl (decide_eq_true hL)) hn, fun d Q hq => ?_⟩
      · rw [if_pos (show rw_bad 12 (rw_e b n 0 a) from Or.inl (decide_eq_true hL)), wI_k]
        rfl
      · have cf := fun Q => c_M_fails (L := L) (xs := xs) (fm := fm) (d := d) (Q := Q) hfl
        rw [h10] at cf
        simp (disch := first | exact sd_cr | exact sd_ci | exact sd_cu | exact sd_cl9 | assumption | omega | exact t_285 | exact t_283 | exact t_278 | exact t_281 | exact t_276 | exact t_274 | exact t_275 | exact t_277 | exact t_279 | exact t_280 | exact t_282 | exact t_284 | exact t_286 | exact t_287 | exact t_288 | exact t_289 | exact t_290 | exact t_291 | exact t_292 | exact t_293 | exact t_294 | exact t_295 | exact t_296 | exact t_297 | exact t_298 | exact t_299 | exact t_300) only [z_M_readRow_22, z_M_readRow_23, z_M_readRow_26, z_M_readRow_28, z_M_readRow_31, z_M_readRow_33, z_M_readRow_36, z_M_readRow_37, z_M_readRow_39, z_M_readRow_42, z_M_readRow_43, z_M_readRow_46, z_M_readRow_47, false_and, and_false, if_true, if_false, Decidable.not_not, sd_ci, sd_cr, sd_cl9, sd_cu, sd_cat0, sd_cat1, sd_rfS, sd_n01, sd_n11, sd_n1, sd_n10, sd_n00, sd_b01, sd_b0, true_and, and_true, and_self, not_true_eq_false, not_false_eq_true, false_implies, true_implies, implies_true, or_true, true_or, or_false, false_or, Option.toList_some, Option.toList_none, List.cons_append, List.nil_append, Nat.reduceAdd, Nat.reduceLeDiff, nz_sub, nz_lt0, nz_ge0, nz_le0, nz_gt0, nz_eq0, nz_eq1, nz_lt, nz_le, nz_eq, nz_cl, nz_in, nz_add, nz_mul, nz_m1, nz_m1', Nat.reduceMul, Nat.reduceSub, Nat.reduceLT, Nat.reduceEqDiff, not_false_eq_true, false_implies, true_implies, true_and, and_true, h_271, t_272, n_272, t_273, n_273, t_274, n_274, t_275, n_275, t_276, n_276, t_277, n_277, t_278, n_278, t_279, n_279, t_280, n_280, t_281, n_281, t_282, n_282, t_283, n_283, t_284, n_284, t_285, n_285, t_286, n_286, t_287, n_287, t_288, n_288, t_289, n_289, t_290, n_290, t_291, n_291, t_292, n_292, t_293, n_293, t_294, n_294, t_295, n_295, t_296, n_296, t_297, n_297, t_298, n_298, t_299, n_299, t_300, n_300, t_301, n_301, r_271_1, r_271_2, r_271_3, r_271_4, r_271_15, r_271_16, r_271_18, r_271_19, r_271_20, r_271_21, r_271_22, r_271_23, r_271_24, r_271_25, r_271_26, r_271_34, r_271_35, r_271_38, r_271_39, r_271_40, r_271_42, r_271_45, r_271_46, r_271_47, r_271_48, r_271_49, r_271_50, r_271_53, r_271_54, r_271_55, r_271_57, cf, sd_bT hL]
        exact hq
    · have nb : ¬ rw_bad 12 (rw_e b n 0 a) := fun q => by
        rcases q with q | q
        · exact hL (of_decide_eq_true q)
        · exact absurd q (by show ¬ 12 + 0 = 0; decide)
      refine ⟨sd_wI σ k fr (nI 12), h.wk hk1 hk2, ?_, fun e j _ h2 => wI_1.trans (if_neg (fun q => h2 ⟨q.1, Or.inl q.2⟩)), rfl, fun j hj => absurd hj (Nat.not_lt_zero _), fun _ => wI_k, fun d Q hq => ?_⟩
      · rw [if_neg nb, wI_c hk1.symm]; exact hfl
      · have c1 : fr < sd_ln k := by omega
        simp (disch := first | exact sd_cr | exact sd_ci | exact sd_cu | exact sd_cl9 | assumption | omega | exact t_285 | exact t_283 | exact t_278 | exact t_281 | exact t_276 | exact t_274 | exact t_275 | exact t_277 | exact t_279 | exact t_280 | exact t_282 | exact t_284 | exact t_286 | exact t_287 | exact t_288 | exact t_289 | exact t_290 | exact t_291 | exact t_292 | exact t_293 | exact t_294 | exact t_295 | exact t_296 | exact t_297 | exact t_298 | exact t_299 | exact t_300) only [z_M_readRow_22, z_M_readRow_23, z_M_readRow_26, z_M_readRow_28, z_M_readRow_96, z_M_readRow_97, z_M_readRow_98, z_M_readRow_99, z_M_readRow_100, false_and, and_false, if_true, if_false, Decidable.not_not, sd_ci, sd_cr, sd_cl9, sd_cu, sd_cat0, sd_cat1, sd_rfS, sd_n01, sd_n11, sd_n1, sd_n10, sd_n00, sd_b01, sd_b0, true_and, and_true, and_self, not_true_eq_false, not_false_eq_true, false_implies, true_implies, implies_true, or_true, true_or, or_false, false_or, Option.toList_some, Option.toList_none, List.cons_append, List.nil_append, Nat.reduceAdd, Nat.reduceLeDiff, nz_sub, nz_lt0, nz_ge0, nz_le0, nz_gt0, nz_eq0, nz_eq1, nz_lt, nz_le, nz_eq, nz_cl, nz_in, nz_add, nz_mul, nz_m1, nz_m1', Nat.reduceMul, Nat.reduceSub, Nat.reduceLT, Nat.reduceEqDiff, not_false_eq_true, false_implies, true_implies, true_and, and_true, h_271, t_272, n_272, t_273, n_273, t_274, n_274, t_275, n_275, t_276, n_276, t_277, n_277, t_278, n_278, t_279, n_279, t_280, n_280, t_281, n_281, t_282, n_282, t_283, n_283, t_284, n_284, t_285, n_285, t_286, n_286, t_287, n_287, t_288, n_288, t_289, n_289, t_290, n_290, t_291, n_291, t_292, n_292, t_293, n_293, t_294, n_294, t_295, n_295, t_296, n_296, t_297, n_297, t_298, n_298, t_299, n_299, t_300, n_300, t_301, n_301, r_271_1, r_271_2, r_271_3, r_271_4, r_271_15, r_271_16, r_271_18, r_271_19, r_271_20, r_271_21, r_271_22, r_271_23, r_271_24, r_271_25, r_271_26, r_271_34, r_271_35, r_271_38, r_271_39, r_271_40, r_271_42, r_271_45, r_271_46, r_271_47, r_271_48, r_271_49, r_271_50, r_271_53, r_271_54, r_271_55, r_271_57, sd_bF hL, c1]
        exact hq
  | succ f ih =>
    intro i a σ hi ha h hfl
    have h10 := h.2.2.2.1
    have hle := tp_ps_le (b := b) ha
    by_cases hL : rw_L b n a
    · have hp := hL.1
      have h97 := hL.2.1
      have hb := h.2.2.2.2.2.2.2.2.2.1
      have hbp := hb _ hp
      have hM1 : tp_M (sd_wI (sd_wI σ k (fr + 1 + i) (nI (b (tp_ps b n a) - 97))) 271 10 (nI (tp_ps b n a + 1))) t o b n (tp_ps b n a + 1) := (h.wk hk1 hk2).at (by omega)
      have hle2 := tp_ps_le (b := b) (show tp_ps b n a + 1 ≤ n by omega)
      have hM2 := hM1.at (a' := tp_ps b n (tp_ps b n a + 1)) hle2.2
      rw [wI_wI] at hM2
      obtain ⟨σ', s1, s2, s3, s4, s5, s6, s7⟩ := ih (i + 1) (tp_ps b n a + 1) _ (by omega) (by omega) hM2 (by rw [wI_o (by decide), wI_c hk1.symm]; exact hfl)
      have ee : rw_e b n (f + 1) a = ((rw_e b n f (tp_ps b n a + 1)).1, (rw_e b n f (tp_ps b n a + 1)).2.1, (b (tp_ps b n a) - 97) :: (rw_e b n f (tp_ps b n a + 1)).2.2) := by rw [rw_e, if_pos hL]
      have eb : rw_bad i (rw_e b n (f + 1) a) ↔ rw_bad (i + 1) (rw_e b n f (tp_ps b n a + 1)) := by
        rw [ee]
        unfold rw_bad
        dsimp only
        rw [List.length_cons, show i + ((rw_e b n f (tp_ps b n a + 1)).2.2.length + 1) = i + 1 + (rw_e b n f (tp_ps b n a + 1)).2.2.length by omega]
      refine ⟨σ', by rw [ee]; exact s1, ?_, fun e j h1 h2 => ?_, s4, fun j hj => ?_, fun hn => ?_, fun d Q hq => ?_⟩
      · rw [s2]
        by_cases q : rw_bad (i + 1) (rw_e b n f (tp_ps b n a + 1))
        · rw [if_pos q, if_pos (eb.mpr q), ee]
        · rw [if_neg q, if_neg (fun r => q (eb.mp r))]
      · rw [s3 e j h1 (fun q => h2 ⟨q.1, by omega⟩), wI_1, if_neg (fun q => h1 ⟨q.1, Or.inl q.2⟩), wI_1, if_neg (fun q => h2 ⟨q.1, by omega⟩)]
      · rw [ee] at hj ⊢
        cases j with
        | zero =>
          rw [s3 k (fr + 1 + i + 0) (fun q => hk1 q.1) (fun q => by omega), wI_c hk1, wI_1, if_pos ⟨rfl, rfl⟩]
          rfl
        | succ j =>
          have := s5 j (by simpa using hj)
          rw [show fr + 1 + i + (j + 1) = fr + 1 + (i + 1) + j by omega, this]
          rfl
      · rw [s6 (fun q => hn (eb.mpr q)), ee]
        dsimp only
        rw [List.length_cons]
        congr 1
        omega
      · have nx := s7 d Q hq
        have c1 : fr + 1 + i < sd_ln k := by omega
        have ev : tp_at b n a = nI (b (tp_ps b n a)) := if_pos hp
        have w1 : (sd_wI σ k (fr + 1 + i) (nI (b (tp_ps b n a) - 97))).1 271 10 = nI (tp_ps b n a) := by rw [wI_c hk1.symm]; exact h10
        have cl := fun Q => c_M_look (L := L) (xs := xs) (fm := fm) (d := d) (Q := Q) hM1
        rw [wI_wI] at cl
        have ci := rw_isIn (a := tp_ps b n a + 1) hb
        have hi12 : ¬ i = 12 := by omega
        rw [z_M_readRow_22]
        simp (disch := first | exact sd_cr | exact sd_ci | exact sd_cu | exact sd_cl9 | assumption | omega | exact t_285 | exact t_283 | exact t_278 | exact t_281 | exact t_276 | exact t_274 | exact t_275 | exact t_277 | exact t_279 | exact t_280 | exact t_282 | exact t_284 | exact t_286 | exact t_287 | exact t_288 | exact t_289 | exact t_290 | exact t_291 | exact t_292 | exact t_293 | exact t_294 | exact t_295 | exact t_296 | exact t_297 | exact t_298 | exact t_299 | exact t_300) only [z_M_readRow_23, z_M_readRow_26, z_M_readRow_28, z_M_readRow_31, z_M_readRow_33, z_M_readRow_36, z_M_readRow_37, z_M_readRow_39, z_M_readRow_42, z_M_readRow_43, z_M_readRow_46, z_M_readRow_47, z_M_readRow_48, z_M_readRow_49, z_M_readRow_50, z_M_readRow_51, z_M_readRow_52, z_M_readRow_53, z_M_readRow_54, z_M_readRow_56, z_M_readRow_58, z_M_readRow_59, z_M_readRow_60, z_M_readRow_63, z_M_readRow_64, z_M_readRow_65, z_M_readRow_68, z_M_readRow_69, z_M_readRow_70, z_M_readRow_73, z_M_readRow_74, z_M_readRow_77, z_M_readRow_79, z_M_readRow_81, z_M_readRow_82, z_M_readRow_85, z_M_readRow_88, z_M_readRow_91, z_M_readRow_93, false_and, and_false, if_true, if_false, Decidable.not_not, sd_ci, sd_cr, sd_cl9, sd_cu, sd_cat0, sd_cat1, sd_rfS, sd_n01, sd_n11, sd_n1, sd_n10, sd_n00, sd_b01, sd_b0, true_and, and_true, and_self, not_true_eq_false, not_false_eq_true, false_implies, true_implies, implies_true, or_true, true_or, or_false, false_or, Option.toList_some, Option.toList_none, List.cons_append, List.nil_append, Nat.reduceAdd, Nat.reduceLeDiff, nz_sub, nz_lt0, nz_ge0, nz_le0, nz_gt0, nz_eq0, nz_eq1, nz_lt, nz_le, nz_eq, nz_cl, nz_in, nz_add, nz_mul, nz_m1, nz_m1', Nat.reduceMul, Nat.reduceSub, Nat.reduceLT, Nat.reduceEqDiff, not_false_eq_true, false_implies, true_implies, true_and, and_true, h_271, t_272, n_272, t_273, n_273, t_274, n_274, t_275, n_275, t_276, n_276, t_277, n_277, t_278, n_278, t_279, n_279, t_280, n_280, t_281, n_281, t_282, n_282, t_283, n_283, t_284, n_284, t_285, n_285, t_286, n_286, t_287, n_287, t_288, n_288, t_289, n_289, t_290, n_290, t_291, n_291, t_292, n_292, t_293, n_293, t_294, n_294, t_295, n_295, t_296, n_296, t_297, n_297, t_298, n_298, t_299, n_299, t_300, n_300, t_301, n_301, r_271_1, r_271_2, r_271_3, r_271_4, r_271_15, r_271_16, r_271_18, r_271_19, r_271_20, r_271_21, r_271_22, r_271_23, r_271_24, r_271_25, r_271_26, r_271_34, r_271_35, r_271_38, r_271_39, r_271_40, r_271_42, r_271_45, r_271_46, r_271_47, r_271_48, r_271_49, r_271_50, r_271_53, r_271_54, r_271_55, r_271_57, sd_bT hL, ev, w1, cl, c_M_isIn, ci, c1, hi12]
        ((repeat' first | (refine And.intro ?_ ?_) | (intro _)) <;> first | omega | exact nx)
    · have ee : rw_e b n (f + 1) a = (tp_ps b n a, false, []) := by rw [rw_e, if_neg hL]
      rw [ee]
      by_cases h0 : i = 0
      · subst h0
        refine ⟨sd_wI σ 271 11 (nI (tp_ps b n a)), h.wf, ?_, fun e j h1 _ => wI_1.trans (if_neg (fun q => h1 ⟨q.1, Or.inr q.2⟩)), rfl, fun j hj => absurd hj (Nat.not_lt_zero _), fun hn => absurd (Or.inr rfl) hn, fun d Q hq => ?_⟩
        · rw [if_pos (show rw_bad 0 (tp_ps b n a, false, []) from Or.inr rfl), wI_k]
        · have cf := fun Q => c_M_fails (L := L) (xs := xs) (fm := fm) (d := d) (Q := Q) hfl
          rw [h10] at cf
          simp (disch := first | exact sd_cr | exact sd_ci | exact sd_cu | exact sd_cl9 | assumption | omega | exact t_285 | exact t_283 | exact t_278 | exact t_281 | exact t_276 | exact t_274 | exact t_275 | exact t_277 | exact t_279 | exact t_280 | exact t_282 | exact t_284 | exact t_286 | exact t_287 | exact t_288 | exact t_289 | exact t_290 | exact t_291 | exact t_292 | exact t_293 | exact t_294 | exact t_295 | exact t_296 | exact t_297 | exact t_298 | exact t_299 | exact t_300) only [z_M_readRow_22, z_M_readRow_23, z_M_readRow_26, z_M_readRow_28, z_M_readRow_31, z_M_readRow_33, z_M_readRow_36, z_M_readRow_37, z_M_readRow_39, z_M_readRow_42, z_M_readRow_43, z_M_readRow_46, z_M_readRow_47, false_and, and_false, if_true, if_false, Decidable.not_not, sd_ci, sd_cr, sd_cl9, sd_cu, sd_cat0, sd_cat1, sd_rfS, sd_n01, sd_n11, sd_n1, sd_n10, sd_n00, sd_b01, sd_b0, true_and, and_true, and_self, not_true_eq_false, not_false_eq_true, false_implies, true_implies, implies_true, or_true, true_or, or_false, false_or, Option.toList_some, Option.toList_none, List.cons_append, List.nil_append, Nat.reduceAdd, Nat.reduceLeDiff, nz_sub, nz_lt0, nz_ge0, nz_le0, nz_gt0, nz_eq0, nz_eq1, nz_lt, nz_le, nz_eq, nz_cl, nz_in, nz_add, nz_mul, nz_m1, nz_m1', Nat.reduceMul, Nat.reduceSub, Nat.reduceLT, Nat.reduceEqDiff, not_false_eq_true, false_implies, true_implies, true_and, and_true, h_271, t_272, n_272, t_273, n_273, t_274, n_274, t_275, n_275, t_276, n_276, t_277, n_277, t_278, n_278, t_279, n_279, t_280, n_280, t_281, n_281, t_282, n_282, t_283, n_283, t_284, n_284, t_285, n_285, t_286, n_286, t_287, n_287, t_288, n_288, t_289, n_289, t_290, n_290, t_291, n_291, t_292, n_292, t_293, n_293, t_294, n_294, t_295, n_295, t_296, n_296, t_297, n_297, t_298, n_298, t_299, n_299, t_300, n_300, t_301, n_301, r_271_1, r_271_2, r_271_3, r_271_4, r_271_15, r_271_16, r_271_18, r_271_19, r_271_20, r_271_21, r_271_22, r_271_23, r_271_24, r_271_25, r_271_26, r_271_34, r_271_35, r_271_38, r_271_39, r_271_40, r_271_42, r_271_45, r_271_46, r_271_47, r_271_48, r_271_49, r_271_50, r_271_53, r_271_54, r_271_55, r_271_57, cf, sd_bF hL]
          exact hq
      · have nb : ¬ rw_bad i (tp_ps b n a, false, []) := fun q => by
          rcases q with q | q
          · cases q
          · exact h0 q
        refine ⟨sd_wI σ k fr (nI i), h.wk hk1 hk2, ?_, fun e j _ h2 => wI_1.trans (if_neg (fun q => h2 ⟨q.1, Or.inl q.2⟩)), rfl, fun j hj => absurd hj (Nat.not_lt_zero _), fun _ => wI_k, fun d Q hq => ?_⟩
        · rw [if_neg nb, wI_c hk1.symm]; exact hfl
        · have c1 : fr < sd_ln k := by omega
          simp (disch := first | exact sd_cr | exact sd_ci | exact sd_cu | exact sd_cl9 | assumption | omega | exact t_285 | exact t_283 | exact t_278 | exact t_281 | exact t_276 | exact t_274 | exact t_275 | exact t_277 | exact t_279 | exact t_280 | exact t_282 | exact t_284 | exact t_286 | exact t_287 | exact t_288 | exact t_289 | exact t_290 | exact t_291 | exact t_292 | exact t_293 | exact t_294 | exact t_295 | exact t_296 | exact t_297 | exact t_298 | exact t_299 | exact t_300) only [z_M_readRow_22, z_M_readRow_23, z_M_readRow_26, z_M_readRow_28, z_M_readRow_96, z_M_readRow_97, z_M_readRow_98, z_M_readRow_99, z_M_readRow_100, false_and, and_false, if_true, if_false, Decidable.not_not, sd_ci, sd_cr, sd_cl9, sd_cu, sd_cat0, sd_cat1, sd_rfS, sd_n01, sd_n11, sd_n1, sd_n10, sd_n00, sd_b01, sd_b0, true_and, and_true, and_self, not_true_eq_false, not_false_eq_true, false_implies, true_implies, implies_true, or_true, true_or, or_false, false_or, Option.toList_some, Option.toList_none, List.cons_append, List.nil_append, Nat.reduceAdd, Nat.reduceLeDiff, nz_sub, nz_lt0, nz_ge0, nz_le0, nz_gt0, nz_eq0, nz_eq1, nz_lt, nz_le, nz_eq, nz_cl, nz_in, nz_add, nz_mul, nz_m1, nz_m1', Nat.reduceMul, Nat.reduceSub, Nat.reduceLT, Nat.reduceEqDiff, not_false_eq_true, false_implies, true_implies, true_and, and_true, h_271, t_272, n_272, t_273, n_273, t_274, n_274, t_275, n_275, t_276, n_276, t_277, n_277, t_278, n_278, t_279, n_279, t_280, n_280, t_281, n_281, t_282, n_282, t_283, n_283, t_284, n_284, t_285, n_285, t_286, n_286, t_287, n_287, t_288, n_288, t_289, n_289, t_290, n_290, t_291, n_291, t_292, n_292, t_293, n_293, t_294, n_294, t_295, n_295, t_296, n_296, t_297, n_297, t_298, n_298, t_299, n_299, t_300, n_300, t_301, n_301, r_271_1, r_271_2, r_271_3, r_271_4, r_271_15, r_271_16, r_271_18, r_271_19, r_271_20, r_271_21, r_271_22, r_271_23, r_271_24, r_271_25, r_271_26, r_271_34, r_271_35, r_271_38, r_271_39, r_271_40, r_271_42, r_271_45, r_271_46, r_271_47, r_271_48, r_271_49, r_271_50, r_271_53, r_271_54, r_271_55, r_271_57, sd_bF hL, c1, h0]
          exact hq
end SDAZ
