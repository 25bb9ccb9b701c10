/-! JOY, in the reference -/
def sw_fJ (σ σ' : sd_Mem) : Prop := (∀ e, e ≠ 271 → e ≠ 275 → e ≠ 294 → e ≠ 295 → e ≠ 296 → σ'.1 e = σ.1 e) ∧ (∀ j, j < 8 ∨ (14 < j ∧ j ≠ 17) → σ'.1 271 j = σ.1 271 j) ∧ ∀ k i, k ≠ 271 → σ'.2.2 k i = σ.2.2 k i
theorem sw_fJ.rf {σ : sd_Mem} : sw_fJ σ σ := ⟨fun _ _ _ _ _ _ => rfl, fun _ _ => rfl, fun _ _ _ => rfl⟩
theorem sw_fJ.tr {σ σ1 σ2 : sd_Mem} (h1 : sw_fJ σ σ1) (h2 : sw_fJ σ1 σ2) : sw_fJ σ σ2 := ⟨fun e a b c d f => (h2.1 e a b c d f).trans (h1.1 e a b c d f), fun j a => (h2.2.1 j a).trans (h1.2.1 j a), fun k i a => (h2.2.2 k i a).trans (h1.2.2 k i a)⟩
/-- Math.max and min of the reference hold as the class's within -/
theorem sw_wi_M (x : Int32) : (if (-9999 : Int32) < (if x < nI 9999 then x else nI 9999) then (if x < nI 9999 then x else nI 9999) else -9999) = sw_wi (nI 9999) x := by
  unfold sw_wi
  have e1 : -(nI 9999) = -9999 := by decide
  rw [e1]
  have t1 : (nI 9999).toInt = 9999 := by decide
  have t2 : (-9999 : Int32).toInt = -9999 := by decide
  have lt : ∀ a b : Int32, a < b ↔ a.toInt < b.toInt := fun a b => Int32.lt_iff_toInt_lt
  have le : ∀ a b : Int32, a ≤ b ↔ a.toInt ≤ b.toInt := fun a b => Int32.le_iff_toInt_le
  by_cases h1 : x < nI 9999
  · rw [if_pos h1]
    have h1' := (lt _ _).mp h1
    rw [t1] at h1'
    rw [if_pos ((le _ _).mpr (by rw [t1]; omega))]
    by_cases h2 : (-9999 : Int32) < x
    · have h2' := (lt _ _).mp h2
      rw [t2] at h2'
      rw [if_pos h2, if_pos ((le _ _).mpr (by rw [t2]; omega))]
    · rw [if_neg h2]
      by_cases h3 : (-9999 : Int32) ≤ x
      · rw [if_pos h3]
        have h3' := (le _ _).mp h3
        have h2' : ¬ (-9999 : Int32).toInt < x.toInt := fun q => h2 ((lt _ _).mpr q)
        exact Int32.toInt_inj.mp (by omega)
      · rw [if_neg h3]
  · rw [if_neg h1, if_pos (by decide)]
    have h1' : ¬ x.toInt < (nI 9999).toInt := fun q => h1 ((lt _ _).mpr q)
    rw [t1] at h1'
    by_cases h3 : x ≤ nI 9999
    · have h3' := (le _ _).mp h3
      rw [t1] at h3'
      rw [if_pos h3, if_pos ((le _ _).mpr (by rw [t2]; omega))]
      exact Int32.toInt_inj.mp (by rw [t1]; omega)
    · rw [if_neg h3]
section SDAG
variable {L : Nat} {xs : Nat → Int32} {fm : Option Nat} {A U : sw_T} {σ : sd_Mem}
theorem c_M_joyOne (hY : sw_Y σ A) (hA : sw_AK A) (hvM : sw_vM σ U) (hU : sw_pU U) (hvT : sw_vT L xs fm U) {p e i r : Nat} (he : e < 8) (hp : p < 5) (hi : i < 12) (hr : r < 12) : ∃ σ', sw_fJ σ σ' ∧ σ'.1 294 = σ.1 294 ∧ sw_vM σ' U ∧ ∀ (d : Nat) Q, sd_Call (sd_E1 L xs fm) (d + 61) y_M_joyOne [.ref 271, .int (nI p), .int (nI e), .int (nI i), .int (nI r)] σ Q ↔ Q (some (.int (sw_w1 A U p e i r))) σ' := by
  obtain ⟨v1, v2, v3, v4, v5, v6⟩ := id hvM
  have y4 := hY.2.2.2.1 e he
  have y5 := hY.2.2.2.2.1 e he
  have bj := hA.2.2.2.2.1 e
  have bh := hA.2.2.2.2.2.1 e
  have bU := hU.2.2.1
  have bH := hU.2.2.2.1
  unfold sw_w1
  by_cases h0 : U 3 0 0 = 0
  · rw [h0] at v2
    have v2 : σ.1 271 36 = -1 := v2
    refine ⟨σ, sw_fJ.rf, rfl, hvM, fun d Q => sd_Call.iff (fun Q hq => ?_) Q⟩
    rw [if_pos h0] at hq
    rw [sd_Call.start (ls := [.ref 271, .int (nI p), .int (nI e), .int (nI i), .int (nI r), sd_un, sd_un]) m_M_joyOne (by decide) (Nat.le_of_ble_eq_true rfl) rfl]
    simp (disch := first | exact sd_cr | exact sd_ci | exact sd_cu | exact sd_cl9 | assumption | omega | exact t_285 | exact t_283 | exact t_278 | exact t_281 | exact t_276 | exact t_274 | exact t_275 | exact t_277 | exact t_279 | exact t_280 | exact t_282 | exact t_284 | exact t_286 | exact t_287 | exact t_288 | exact t_289 | exact t_290 | exact t_291 | exact t_292 | exact t_293 | exact t_294 | exact t_295 | exact t_296 | exact t_297 | exact t_298 | exact t_299 | exact t_300) only [z_M_joyOne_0, z_M_joyOne_1, z_M_joyOne_4, z_M_joyOne_5, z_M_joyOne_8, z_M_joyOne_9, z_M_joyOne_12, z_M_joyOne_13, z_M_joyOne_14, z_M_joyOne_15, z_M_joyOne_16, false_and, and_false, if_true, if_false, Decidable.not_not, sd_ci, sd_cr, sd_cl9, sd_cu, sd_cat0, sd_cat1, sd_rfS, sd_n01, sd_n11, sd_n1, sd_n10, sd_n00, sd_b01, sd_b0, true_and, and_true, and_self, not_true_eq_false, not_false_eq_true, false_implies, true_implies, implies_true, or_true, true_or, or_false, false_or, Option.toList_some, Option.toList_none, List.cons_append, List.nil_append, Nat.reduceAdd, Nat.reduceLeDiff, nz_sub, nz_lt0, nz_ge0, nz_le0, nz_gt0, nz_eq0, nz_eq1, nz_lt, nz_le, nz_eq, nz_cl, nz_in, nz_add, nz_mul, nz_m1, nz_m1', Nat.reduceMul, Nat.reduceSub, Nat.reduceLT, Nat.reduceEqDiff, not_false_eq_true, false_implies, true_implies, true_and, and_true, h_271, t_272, n_272, t_273, n_273, t_274, n_274, t_275, n_275, t_276, n_276, t_277, n_277, t_278, n_278, t_279, n_279, t_280, n_280, t_281, n_281, t_282, n_282, t_283, n_283, t_284, n_284, t_285, n_285, t_286, n_286, t_287, n_287, t_288, n_288, t_289, n_289, t_290, n_290, t_291, n_291, t_292, n_292, t_293, n_293, t_294, n_294, t_295, n_295, t_296, n_296, t_297, n_297, t_298, n_298, t_299, n_299, t_300, n_300, t_301, n_301, r_271_1, r_271_2, r_271_3, r_271_4, r_271_15, r_271_16, r_271_18, r_271_19, r_271_20, r_271_21, r_271_22, r_271_23, r_271_24, r_271_25, r_271_26, r_271_34, r_271_35, r_271_38, r_271_39, r_271_40, r_271_42, r_271_45, r_271_46, r_271_47, r_271_48, r_271_49, r_271_50, r_271_53, r_271_54, r_271_55, r_271_57, v2, y4]
    ((repeat' first | (refine And.intro ?_ ?_) | (intro _)) <;> first | omega | exact hq)
  · obtain ⟨t, ht⟩ : ∃ t, U 3 0 0 = t + 1 := ⟨U 3 0 0 - 1, by omega⟩
    rw [if_neg h0, ht, Nat.add_sub_cancel]
    rw [ht, sw_hd_s] at v2
    have ht4 : t < U 2 0 0 := by omega
    obtain ⟨w1, w2⟩ := v3 t ht4
    have b6 := (hU.2.2.2.2.1 t).2
    obtain ⟨sp, hsp⟩ : ∃ sp, sp = ((e * 12 + i) * 12 + r) * 5 + p := ⟨_, rfl⟩
    obtain ⟨ky, hky⟩ : ∃ ky, ky = 1 + t + 4 * (A 2 e 0 + 10 * A 3 e 0) := ⟨_, rfl⟩
    have hsp7 : sp < 5760 := by omega
    have hky7 : ky < 1000 := by omega
    by_cases hc : σ.1 295 sp = nI ky
    · have hv := v6 e i r p t (A 2 e 0) (A 3 e 0) he hi hr hp ht4 bj bh (by rw [← hsp, ← hky]; exact hc)
      rw [← hsp] at hv
      refine ⟨σ, sw_fJ.rf, rfl, hvM, fun d Q => sd_Call.iff (fun Q hq => ?_) Q⟩
      rw [hsp] at hc hv
      rw [hky] at hc
      rw [sd_Call.start (ls := [.ref 271, .int (nI p), .int (nI e), .int (nI i), .int (nI r), sd_un, sd_un]) m_M_joyOne (by decide) (Nat.le_of_ble_eq_true rfl) rfl]
      simp (disch := first | exact sd_cr | exact sd_ci | exact sd_cu | exact sd_cl9 | assumption | omega | exact t_285 | exact t_283 | exact t_278 | exact t_281 | exact t_276 | exact t_274 | exact t_275 | exact t_277 | exact t_279 | exact t_280 | exact t_282 | exact t_284 | exact t_286 | exact t_287 | exact t_288 | exact t_289 | exact t_290 | exact t_291 | exact t_292 | exact t_293 | exact t_294 | exact t_295 | exact t_296 | exact t_297 | exact t_298 | exact t_299 | exact t_300) only [z_M_joyOne_0, z_M_joyOne_1, z_M_joyOne_4, z_M_joyOne_5, z_M_joyOne_8, z_M_joyOne_9, z_M_joyOne_12, z_M_joyOne_13, z_M_joyOne_14, z_M_joyOne_15, z_M_joyOne_16, z_M_joyOne_17, z_M_joyOne_18, z_M_joyOne_20, z_M_joyOne_21, z_M_joyOne_22, z_M_joyOne_23, z_M_joyOne_25, z_M_joyOne_26, z_M_joyOne_28, z_M_joyOne_29, z_M_joyOne_30, z_M_joyOne_31, z_M_joyOne_32, z_M_joyOne_33, z_M_joyOne_35, z_M_joyOne_36, z_M_joyOne_37, z_M_joyOne_40, z_M_joyOne_41, z_M_joyOne_42, z_M_joyOne_43, z_M_joyOne_46, z_M_joyOne_47, z_M_joyOne_48, z_M_joyOne_49, z_M_joyOne_50, z_M_joyOne_52, z_M_joyOne_53, z_M_joyOne_56, z_M_joyOne_57, z_M_joyOne_58, z_M_joyOne_59, z_M_joyOne_60, z_M_joyOne_61, z_M_joyOne_62, z_M_joyOne_63, z_M_joyOne_64, z_M_joyOne_65, z_M_joyOne_66, z_M_joyOne_68, z_M_joyOne_69, z_M_joyOne_72, z_M_joyOne_74, z_M_joyOne_75, z_M_joyOne_77, z_M_joyOne_80, z_M_joyOne_81, z_M_joyOne_84, z_M_joyOne_86, z_M_joyOne_87, z_M_joyOne_90, z_M_joyOne_91, z_M_joyOne_92, z_M_joyOne_93, z_M_joyOne_94, z_M_joyOne_95, z_M_joyOne_96, z_M_joyOne_99, z_M_joyOne_101, z_M_joyOne_102, z_M_joyOne_105, z_M_joyOne_106, z_M_joyOne_107, z_M_joyOne_108, z_M_joyOne_109, z_M_joyOne_110, z_M_joyOne_111, z_M_joyOne_112, z_M_joyOne_113, z_M_joyOne_116, z_M_joyOne_118, z_M_joyOne_119, z_M_joyOne_120, z_M_joyOne_121, z_M_joyOne_124, z_M_joyOne_126, z_M_joyOne_128, z_M_joyOne_129, z_M_joyOne_130, z_M_joyOne_133, z_M_joyOne_135, z_M_joyOne_136, z_M_joyOne_137, z_M_joyOne_138, z_M_joyOne_141, z_M_joyOne_143, z_M_joyOne_144, z_M_joyOne_145, z_M_joyOne_146, z_M_joyOne_147, z_M_joyOne_150, z_M_joyOne_153, z_M_joyOne_154, z_M_joyOne_157, z_M_joyOne_158, z_M_joyOne_159, z_M_joyOne_162, z_M_joyOne_163, z_M_joyOne_166, z_M_joyOne_167, z_M_joyOne_170, z_M_joyOne_171, z_M_joyOne_174, z_M_joyOne_176, z_M_joyOne_178, z_M_joyOne_179, z_M_joyOne_180, z_M_joyOne_183, z_M_joyOne_185, z_M_joyOne_186, z_M_joyOne_189, z_M_joyOne_190, z_M_joyOne_191, z_M_joyOne_194, z_M_joyOne_196, z_M_joyOne_197, false_and, and_false, if_true, if_false, Decidable.not_not, sd_ci, sd_cr, sd_cl9, sd_cu, sd_cat0, sd_cat1, sd_rfS, sd_n01, sd_n11, sd_n1, sd_n10, sd_n00, sd_b01, sd_b0, true_and, and_true, and_self, not_true_eq_false, not_false_eq_true, false_implies, true_implies, implies_true, or_true, true_or, or_false, false_or, Option.toList_some, Option.toList_none, List.cons_append, List.nil_append, Nat.reduceAdd, Nat.reduceLeDiff, nz_sub, nz_lt0, nz_ge0, nz_le0, nz_gt0, nz_eq0, nz_eq1, nz_lt, nz_le, nz_eq, nz_cl, nz_in, nz_add, nz_mul, nz_m1, nz_m1', Nat.reduceMul, Nat.reduceSub, Nat.reduceLT, Nat.reduceEqDiff, not_false_eq_true, false_implies, true_implies, true_and, and_true, h_271, t_272, n_272, t_273, n_273, t_274, n_274, t_275, n_275, t_276, n_276, t_277, n_277, t_278, n_278, t_279, n_279, t_280, n_280, t_281, n_281, t_282, n_282, t_283, n_283, t_284, n_284, t_285, n_285, t_286, n_286, t_287, n_287, t_288, n_288, t_289, n_289, t_290, n_290, t_291, n_291, t_292, n_292, t_293, n_293, t_294, n_294, t_295, n_295, t_296, n_296, t_297, n_297, t_298, n_298, t_299, n_299, t_300, n_300, t_301, n_301, r_271_1, r_271_2, r_271_3, r_271_4, r_271_15, r_271_16, r_271_18, r_271_19, r_271_20, r_271_21, r_271_22, r_271_23, r_271_24, r_271_25, r_271_26, r_271_34, r_271_35, r_271_38, r_271_39, r_271_40, r_271_42, r_271_45, r_271_46, r_271_47, r_271_48, r_271_49, r_271_50, r_271_53, r_271_54, r_271_55, r_271_57, v2, y4, y5, hc, hv]
      ((repeat' first | (refine And.intro ?_ ?_) | (intro _)) <;> first | omega | exact hq)
    · obtain ⟨τ, hτ⟩ : ∃ τ, τ = sd_wI (sd_wI (sd_wI (sd_wI (sd_wI (sd_wI σ 275 106 (nI (A 2 e 0))) 275 104 (nI (A 3 e 0))) 275 105 (nI i)) 275 114 (nI r)) 275 120 (nI e)) 275 113 (nI p) := ⟨_, rfl⟩
      have hτc : ∀ k, k ≠ 275 → τ.1 k = σ.1 k := fun k hk => by rw [hτ, wI_c hk, wI_c hk, wI_c hk, wI_c hk, wI_c hk, wI_c hk]
      have hτb : ∀ k, k < 128 → ∃ n, n < 100 ∧ τ.1 275 k = nI n := fun k hk => by
        rw [hτ, wI_1, wI_1, wI_1, wI_1, wI_1, wI_1]
        split
        · exact ⟨p, by omega, rfl⟩
        split
        · exact ⟨e, by omega, rfl⟩
        split
        · exact ⟨r, by omega, rfl⟩
        split
        · exact ⟨i, by omega, rfl⟩
        split
        · exact ⟨A 3 e 0, by omega, rfl⟩
        split
        · exact ⟨A 2 e 0, by omega, rfl⟩
        exact v4 k hk
      obtain ⟨τ2, g1, g2, g3⟩ := (hvT t ht4).1 τ 273 (240 * t) (sw_lt (A 2 e 0) (A 3 e 0) i r e p) (Or.inr rfl) (by rw [n_273]; omega) (fun i hi => by rw [hτc _ (by decide)]; exact w2 i hi) (by rw [hτ]; exact ⟨rfl, rfl, rfl, rfl, rfl, rfl⟩) (fun k hk => by
        have : k = 0 ∨ k = 1 ∨ k = 2 ∨ k = 3 ∨ k = 4 ∨ k = 5 := by omega
        rcases this with rfl | rfl | rfl | rfl | rfl | rfl
        · exact ⟨A 2 e 0, by omega, rfl⟩
        · exact ⟨A 3 e 0, by omega, rfl⟩
        · exact ⟨i, by omega, rfl⟩
        · exact ⟨r, by omega, rfl⟩
        · exact ⟨e, by omega, rfl⟩
        · exact ⟨p, by omega, rfl⟩)
      have F : ∀ k, k ≠ 271 → k ≠ 275 → τ2.1 k = σ.1 k := fun k a b => by rw [g1.1 k a, hτc k b]
      have F1 : ∀ j, j < 8 ∨ (14 < j ∧ j ≠ 17) → τ2.1 271 j = σ.1 271 j := fun j hj => by rw [g1.2.1 j hj, hτc 271 (by decide)]
      refine ⟨sd_wI (sd_wI τ2 295 sp (nI ky)) 296 sp (sw_wv U t (A 2 e 0) (A 3 e 0) i r e p), ⟨fun k a b _ c d => by rw [wI_c d, wI_c c, F k a b], fun j hj => by rw [wI_c (by decide), wI_c (by decide), F1 j hj], fun k i a => by rw [wI_2, wI_2, g1.2.2.2 k i a, hτ]; rfl⟩, by rw [wI_c (by decide), wI_c (by decide), F 294 (by decide) (by decide)], ⟨?_, ?_, fun t' ht' => ?_, fun k hk => ?_, fun s hs => ?_, ?_⟩, fun d Q => sd_Call.iff (fun Q hq => ?_) Q⟩
      · rw [wI_c (by decide), wI_c (by decide), F1 7 (by decide)]; exact v1
      · rw [wI_c (by decide), wI_c (by decide), F1 36 (by decide)]; exact hvM.2.1
      · rw [wI_c (by decide), wI_c (by decide), wI_c (e := 273) (by decide), wI_c (e := 273) (by decide), F 274 (by decide) (by decide), F 273 (by decide) (by decide)]; exact v3 t' ht'
      · rw [wI_c (by decide), wI_c (by decide), g1.1 275 (by decide)]; exact hτb k hk
      · rw [wI_c (by decide), wI_1, F 295 (by decide) (by decide)]
        by_cases hss : s = sp
        · rw [if_pos ⟨rfl, hss⟩]
          exact Or.inr ⟨t, A 2 e 0 + 10 * A 3 e 0, ht4, by omega, by rw [hky]⟩
        · rw [if_neg (by omega)]; exact v5 s hs
      · intro d' i' r' p' t' j' h' q1 q2 q3 q4 q5 q6 q7
        rw [wI_c (e := 295) (by decide), wI_1, wI_1, wI_c (e := 296) (by decide), F 295 (by decide) (by decide), F 296 (by decide) (by decide)]
        by_cases hss : ((d' * 12 + i') * 12 + r') * 5 + p' = sp
        · rw [if_pos ⟨rfl, hss⟩, if_pos ⟨rfl, hss⟩, nz_eq (by omega) (by omega)]
          intro hk2
          have z1 : p' = p := by omega
          have z2 : r' = r := by omega
          have z3 : i' = i := by omega
          have z4 : d' = e := by omega
          have z5 : t' = t := by omega
          have z6 : j' = A 2 e 0 := by omega
          have z7 : h' = A 3 e 0 := by omega
          rw [z1, z2, z3, z4, z5, z6, z7]
        · rw [if_neg (by omega), if_neg (by omega)]
          exact v6 d' i' r' p' t' j' h' q1 q2 q3 q4 q5 q6 q7
      · have g3' := fun Q => g3 d Q
        have f36 : τ.1 271 36 = nI t := by rw [hτc _ (by decide)]; exact v2
        have f274 : τ.1 274 t = nI (U 6 t 0) := by rw [hτc _ (by decide)]; exact w1
        have g2 : τ2.1 271 14 = sw_wv U t (A 2 e 0) (A 3 e 0) i r e p := g2
        rw [hsp, hky] at hq
        rw [hsp, hky] at hc
        rw [sd_Call.start (ls := [.ref 271, .int (nI p), .int (nI e), .int (nI i), .int (nI r), sd_un, sd_un]) m_M_joyOne (by decide) (Nat.le_of_ble_eq_true rfl) rfl]
        simp (disch := first | exact sd_cr | exact sd_ci | exact sd_cu | exact sd_cl9 | assumption | omega | exact t_285 | exact t_283 | exact t_278 | exact t_281 | exact t_276 | exact t_274 | exact t_275 | exact t_277 | exact t_279 | exact t_280 | exact t_282 | exact t_284 | exact t_286 | exact t_287 | exact t_288 | exact t_289 | exact t_290 | exact t_291 | exact t_292 | exact t_293 | exact t_294 | exact t_295 | exact t_296 | exact t_297 | exact t_298 | exact t_299 | exact t_300) only [z_M_joyOne_0, z_M_joyOne_1, z_M_joyOne_4, z_M_joyOne_5, z_M_joyOne_8, z_M_joyOne_9, z_M_joyOne_12, z_M_joyOne_13, z_M_joyOne_14, z_M_joyOne_15, z_M_joyOne_16, z_M_joyOne_17, z_M_joyOne_18, z_M_joyOne_20, z_M_joyOne_21, z_M_joyOne_22, z_M_joyOne_23, z_M_joyOne_25, z_M_joyOne_26, z_M_joyOne_28, z_M_joyOne_29, z_M_joyOne_30, z_M_joyOne_31, z_M_joyOne_32, z_M_joyOne_33, z_M_joyOne_35, z_M_joyOne_36, z_M_joyOne_37, z_M_joyOne_40, z_M_joyOne_41, z_M_joyOne_42, z_M_joyOne_43, z_M_joyOne_46, z_M_joyOne_47, z_M_joyOne_48, z_M_joyOne_49, z_M_joyOne_50, z_M_joyOne_52, z_M_joyOne_53, z_M_joyOne_56, z_M_joyOne_57, z_M_joyOne_58, z_M_joyOne_59, z_M_joyOne_60, z_M_joyOne_61, z_M_joyOne_62, z_M_joyOne_63, z_M_joyOne_64, z_M_joyOne_65, z_M_joyOne_66, z_M_joyOne_68, z_M_joyOne_69, z_M_joyOne_72, z_M_joyOne_74, z_M_joyOne_75, z_M_joyOne_77, z_M_joyOne_80, z_M_joyOne_81, z_M_joyOne_84, z_M_joyOne_86, z_M_joyOne_87, z_M_joyOne_90, z_M_joyOne_91, z_M_joyOne_92, z_M_joyOne_93, z_M_joyOne_94, z_M_joyOne_95, z_M_joyOne_96, z_M_joyOne_99, z_M_joyOne_101, z_M_joyOne_102, z_M_joyOne_105, z_M_joyOne_106, z_M_joyOne_107, z_M_joyOne_108, z_M_joyOne_109, z_M_joyOne_110, z_M_joyOne_111, z_M_joyOne_112, z_M_joyOne_113, z_M_joyOne_116, z_M_joyOne_118, z_M_joyOne_119, z_M_joyOne_120, z_M_joyOne_121, z_M_joyOne_124, z_M_joyOne_126, z_M_joyOne_128, z_M_joyOne_129, z_M_joyOne_130, z_M_joyOne_133, z_M_joyOne_135, z_M_joyOne_136, z_M_joyOne_137, z_M_joyOne_138, z_M_joyOne_141, z_M_joyOne_143, z_M_joyOne_144, false_and, and_false, if_true, if_false, Decidable.not_not, sd_ci, sd_cr, sd_cl9, sd_cu, sd_cat0, sd_cat1, sd_rfS, sd_n01, sd_n11, sd_n1, sd_n10, sd_n00, sd_b01, sd_b0, true_and, and_true, and_self, not_true_eq_false, not_false_eq_true, false_implies, true_implies, implies_true, or_true, true_or, or_false, false_or, Option.toList_some, Option.toList_none, List.cons_append, List.nil_append, Nat.reduceAdd, Nat.reduceLeDiff, nz_sub, nz_lt0, nz_ge0, nz_le0, nz_gt0, nz_eq0, nz_eq1, nz_lt, nz_le, nz_eq, nz_cl, nz_in, nz_add, nz_mul, nz_m1, nz_m1', Nat.reduceMul, Nat.reduceSub, Nat.reduceLT, Nat.reduceEqDiff, not_false_eq_true, false_implies, true_implies, true_and, and_true, h_271, t_272, n_272, t_273, n_273, t_274, n_274, t_275, n_275, t_276, n_276, t_277, n_277, t_278, n_278, t_279, n_279, t_280, n_280, t_281, n_281, t_282, n_282, t_283, n_283, t_284, n_284, t_285, n_285, t_286, n_286, t_287, n_287, t_288, n_288, t_289, n_289, t_290, n_290, t_291, n_291, t_292, n_292, t_293, n_293, t_294, n_294, t_295, n_295, t_296, n_296, t_297, n_297, t_298, n_298, t_299, n_299, t_300, n_300, t_301, n_301, r_271_1, r_271_2, r_271_3, r_271_4, r_271_15, r_271_16, r_271_18, r_271_19, r_271_20, r_271_21, r_271_22, r_271_23, r_271_24, r_271_25, r_271_26, r_271_34, r_271_35, r_271_38, r_271_39, r_271_40, r_271_42, r_271_45, r_271_46, r_271_47, r_271_48, r_271_49, r_271_50, r_271_53, r_271_54, r_271_55, r_271_57, v2, y4, y5, hc, wI_c]
        rw [← hτ]
        simp (disch := first | exact sd_cr | exact sd_ci | exact sd_cu | exact sd_cl9 | assumption | omega | exact t_285 | exact t_283 | exact t_278 | exact t_281 | exact t_276 | exact t_274 | exact t_275 | exact t_277 | exact t_279 | exact t_280 | exact t_282 | exact t_284 | exact t_286 | exact t_287 | exact t_288 | exact t_289 | exact t_290 | exact t_291 | exact t_292 | exact t_293 | exact t_294 | exact t_295 | exact t_296 | exact t_297 | exact t_298 | exact t_299 | exact t_300) only [z_M_joyOne_145, z_M_joyOne_146, z_M_joyOne_147, z_M_joyOne_150, z_M_joyOne_153, z_M_joyOne_154, z_M_joyOne_157, z_M_joyOne_158, z_M_joyOne_159, z_M_joyOne_162, z_M_joyOne_163, z_M_joyOne_166, z_M_joyOne_167, z_M_joyOne_170, z_M_joyOne_171, z_M_joyOne_174, z_M_joyOne_176, z_M_joyOne_178, z_M_joyOne_179, z_M_joyOne_180, z_M_joyOne_183, z_M_joyOne_185, z_M_joyOne_186, z_M_joyOne_189, z_M_joyOne_190, z_M_joyOne_191, z_M_joyOne_194, z_M_joyOne_196, z_M_joyOne_197, false_and, and_false, if_true, if_false, Decidable.not_not, sd_ci, sd_cr, sd_cl9, sd_cu, sd_cat0, sd_cat1, sd_rfS, sd_n01, sd_n11, sd_n1, sd_n10, sd_n00, sd_b01, sd_b0, true_and, and_true, and_self, not_true_eq_false, not_false_eq_true, false_implies, true_implies, implies_true, or_true, true_or, or_false, false_or, Option.toList_some, Option.toList_none, List.cons_append, List.nil_append, Nat.reduceAdd, Nat.reduceLeDiff, nz_sub, nz_lt0, nz_ge0, nz_le0, nz_gt0, nz_eq0, nz_eq1, nz_lt, nz_le, nz_eq, nz_cl, nz_in, nz_add, nz_mul, nz_m1, nz_m1', Nat.reduceMul, Nat.reduceSub, Nat.reduceLT, Nat.reduceEqDiff, not_false_eq_true, false_implies, true_implies, true_and, and_true, h_271, t_272, n_272, t_273, n_273, t_274, n_274, t_275, n_275, t_276, n_276, t_277, n_277, t_278, n_278, t_279, n_279, t_280, n_280, t_281, n_281, t_282, n_282, t_283, n_283, t_284, n_284, t_285, n_285, t_286, n_286, t_287, n_287, t_288, n_288, t_289, n_289, t_290, n_290, t_291, n_291, t_292, n_292, t_293, n_293, t_294, n_294, t_295, n_295, t_296, n_296, t_297, n_297, t_298, n_298, t_299, n_299, t_300, n_300, t_301, n_301, r_271_1, r_271_2, r_271_3, r_271_4, r_271_15, r_271_16, r_271_18, r_271_19, r_271_20, r_271_21, r_271_22, r_271_23, r_271_24, r_271_25, r_271_26, r_271_34, r_271_35, r_271_38, r_271_39, r_271_40, r_271_42, r_271_45, r_271_46, r_271_47, r_271_48, r_271_49, r_271_50, r_271_53, r_271_54, r_271_55, r_271_57, f36, f274, g3', g2, wI_c, wI_k]
        ((repeat' first | (refine And.intro ?_ ?_) | (intro _)) <;> first | omega | exact hq)
theorem sw_fJ.Y {σ' : sd_Mem} (h : sw_fJ σ σ') (hY : sw_Y σ A) : sw_Y σ' A := by
  unfold sw_Y at hY ⊢
  rw [h.2.1 27 (by decide), h.2.1 28 (by decide), h.1 276 (by decide) (by decide) (by decide) (by decide) (by decide), h.1 278 (by decide) (by decide) (by decide) (by decide) (by decide), h.1 281 (by decide) (by decide) (by decide) (by decide) (by decide)]
  exact hY
theorem c_M_joyBy {a g m p : Nat} {f : Nat → Nat} (hY : sw_Y σ A) (hA : sw_AK A) (hvM : sw_vM σ U) (hU : sw_pU U) (hvT : sw_vT L xs fm U) (hp : p < 5) (ha : sd_tg a = 0) (ham : g + m ≤ sd_ln a) (hal : sd_ln a < 100000) (ha2 : a ≠ 271 ∧ a ≠ 275 ∧ a ≠ 294 ∧ a ≠ 295 ∧ a ≠ 296) (hm : m ≤ 12) (hf : ∀ i, i < m → σ.1 a (g + i) = nI (f i)) (hf8 : ∀ i, f i < 8) : ∃ σ', sw_fJ σ σ' ∧ sw_vM σ' U ∧ ∀ (d : Nat) Q, sd_Call (sd_E1 L xs fm) (d + 62) y_M_joyBy [.ref 271, .int (nI p), .ref a, .int (nI g), .int (nI m)] σ Q ↔ Q (some (.int (sw_wi (nI 9999) (sw_js (sw_w1 A U p) f m)))) σ' := by
  obtain ⟨σ1, ⟨a1, a2, a4⟩, a3⟩ := sd_loopM (β := (Nat × (Option Value → sd_Mem → Prop)) × Value × Value) (fun i σ' => sw_fJ σ σ' ∧ sw_vM σ' U ∧ ∀ e, e < i → σ'.1 294 e = nI 0) (fun q i σ' => sd_Go (sd_E1 L xs fm) (q.1.1 + 61) y_M_joyBy 3 [.ref 271, .int (nI p), .ref a, .int (nI g), .int (nI m), .int (nI i), q.2.1, q.2.2] [] σ' q.1.2) 8 (by
    intro i σ' hi ⟨j1, j2, j3⟩
    refine ⟨sd_wI σ' 294 i (nI 0), ⟨j1.tr ⟨fun e a b c d f => by rw [wI_c c], fun j hj => by rw [wI_c (by decide)], fun _ _ _ => rfl⟩, j2.fr (by rw [wI_c (by decide)]) (by rw [wI_c (by decide)]) (fun k hk => wI_c (by omega)), fun e he => ?_⟩, fun q hq => ?_⟩
    · rw [wI_1]
      split
      · rfl
      · rename_i h; exact j3 e (by omega)
    · rw [z_M_joyBy_3]
      simp (disch := first | exact sd_cr | exact sd_ci | exact sd_cu | exact sd_cl9 | assumption | omega | exact t_285 | exact t_283 | exact t_278 | exact t_281 | exact t_276 | exact t_274 | exact t_275 | exact t_277 | exact t_279 | exact t_280 | exact t_282 | exact t_284 | exact t_286 | exact t_287 | exact t_288 | exact t_289 | exact t_290 | exact t_291 | exact t_292 | exact t_293 | exact t_294 | exact t_295 | exact t_296 | exact t_297 | exact t_298 | exact t_299 | exact t_300) only [z_M_joyBy_5, z_M_joyBy_7, z_M_joyBy_10, z_M_joyBy_11, z_M_joyBy_14, z_M_joyBy_16, z_M_joyBy_17, z_M_joyBy_18, z_M_joyBy_21, false_and, and_false, if_true, if_false, Decidable.not_not, sd_ci, sd_cr, sd_cl9, sd_cu, sd_cat0, sd_cat1, sd_rfS, sd_n01, sd_n11, sd_n1, sd_n10, sd_n00, sd_b01, sd_b0, true_and, and_true, and_self, not_true_eq_false, not_false_eq_true, false_implies, true_implies, implies_true, or_true, true_or, or_false, false_or, Option.toList_some, Option.toList_none, List.cons_append, List.nil_append, Nat.reduceAdd, Nat.reduceLeDiff, nz_sub, nz_lt0, nz_ge0, nz_le0, nz_gt0, nz_eq0, nz_eq1, nz_lt, nz_le, nz_eq, nz_cl, nz_in, nz_add, nz_mul, nz_m1, nz_m1', Nat.reduceMul, Nat.reduceSub, Nat.reduceLT, Nat.reduceEqDiff, not_false_eq_true, false_implies, true_implies, true_and, and_true, h_271, t_272, n_272, t_273, n_273, t_274, n_274, t_275, n_275, t_276, n_276, t_277, n_277, t_278, n_278, t_279, n_279, t_280, n_280, t_281, n_281, t_282, n_282, t_283, n_283, t_284, n_284, t_285, n_285, t_286, n_286, t_287, n_287, t_288, n_288, t_289, n_289, t_290, n_290, t_291, n_291, t_292, n_292, t_293, n_293, t_294, n_294, t_295, n_295, t_296, n_296, t_297, n_297, t_298, n_298, t_299, n_299, t_300, n_300, t_301, n_301, r_271_1, r_271_2, r_271_3, r_271_4, r_271_15, r_271_16, r_271_18, r_271_19, r_271_20, r_271_21, r_271_22, r_271_23, r_271_24, r_271_25, r_271_26, r_271_34, r_271_35, r_271_38, r_271_39, r_271_40, r_271_42, r_271_45, r_271_46, r_271_47, r_271_48, r_271_49, r_271_50, r_271_53, r_271_54, r_271_55, r_271_57]
      ((repeat' first | (refine And.intro ?_ ?_) | (intro _)) <;> first | omega | exact hq)) 8 0 σ (by omega) ⟨sw_fJ.rf, hvM, fun e he => by omega⟩
  obtain ⟨σ2, ⟨b1, b2, b4⟩, b3⟩ := sd_loopM (β := Nat × (Option Value → sd_Mem → Prop)) (fun i σ' => sw_fJ σ σ' ∧ sw_vM σ' U ∧ ∀ e, e < 8 → σ'.1 294 e = nI (sw_cn f e i)) (fun q i σ' => ∀ l7, sd_Go (sd_E1 L xs fm) (q.1 + 61) y_M_joyBy 30 [.ref 271, .int (nI p), .ref a, .int (nI g), .int (nI m), .int (sw_js (sw_w1 A U p) f i), .int (nI i), l7] [] σ' q.2) m (by
    intro i σ' hi ⟨j1, j2, j3⟩
    have f8 := hf8 i
    have hc := sw_cn_le f (f i) i
    obtain ⟨σ3, c1, c4, c5, c2⟩ := c_M_joyOne (L := L) (xs := xs) (fm := fm) (p := p) (e := f i) (i := i) (r := sw_cn f (f i) i) (j1.Y hY) hA j2 hU hvT (hf8 i) hp (by omega) (by omega)
    refine ⟨sd_wI σ3 294 (f i) (nI (sw_cn f (f i) i + 1)), ⟨(j1.tr c1).tr ⟨fun e a b c d f => by rw [wI_c c], fun j hj => by rw [wI_c (by decide)], fun _ _ _ => rfl⟩, c5.fr (by rw [wI_c (by decide)]) (by rw [wI_c (by decide)]) (fun k hk => wI_c (by omega)), fun e he => ?_⟩, fun q hq l7 => ?_⟩
    · rw [wI_1, sw_cn_s, c4]
      by_cases hef : e = f i
      · rw [if_pos ⟨rfl, hef⟩, if_pos hef.symm, hef]
      · rw [if_neg (by omega), if_neg (fun w => hef w.symm), Nat.add_zero]; exact j3 e he
    · have fa : σ'.1 a (g + i) = nI (f i) := by rw [j1.1 a ha2.1 ha2.2.1 ha2.2.2.1 ha2.2.2.2.1 ha2.2.2.2.2]; exact hf i hi
      have f16 := j3 (f i) f8
      have f16' : σ3.1 294 (f i) = nI (sw_cn f (f i) i) := by rw [c4]; exact f16
      have c2' := fun Q => c2 q.1 Q
      have hq2 := hq (.int (nI (f i)))
      have ejs : sw_js (sw_w1 A U p) f (i + 1) = sw_js (sw_w1 A U p) f i + sw_w1 A U p (f i) i (sw_cn f (f i) i) := rfl
      rw [ejs] at hq2
      rw [z_M_joyBy_30]
      simp (disch := first | exact sd_cr | exact sd_ci | exact sd_cu | exact sd_cl9 | assumption | omega | exact t_294) only [z_M_joyBy_32, z_M_joyBy_34, z_M_joyBy_37, z_M_joyBy_38, z_M_joyBy_39, z_M_joyBy_41, z_M_joyBy_42, z_M_joyBy_43, z_M_joyBy_45, z_M_joyBy_47, z_M_joyBy_48, z_M_joyBy_49, z_M_joyBy_51, z_M_joyBy_53, z_M_joyBy_54, z_M_joyBy_57, z_M_joyBy_59, z_M_joyBy_60, z_M_joyBy_63, z_M_joyBy_64, z_M_joyBy_66, z_M_joyBy_67, z_M_joyBy_70, z_M_joyBy_72, z_M_joyBy_73, z_M_joyBy_74, z_M_joyBy_75, z_M_joyBy_76, z_M_joyBy_77, z_M_joyBy_80, false_and, and_false, if_true, if_false, Decidable.not_not, sd_ci, sd_cr, sd_cl9, sd_cu, sd_cat0, sd_cat1, sd_rfS, sd_n01, sd_n11, sd_n1, sd_n10, sd_n00, sd_b01, sd_b0, true_and, and_true, and_self, not_true_eq_false, not_false_eq_true, false_implies, true_implies, implies_true, or_true, true_or, or_false, false_or, Option.toList_some, Option.toList_none, List.cons_append, List.nil_append, Nat.reduceAdd, Nat.reduceLeDiff, nz_lt, nz_le, nz_cl, nz_in, nz_add, h_271, t_272, n_272, t_273, n_273, t_274, n_274, t_275, n_275, t_276, n_276, t_277, n_277, t_278, n_278, t_279, n_279, t_280, n_280, t_281, n_281, t_282, n_282, t_283, n_283, t_284, n_284, t_285, n_285, t_286, n_286, t_287, n_287, t_288, n_288, t_289, n_289, t_290, n_290, t_291, n_291, t_292, n_292, t_293, n_293, t_294, n_294, t_295, n_295, t_296, n_296, t_297, n_297, t_298, n_298, t_299, n_299, t_300, n_300, t_301, n_301, r_271_1, r_271_2, r_271_3, r_271_4, r_271_15, r_271_16, r_271_18, r_271_19, r_271_20, r_271_21, r_271_22, r_271_23, r_271_24, r_271_25, r_271_26, r_271_34, r_271_35, r_271_38, r_271_39, r_271_40, r_271_42, r_271_45, r_271_46, r_271_47, r_271_48, r_271_49, r_271_50, r_271_53, r_271_54, r_271_55, r_271_57, ha, fa, f16, f16', c2']
      ((repeat' first | (refine And.intro ?_ ?_) | (intro _)) <;> first | omega | exact hq2)) m 0 σ1 (by omega) ⟨a1, a2, fun e he => a4 e he⟩
  refine ⟨σ2, b1, b2, fun d Q => sd_Call.iff (fun Q hq => ?_) Q⟩
  rw [sd_Call.start (ls := [.ref 271, .int (nI p), .ref a, .int (nI g), .int (nI m), sd_un, sd_un, sd_un]) m_M_joyBy (by decide) (Nat.le_of_ble_eq_true rfl) rfl]
  simp (disch := first | exact sd_cr | exact sd_ci | exact sd_cu | exact sd_cl9 | assumption | omega | exact t_285 | exact t_283 | exact t_278 | exact t_281 | exact t_276 | exact t_274 | exact t_275 | exact t_277 | exact t_279 | exact t_280 | exact t_282 | exact t_284 | exact t_286 | exact t_287 | exact t_288 | exact t_289 | exact t_290 | exact t_291 | exact t_292 | exact t_293 | exact t_294 | exact t_295 | exact t_296 | exact t_297 | exact t_298 | exact t_299 | exact t_300) only [z_M_joyBy_0, z_M_joyBy_1, false_and, and_false, if_true, if_false, Decidable.not_not, sd_ci, sd_cr, sd_cl9, sd_cu, sd_cat0, sd_cat1, sd_rfS, sd_n01, sd_n11, sd_n1, sd_n10, sd_n00, sd_b01, sd_b0, true_and, and_true, and_self, not_true_eq_false, not_false_eq_true, false_implies, true_implies, implies_true, or_true, true_or, or_false, false_or, Option.toList_some, Option.toList_none, List.cons_append, List.nil_append, Nat.reduceAdd, Nat.reduceLeDiff]
  refine a3 ((d, Q), sd_un, sd_un) ?_
  show sd_Go (sd_E1 L xs fm) (d + 61) y_M_joyBy 3 [.ref 271, .int (nI p), .ref a, .int (nI g), .int (nI m), .int (nI 8), sd_un, sd_un] [] σ1 Q
  rw [z_M_joyBy_3]
  simp (disch := first | exact sd_cr | exact sd_ci | exact sd_cu | exact sd_cl9 | assumption | omega | exact t_285 | exact t_283 | exact t_278 | exact t_281 | exact t_276 | exact t_274 | exact t_275 | exact t_277 | exact t_279 | exact t_280 | exact t_282 | exact t_284 | exact t_286 | exact t_287 | exact t_288 | exact t_289 | exact t_290 | exact t_291 | exact t_292 | exact t_293 | exact t_294 | exact t_295 | exact t_296 | exact t_297 | exact t_298 | exact t_299 | exact t_300) only [z_M_joyBy_5, z_M_joyBy_7, z_M_joyBy_24, z_M_joyBy_25, z_M_joyBy_27, z_M_joyBy_28, false_and, and_false, if_true, if_false, Decidable.not_not, sd_ci, sd_cr, sd_cl9, sd_cu, sd_cat0, sd_cat1, sd_rfS, sd_n01, sd_n11, sd_n1, sd_n10, sd_n00, sd_b01, sd_b0, true_and, and_true, and_self, not_true_eq_false, not_false_eq_true, false_implies, true_implies, implies_true, or_true, true_or, or_false, false_or, Option.toList_some, Option.toList_none, List.cons_append, List.nil_append, Nat.reduceAdd, Nat.reduceLeDiff, nz_sub, nz_lt0, nz_ge0, nz_le0, nz_gt0, nz_eq0, nz_eq1, nz_lt, nz_le, nz_eq, nz_cl, nz_in, nz_add, nz_mul, nz_m1, nz_m1', Nat.reduceMul, Nat.reduceSub, Nat.reduceLT, Nat.reduceEqDiff, not_false_eq_true, false_implies, true_implies, true_and, and_true, h_271, t_272, n_272, t_273, n_273, t_274, n_274, t_275, n_275, t_276, n_276, t_277, n_277, t_278, n_278, t_279, n_279, t_280, n_280, t_281, n_281, t_282, n_282, t_283, n_283, t_284, n_284, t_285, n_285, t_286, n_286, t_287, n_287, t_288, n_288, t_289, n_289, t_290, n_290, t_291, n_291, t_292, n_292, t_293, n_293, t_294, n_294, t_295, n_295, t_296, n_296, t_297, n_297, t_298, n_298, t_299, n_299, t_300, n_300, t_301, n_301, r_271_1, r_271_2, r_271_3, r_271_4, r_271_15, r_271_16, r_271_18, r_271_19, r_271_20, r_271_21, r_271_22, r_271_23, r_271_24, r_271_25, r_271_26, r_271_34, r_271_35, r_271_38, r_271_39, r_271_40, r_271_42, r_271_45, r_271_46, r_271_47, r_271_48, r_271_49, r_271_50, r_271_53, r_271_54, r_271_55, r_271_57]
  ((repeat' first | (refine And.intro ?_ ?_) | (intro _)) <;> try omega)
  refine b3 (d, Q) (fun l7 => ?_) _
  show sd_Go (sd_E1 L xs fm) (d + 61) y_M_joyBy 30 [.ref 271, .int (nI p), .ref a, .int (nI g), .int (nI m), .int (sw_js (sw_w1 A U p) f m), .int (nI m), l7] [] σ2 Q
  rw [z_M_joyBy_30]
  simp (disch := first | exact sd_cr | exact sd_ci | exact sd_cu | exact sd_cl9 | assumption | omega | exact t_285 | exact t_283 | exact t_278 | exact t_281 | exact t_276 | exact t_274 | exact t_275 | exact t_277 | exact t_279 | exact t_280 | exact t_282 | exact t_284 | exact t_286 | exact t_287 | exact t_288 | exact t_289 | exact t_290 | exact t_291 | exact t_292 | exact t_293 | exact t_294 | exact t_295 | exact t_296 | exact t_297 | exact t_298 | exact t_299 | exact t_300) only [z_M_joyBy_32, z_M_joyBy_34, z_M_joyBy_83, z_M_joyBy_86, z_M_joyBy_89, z_M_joyBy_91, z_M_joyBy_94, z_M_joyBy_97, false_and, and_false, if_true, if_false, Decidable.not_not, sd_ci, sd_cr, sd_cl9, sd_cu, sd_cat0, sd_cat1, sd_rfS, sd_n01, sd_n11, sd_n1, sd_n10, sd_n00, sd_b01, sd_b0, true_and, and_true, and_self, not_true_eq_false, not_false_eq_true, false_implies, true_implies, implies_true, or_true, true_or, or_false, false_or, Option.toList_some, Option.toList_none, List.cons_append, List.nil_append, Nat.reduceAdd, Nat.reduceLeDiff, nz_lt, nz_le, h_271, t_272, n_272, t_273, n_273, t_274, n_274, t_275, n_275, t_276, n_276, t_277, n_277, t_278, n_278, t_279, n_279, t_280, n_280, t_281, n_281, t_282, n_282, t_283, n_283, t_284, n_284, t_285, n_285, t_286, n_286, t_287, n_287, t_288, n_288, t_289, n_289, t_290, n_290, t_291, n_291, t_292, n_292, t_293, n_293, t_294, n_294, t_295, n_295, t_296, n_296, t_297, n_297, t_298, n_298, t_299, n_299, t_300, n_300, t_301, n_301, r_271_1, r_271_2, r_271_3, r_271_4, r_271_15, r_271_16, r_271_18, r_271_19, r_271_20, r_271_21, r_271_22, r_271_23, r_271_24, r_271_25, r_271_26, r_271_34, r_271_35, r_271_38, r_271_39, r_271_40, r_271_42, r_271_45, r_271_46, r_271_47, r_271_48, r_271_49, r_271_50, r_271_53, r_271_54, r_271_55, r_271_57, sw_wi_M]
  ((repeat' first | (refine And.intro ?_ ?_) | (intro _)) <;> first | omega | exact hq)
end SDAG
