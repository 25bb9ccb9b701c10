/-! sentence, the reference; both -/
section SDAP
variable {L : Nat} {xs : Nat → Int32} {fm : Option Nat} {A W : sw_T} {B T : Nat} {V : Nat → sw_T} {im : Nat} {I U : sw_T} {σ σ1 σ2 : sd_Mem} {c : Nat}
abbrev sw_lc (p e l z : Nat) (a b c d f g h : Value) : List Value := [.ref 271, .int (nI p), .int (nI e), .int (nI l), .int (nI z), a, b, c, d, f, g, h]
/-- JOY of all rows -/
theorem l_M_free {p e l z : Nat} (hm : sw_mI σ A W T V im I) (hvM : sw_vM σ U) (hU : sw_pU U) (hvT : sw_vT L xs fm U) (hp : p < A 0 0 0) (hl : 0 < l ∧ l ≤ 3) : ∃ σ', sw_fY σ σ' ∧ sw_vM σ' U ∧ (∀ x, x < 8 ^ l → σ'.1 297 x = sw_hv A U p l x) ∧ ∀ (d : Nat) Q, (∀ l5, sd_Go (sd_E1 L xs fm) (d + 69) y_M_sentence 95 (sw_lc p e l z l5 sd_un sd_un sd_un sd_un sd_un sd_un) [] σ' Q) → sd_Go (sd_E1 L xs fm) (d + 69) y_M_sentence 55 (sw_lc p e l z (.int (nI 0)) sd_un sd_un sd_un sd_un sd_un sd_un) [] σ Q := by
  have hA := hm.1.2.2.2.1
  have bP := hA.2.1
  have h8 : 8 ^ l ≤ 512 := Nat.le_trans (Nat.pow_le_pow_right (by decide) hl.2) (by decide)
  obtain ⟨σ2, ⟨g1, g2, g4⟩, g3⟩ := sd_loopM (β := Nat × (Option Value → sd_Mem → Prop)) (fun x σ' => sw_fY σ σ' ∧ sw_vM σ' U ∧ ∀ y, y < x → σ'.1 297 y = sw_hv A U p l y) (fun q x σ' => sd_Go (sd_E1 L xs fm) (q.1 + 69) y_M_sentence 55 (sw_lc p e l z (.int (nI x)) sd_un sd_un sd_un sd_un sd_un sd_un) [] σ' q.2) (8 ^ l) (by
    intro x σ' hx ⟨j1, j2, j3⟩
    have hm' := j1.mI hm
    obtain ⟨τ, hτ⟩ : ∃ τ, τ = sd_wA σ' 293 (sw_tr (σ'.1 293) l x) := ⟨_, rfl⟩
    have hτc : ∀ e, e ≠ 293 → τ.1 e = σ'.1 e := fun e he => by rw [hτ, wA_c he]
    have fτ : sw_fY σ' τ := by rw [hτ]; exact sw_fY.rf.wA (by unfold sw_ok3; omega) (by decide)
    have vτ : sw_vM τ U := j2.fr (by rw [hτc 271 (by decide)]) (by rw [hτc 271 (by decide)]) (fun k hk => hτc k (by omega))
    have hmτ := fτ.mI hm'
    obtain ⟨σ3, c1, c3, c2⟩ := c_M_joyBy (L := L) (xs := xs) (fm := fm) (σ := τ) (a := 293) (g := 0) (m := l) (p := p) (f := sw_dg l x) hmτ.1.1 hA vτ hU hvT (by omega) t_293 (by rw [n_293]; omega) (by decide) (by decide) (by omega) (fun k hk => by rw [Nat.zero_add, hτ, wA_k, sw_tr_lt hk]) (fun k => sw_dg_lt l x k)
    have e297 : σ3.1 297 = σ'.1 297 := by rw [c1.1 297 (by decide) (by decide) (by decide) (by decide) (by decide), hτc 297 (by decide)]
    refine ⟨sd_wI σ3 297 x (sw_hv A U p l x), ⟨((j1.tr fτ).tr c1.fY).wI (by unfold sw_ok3; omega) (by decide), c3.fr (by rw [wI_c (by decide)]) (by rw [wI_c (by decide)]) (fun k hk => wI_c (by omega)), fun y hy => ?_⟩, fun q hq => ?_⟩
    · rw [wI_1]
      by_cases hyx : y = x
      · rw [if_pos ⟨rfl, hyx⟩, hyx]
      · rw [if_neg (by omega), e297]; exact j3 y (by omega)
    · have cl := fun Q => c_M_lay2 (L := L) (xs := xs) (fm := fm) (σ := σ') (d := q.1 + 68) (Q := Q) (show l ≤ 5 by omega) hx
      rw [← hτ] at cl
      have c2' := fun Q => c2 (q.1 + 7) Q
      unfold sw_hv at hq
      rw [z_M_sentence_55]
      simp (disch := first | exact sd_cr | exact sd_ci | exact sd_cu | exact sd_cl9 | assumption | omega | exact t_285 | exact t_283 | exact t_278 | exact t_281 | exact t_276 | exact t_274 | exact t_275 | exact t_277 | exact t_279 | exact t_280 | exact t_282 | exact t_284 | exact t_286 | exact t_287 | exact t_288 | exact t_289 | exact t_290 | exact t_291 | exact t_292 | exact t_293 | exact t_294 | exact t_295 | exact t_296 | exact t_297 | exact t_298 | exact t_299 | exact t_300) only [z_M_sentence_57, z_M_sentence_58, z_M_sentence_61, z_M_sentence_64, z_M_sentence_65, z_M_sentence_67, z_M_sentence_68, z_M_sentence_71, z_M_sentence_72, z_M_sentence_75, z_M_sentence_77, z_M_sentence_78, z_M_sentence_79, z_M_sentence_80, z_M_sentence_83, z_M_sentence_84, z_M_sentence_85, z_M_sentence_88, z_M_sentence_89, z_M_sentence_92, false_and, and_false, if_true, if_false, Decidable.not_not, sd_ci, sd_cr, sd_cl9, sd_cu, sd_cat0, sd_cat1, sd_rfS, sd_n01, sd_n11, sd_n1, sd_n10, sd_n00, sd_b01, sd_b0, true_and, and_true, and_self, not_true_eq_false, not_false_eq_true, false_implies, true_implies, implies_true, or_true, true_or, or_false, false_or, Option.toList_some, Option.toList_none, List.cons_append, List.nil_append, Nat.reduceAdd, Nat.reduceLeDiff, nz_lt, nz_le, nz_cl, nz_in, nz_add, h_271, t_272, n_272, t_273, n_273, t_274, n_274, t_275, n_275, t_276, n_276, t_277, n_277, t_278, n_278, t_279, n_279, t_280, n_280, t_281, n_281, t_282, n_282, t_283, n_283, t_284, n_284, t_285, n_285, t_286, n_286, t_287, n_287, t_288, n_288, t_289, n_289, t_290, n_290, t_291, n_291, t_292, n_292, t_293, n_293, t_294, n_294, t_295, n_295, t_296, n_296, t_297, n_297, t_298, n_298, t_299, n_299, t_300, n_300, t_301, n_301, r_271_1, r_271_2, r_271_3, r_271_4, r_271_15, r_271_16, r_271_18, r_271_19, r_271_20, r_271_21, r_271_22, r_271_23, r_271_24, r_271_25, r_271_26, r_271_34, r_271_35, r_271_38, r_271_39, r_271_40, r_271_42, r_271_45, r_271_46, r_271_47, r_271_48, r_271_49, r_271_50, r_271_53, r_271_54, r_271_55, r_271_57, c_M_size (show l ≤ 5 by omega), cl, c2']
      ((repeat' first | (refine And.intro ?_ ?_) | (intro _)) <;> first | omega | exact hq)) (8 ^ l) 0 σ (by omega) ⟨sw_fY.rf, hvM, fun y hy => by omega⟩
  refine ⟨σ2, g1, g2, g4, fun d Q hq => ?_⟩
  refine g3 (d, Q) ?_
  have hq := hq (.int (nI (8 ^ l)))
  show sd_Go (sd_E1 L xs fm) (d + 69) y_M_sentence 55 (sw_lc p e l z (.int (nI (8 ^ l))) sd_un sd_un sd_un sd_un sd_un sd_un) [] σ2 Q
  rw [z_M_sentence_55]
  simp (disch := first | exact sd_cr | exact sd_ci | exact sd_cu | exact sd_cl9 | assumption | omega | exact t_285 | exact t_283 | exact t_278 | exact t_281 | exact t_276 | exact t_274 | exact t_275 | exact t_277 | exact t_279 | exact t_280 | exact t_282 | exact t_284 | exact t_286 | exact t_287 | exact t_288 | exact t_289 | exact t_290 | exact t_291 | exact t_292 | exact t_293 | exact t_294 | exact t_295 | exact t_296 | exact t_297 | exact t_298 | exact t_299 | exact t_300) only [z_M_sentence_57, z_M_sentence_58, z_M_sentence_61, false_and, and_false, if_true, if_false, Decidable.not_not, sd_ci, sd_cr, sd_cl9, sd_cu, sd_cat0, sd_cat1, sd_rfS, sd_n01, sd_n11, sd_n1, sd_n10, sd_n00, sd_b01, sd_b0, true_and, and_true, and_self, not_true_eq_false, not_false_eq_true, false_implies, true_implies, implies_true, or_true, true_or, or_false, false_or, Option.toList_some, Option.toList_none, List.cons_append, List.nil_append, Nat.reduceAdd, Nat.reduceLeDiff, nz_lt, nz_le, h_271, t_272, n_272, t_273, n_273, t_274, n_274, t_275, n_275, t_276, n_276, t_277, n_277, t_278, n_278, t_279, n_279, t_280, n_280, t_281, n_281, t_282, n_282, t_283, n_283, t_284, n_284, t_285, n_285, t_286, n_286, t_287, n_287, t_288, n_288, t_289, n_289, t_290, n_290, t_291, n_291, t_292, n_292, t_293, n_293, t_294, n_294, t_295, n_295, t_296, n_296, t_297, n_297, t_298, n_298, t_299, n_299, t_300, n_300, t_301, n_301, r_271_1, r_271_2, r_271_3, r_271_4, r_271_15, r_271_16, r_271_18, r_271_19, r_271_20, r_271_21, r_271_22, r_271_23, r_271_24, r_271_25, r_271_26, r_271_34, r_271_35, r_271_38, r_271_39, r_271_40, r_271_42, r_271_45, r_271_46, r_271_47, r_271_48, r_271_49, r_271_50, r_271_53, r_271_54, r_271_55, r_271_57, c_M_size (show l ≤ 5 by omega)]
  ((repeat' first | (refine And.intro ?_ ?_) | (intro _)) <;> first | omega | exact hq)
/-- the best row under one vow -/
theorem l_M_row0 {p e l z kd k : Nat} {v : Nat → Int32} {l5 l6 l11 : Value} (hl : 0 < l ∧ l ≤ 3) (hkd : kd < 6) (hk : k < 256) (hv : ∀ x, x < 8 ^ l → σ.1 297 x = v x) (f : Nat → Int32) : ∃ f', ∀ (d : Nat) Q, (∀ l10, sd_Go (sd_E1 L xs fm) (d + 69) y_M_sentence 208 (sw_lc p e l z l5 l6 (.int (nI kd)) (.int (nI k)) (.int (sd_o (sw_b1 v l kd (k / 32) (k / 4 % 8) (k % 4)).1)) l10 l11) [] (sd_wA σ 293 f') Q) → l5.category = 1 → l6.category = 1 → sd_Go (sd_E1 L xs fm) (d + 69) y_M_sentence 128 (sw_lc p e l z l5 l6 (.int (nI kd)) (.int (nI k)) (.int (-1)) (.int (nI 0)) l11) [] (sd_wA σ 293 f) Q := by
  have h8 : 8 ^ l ≤ 512 := Nat.le_trans (Nat.pow_le_pow_right (by decide) hl.2) (by decide)
  have k1 : k / 32 < 8 := by omega
  have k2 : k / 4 % 8 < 8 := Nat.mod_lt _ (by decide)
  have k3 : k % 4 < 4 := Nat.mod_lt _ (by decide)
  have hb := fun n => sw_bs_best (K := sw_kwx l kd (k / 32) (k / 4 % 8) (k % 4)) (v := v) n
  obtain ⟨σ2, ⟨f', hf'⟩, g3⟩ := sd_loopM (β := Nat × (Option Value → sd_Mem → Prop)) (fun x σ' => ∃ f, σ' = sd_wA σ 293 f) (fun q x σ' => l5.category = 1 → l6.category = 1 → sd_Go (sd_E1 L xs fm) (q.1 + 69) y_M_sentence 128 (sw_lc p e l z l5 l6 (.int (nI kd)) (.int (nI k)) (.int (sd_o (sd_fold (sw_bs (sw_kwx l kd (k / 32) (k / 4 % 8) (k % 4)) v) x 0 (none, nI 0)).1)) (.int (nI x)) l11) [] σ' q.2) (8 ^ l) (by
    rintro x σ' hx ⟨f, rfl⟩
    refine ⟨_, ⟨sw_tr f l x, rfl⟩, fun q hq c5 c6 => ?_⟩
    have hq := hq c5 c6
    have hbx := hb x
    have cl := fun Q => c_M_lay (L := L) (xs := xs) (fm := fm) (σ := σ) (d := q.1 + 68) (Q := Q) (f := f) (show l ≤ 5 by omega) hx
    have cb := fun Q => c_M_breaksAt (L := L) (xs := xs) (fm := fm) (d := q.1 + 68) (σ := sd_wA σ 293 (sw_tr f l x)) (Q := Q) (e := 293) (g := 0) (m := l) (f := sw_dg l x) (kd := kd) (a := k / 32) (b := k / 4 % 8) (q := k % 4) (by omega) (by omega) (by omega) (by omega) t_293 (by rw [n_293]; omega) hl.1 (by decide) (fun i hi => by rw [Nat.zero_add, wA_k, sw_tr_lt hi]) (fun i => Nat.lt_trans (sw_dg_lt l x i) (by decide))
    have f297 : (sd_wA σ 293 (sw_tr f l x)).1 297 x = v x := by rw [wA_c (by decide)]; exact hv x hx
    rw [sd_fold_succ, Nat.zero_add] at hq
    generalize sd_fold (sw_bs (sw_kwx l kd (k / 32) (k / 4 % 8) (k % 4)) v) x 0 (none, nI 0) = s at hq hbx ⊢
    obtain ⟨o, mo⟩ := s
    unfold sw_bs sw_kwx at hq
    rw [z_M_sentence_128]
    generalize k / 32 = ka at cb hq k1
    cases o with
    | none =>
      have hm1 : sd_o none = -1 := rfl
      cases ho : sw_pb (sw_dg l x) l kd ka (k / 4 % 8) (k % 4) with
      | none =>
        rw [ho] at cb hq
        rw [if_pos ⟨rfl, Or.inl rfl⟩] at hq
        rw [hm1] at cb
        sorry
      | some t =>
        sorry
    | some w =>
      sorry) (8 ^ l) 0 (sd_wA σ 293 f) (by omega) ⟨f, rfl⟩
  refine ⟨f', fun d Q hq c5 c6 => ?_⟩
  refine g3 (d, Q) (fun c5 c6 => ?_) c5 c6
  rw [← hf'] at hq
  have hq := hq (.int (nI (8 ^ l)))
  show sd_Go (sd_E1 L xs fm) (d + 69) y_M_sentence 128 (sw_lc p e l z l5 l6 (.int (nI kd)) (.int (nI k)) (.int (sd_o (sw_b1 v l kd (k / 32) (k / 4 % 8) (k % 4)).1)) (.int (nI (8 ^ l))) l11) [] σ2 Q
  rw [z_M_sentence_128]
  simp (disch := first | exact sd_cr | exact sd_ci | exact sd_cu | exact sd_cl9 | assumption | omega | exact t_285 | exact t_283 | exact t_278 | exact t_281 | exact t_276 | exact t_274 | exact t_275 | exact t_277 | exact t_279 | exact t_280 | exact t_282 | exact t_284 | exact t_286 | exact t_287 | exact t_288 | exact t_289 | exact t_290 | exact t_291 | exact t_292 | exact t_293 | exact t_294 | exact t_295 | exact t_296 | exact t_297 | exact t_298 | exact t_299 | exact t_300) only [z_M_sentence_130, z_M_sentence_131, z_M_sentence_134, false_and, and_false, if_true, if_false, Decidable.not_not, sd_ci, sd_cr, sd_cl9, sd_cu, sd_cat0, sd_cat1, sd_rfS, sd_n01, sd_n11, sd_n1, sd_n10, sd_n00, sd_b01, sd_b0, true_and, and_true, and_self, not_true_eq_false, not_false_eq_true, false_implies, true_implies, implies_true, or_true, true_or, or_false, false_or, Option.toList_some, Option.toList_none, List.cons_append, List.nil_append, Nat.reduceAdd, Nat.reduceLeDiff, nz_lt, nz_le, h_271, t_272, n_272, t_273, n_273, t_274, n_274, t_275, n_275, t_276, n_276, t_277, n_277, t_278, n_278, t_279, n_279, t_280, n_280, t_281, n_281, t_282, n_282, t_283, n_283, t_284, n_284, t_285, n_285, t_286, n_286, t_287, n_287, t_288, n_288, t_289, n_289, t_290, n_290, t_291, n_291, t_292, n_292, t_293, n_293, t_294, n_294, t_295, n_295, t_296, n_296, t_297, n_297, t_298, n_298, t_299, n_299, t_300, n_300, t_301, n_301, r_271_1, r_271_2, r_271_3, r_271_4, r_271_15, r_271_16, r_271_18, r_271_19, r_271_20, r_271_21, r_271_22, r_271_23, r_271_24, r_271_25, r_271_26, r_271_34, r_271_35, r_271_38, r_271_39, r_271_40, r_271_42, r_271_45, r_271_46, r_271_47, r_271_48, r_271_49, r_271_50, r_271_53, r_271_54, r_271_55, r_271_57, c_M_size (show l ≤ 5 by omega)]
  ((repeat' first | (refine And.intro ?_ ?_) | (intro _)) <;> first | omega | exact hq)
end SDAP
