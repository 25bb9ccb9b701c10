/-! a taste, in both -/
section SDBR
variable {L : Nat} {xs : Nat → Int32} {fm : Option Nat} {b : Nat → Nat} {n : Nat}
/-- behind a clause -/
theorem ty_more (hn : n ≤ 240) (hb : ∀ i, i < n → b i < 256) : ∀ m a, n - a = m → a ≤ n → 0 < a → ∃ (e : Nat) (r : Option (List Nat)) (V : (Nat → Int32) → Int32), (∀ σ t s i, ty_X σ b n a t s → s.length ≤ a → 2 * i + 1 ≤ a → ∃ σ', ty_f σ σ' t ∧ (∀ l, r = some l → ty_X σ' b n e t (s ++ l)) ∧ ∀ D Q, 52 ≤ D → Q (some (.int (if r.isSome = true then -1 else nI e))) σ' → sd_Go (sd_E1 L xs fm) D y_TasteReader_read 48 [.ref 17, .int (nI i)] [] σ Q) ∧ (∀ σ t o ℓ h x (l1 l2 l3 : Value), ty_l ℓ → ty_M σ t o b n a 0 ℓ → σ.1 271 13 = nI 121 → σ.1 271 17 = nI h → h ≤ 1 → σ.1 271 14 = x → (h = 0 → x = nI 0) → ∃ σ', ty_g2 σ σ' ∧ σ'.1 271 11 = (if r.isSome = true then -1 else nI e) ∧ (r.isSome = true → σ'.1 271 14 = if h = 1 then x else V ℓ) ∧ ∀ D Q, 52 ≤ D → Q none σ' → sd_Go (sd_E1 L xs fm) D y_M_goThrough 32 [.ref 271, l1, l2, l3] [] σ Q) ∧ a ≤ e ∧ e ≤ n ∧ ∀ l, r = some l → a + l.length ≤ e ∧ (∀ w, w ∈ l → sw_spk w) ∧ ∀ ℓ, ty_l ℓ → ∀ sp sn i st, ty_at sp i l → i + l.length = sn → ty_R sp sn ℓ i st = V ℓ := by
  refine fun m => Nat.strongRecOn m ?_
  intro m ih a hm ha ha0
  have hp := tp_ps_le (b := b) ha
  have hpi := tp_ps_i (b := b) ha
  have hai := tp_at_i (b := b) ha
  by_cases hend : tp_ps b n a < n
  · have hbp := hb _ hend
    have ea : tp_at b n a = nI (b (tp_ps b n a)) := if_pos hend
    have hne : ¬ tp_at b n a = -1 := by rw [ea]; exact fun q => ((nz_m1 (by omega)).mp q).elim
    by_cases hs : tk_T b n a 59
    · have e59 : tp_at b n a = nI 59 := (tk_at hb (by decide)).mpr hs
      have ete : tk_e b n (tp_ps b n a) 59 = tp_ps b n a + 1 := by
        unfold tk_e tk_T
        rw [hpi]
        exact if_pos hs
      have htT : tk_T b n (tp_ps b n a) 59 := by
        unfold tk_T
        rw [hpi]
        exact hs
      obtain ⟨e1, r1, c1, v1, s1, s2, o1, o2, o3⟩ := ty_clause (L := L) (xs := xs) (fm := fm) hn hb (show tp_ps b n a + 1 ≤ n by omega)
      have hXa : ∀ (σ : sd_Mem) t s i, ty_X σ b n a t s → 2 * i + 1 ≤ a → ∀ D Q, 52 ≤ D → (sd_Call (sd_E1 L xs fm) D y_TasteReader_readClause [.ref 17] (sd_wI σ 1 2 (nI (tp_ps b n a + 1))) fun v σ2 => sd_Go (sd_E1 L xs fm) D y_TasteReader_read 37 [.ref 17, .int (nI (i + 1))] (v.toList ++ []) σ2 Q) → sd_Go (sd_E1 L xs fm) D y_TasteReader_read 48 [.ref 17, .int (nI i)] [] σ Q := by
        intro σ t s i h hi D Q hD hq
        have cp := fun Q => k_peek (L := L) (xs := xs) (fm := fm) (D := D) (Q := Q) h.1 (by omega)
        rw [e59] at cp
        have ct := fun Q => k_take (L := L) (xs := xs) (fm := fm) (c := 59) (D := D) (Q := Q) (h.1.at (a' := tp_ps b n a) hp.2) (by decide) (by omega)
        rw [sd_bT htT, ete, wI_wI] at ct
        have hi2 : ¬ 240 ≤ i + 1 := by omega
        simp (disch := first | exact sd_cr | exact sd_ci | exact sd_cu | exact sd_cl9 | assumption | omega | exact t_259 | exact t_260 | exact t_261 | exact t_262 | exact t_263 | exact t_264 | exact t_254 | exact t_255 | exact t_256 | exact t_257 | exact t_266 | exact t_267 | exact t_268 | exact t_269 | exact t_270 | exact t_252 | exact t_240 | exact t_246 | exact t_2 | exact t_4 | exact t_5 | exact t_13 | exact t_14 | exact t_15 | exact t_16 | exact Or.inl t_39 | exact Or.inr t_7) only [z_TasteReader_read_26, z_TasteReader_read_27, z_TasteReader_read_30, z_TasteReader_read_33, z_TasteReader_read_34, z_TasteReader_read_48, z_TasteReader_read_49, z_TasteReader_read_52, z_TasteReader_read_55, z_TasteReader_read_56, z_TasteReader_read_59, z_TasteReader_read_60, z_TasteReader_read_61, z_TasteReader_read_62, z_TasteReader_read_65, z_TasteReader_read_67, z_TasteReader_read_70, z_TasteReader_read_73, z_TasteReader_read_74, z_TasteReader_read_77, z_TasteReader_read_80, z_TasteReader_read_81, z_TasteReader_read_84, false_and, and_false, if_true, if_false, Decidable.not_not, sd_ci, sd_cr, sd_cl9, sd_cu, sd_cat0, sd_cat1, sd_rfS, sd_n01, sd_n11, sd_n1, sd_n10, sd_n00, sd_b01, sd_b0, true_and, and_true, and_self, not_true_eq_false, not_false_eq_true, false_implies, true_implies, implies_true, or_true, true_or, or_false, false_or, Option.toList_some, Option.toList_none, List.cons_append, List.nil_append, Nat.reduceAdd, Nat.reduceLeDiff, nz_sub, nz_lt0, nz_ge0, nz_le0, nz_gt0, nz_eq0, nz_eq1, nz_lt, nz_le, nz_eq, nz_cl, nz_in, nz_add, nz_mul, nz_m1, nz_m1', Nat.reduceMul, Nat.reduceSub, Nat.reduceLT, Nat.reduceEqDiff, not_false_eq_true, false_implies, true_implies, true_and, and_true, h_0, h_1, t_2, n_2, h_3, t_4, n_4, t_5, n_5, h_6, t_7, n_7, t_8, n_8, t_9, n_9, t_10, n_10, t_11, n_11, t_12, n_12, t_13, n_13, t_14, n_14, t_15, n_15, t_16, n_16, h_17, h_18, t_19, n_19, t_20, n_20, t_21, n_21, t_22, n_22, h_28, t_29, n_29, t_30, n_30, t_31, n_31, t_32, n_32, h_38, t_39, n_39, t_240, n_240, t_246, n_246, t_252, n_252, h_253, t_254, n_254, t_255, n_255, t_256, n_256, t_257, n_257, h_258, t_259, n_259, t_260, n_260, t_261, n_261, t_262, n_262, t_263, n_263, t_264, n_264, h_265, t_266, n_266, t_267, n_267, t_268, n_268, t_269, n_269, t_270, n_270, r_0_0, r_0_1, r_0_2, r_0_3, r_0_6, r_0_7, r_0_8, r_0_9, r_0_11, r_0_12, r_0_13, r_0_14, r_0_15, r_1_0, r_3_0, r_3_1, r_3_2, r_6_0, r_6_1, r_6_4, r_6_5, r_6_7, r_7_0, r_7_1, r_7_2, r_7_3, r_7_4, r_17_0, r_17_1, r_18_1, r_18_2, r_18_3, r_18_4, r_18_6, r_28_1, r_28_2, r_28_3, r_28_4, r_28_6, r_38_0, r_253_0, r_253_1, r_253_2, r_253_3, r_258_0, r_258_1, r_258_3, r_258_4, r_258_6, r_258_8, r_265_0, r_265_1, r_265_3, r_265_4, r_265_5, r_0_4, r_0_5, r_17_0, cp, ct, hi2]
        exact hq
      have hMa : ∀ (σ : sd_Mem) t o ℓ (l1 l2 l3 : Value), ty_M σ t o b n a 0 ℓ → ∀ D Q, 52 ≤ D → (sd_Call (sd_E1 L xs fm) D y_M_clause [.ref 271] (sd_wI σ 271 10 (nI (tp_ps b n a + 1))) fun v σ2 => sd_Go (sd_E1 L xs fm) D y_M_goThrough 63 [.ref 271, l1, l2, l3] (v.toList ++ []) σ2 Q) → sd_Go (sd_E1 L xs fm) D y_M_goThrough 32 [.ref 271, l1, l2, l3] [] σ Q := by
        intro σ t o ℓ l1 l2 l3 h D Q hD hq
        have hf := h.2.1
        have cl := fun Q => k_look (L := L) (xs := xs) (fm := fm) (D := D) (Q := Q) h.1 (by omega)
        rw [e59] at cl
        simp (disch := first | exact sd_cr | exact sd_ci | exact sd_cu | exact sd_cl9 | assumption | omega | exact t_285 | exact t_283 | exact t_278 | exact t_281 | exact t_276 | exact t_274 | exact t_275 | exact t_277 | exact t_279 | exact t_280 | exact t_282 | exact t_284 | exact t_286 | exact t_287 | exact t_288 | exact t_289 | exact t_290 | exact t_291 | exact t_292 | exact t_293 | exact t_294 | exact t_295 | exact t_296 | exact t_297 | exact t_298 | exact t_299 | exact t_300) only [z_M_goThrough_32, z_M_goThrough_33, z_M_goThrough_36, z_M_goThrough_37, z_M_goThrough_40, z_M_goThrough_41, z_M_goThrough_44, z_M_goThrough_46, z_M_goThrough_49, z_M_goThrough_50, z_M_goThrough_51, z_M_goThrough_54, z_M_goThrough_55, z_M_goThrough_56, z_M_goThrough_59, z_M_goThrough_60, false_and, and_false, if_true, if_false, Decidable.not_not, sd_ci, sd_cr, sd_cl9, sd_cu, sd_cat0, sd_cat1, sd_rfS, sd_n01, sd_n11, sd_n1, sd_n10, sd_n00, sd_b01, sd_b0, true_and, and_true, and_self, not_true_eq_false, not_false_eq_true, false_implies, true_implies, implies_true, or_true, true_or, or_false, false_or, Option.toList_some, Option.toList_none, List.cons_append, List.nil_append, Nat.reduceAdd, Nat.reduceLeDiff, nz_sub, nz_lt0, nz_ge0, nz_le0, nz_gt0, nz_eq0, nz_eq1, nz_lt, nz_le, nz_eq, nz_cl, nz_in, nz_add, nz_mul, nz_m1, nz_m1', Nat.reduceMul, Nat.reduceSub, Nat.reduceLT, Nat.reduceEqDiff, not_false_eq_true, false_implies, true_implies, true_and, and_true, h_271, t_272, n_272, t_273, n_273, t_274, n_274, t_275, n_275, t_276, n_276, t_277, n_277, t_278, n_278, t_279, n_279, t_280, n_280, t_281, n_281, t_282, n_282, t_283, n_283, t_284, n_284, t_285, n_285, t_286, n_286, t_287, n_287, t_288, n_288, t_289, n_289, t_290, n_290, t_291, n_291, t_292, n_292, t_293, n_293, t_294, n_294, t_295, n_295, t_296, n_296, t_297, n_297, t_298, n_298, t_299, n_299, t_300, n_300, t_301, n_301, r_271_1, r_271_2, r_271_3, r_271_4, r_271_15, r_271_16, r_271_18, r_271_19, r_271_20, r_271_21, r_271_22, r_271_23, r_271_24, r_271_25, r_271_26, r_271_34, r_271_35, r_271_38, r_271_39, r_271_40, r_271_42, r_271_45, r_271_46, r_271_47, r_271_48, r_271_49, r_271_50, r_271_53, r_271_54, r_271_55, r_271_57, hf, cl, wI_k, wI_wI]
        exact hq
      cases r1 with
      | none =>
        refine ⟨e1, none, fun _ => nI 0, ?_, ?_, by omega, o2, fun l q => by cases q⟩
        · intro σ t s i h hs hi
          obtain ⟨σ1, f1, f2, f3, f4⟩ := s1 (sd_wI σ 1 2 (nI (tp_ps b n a + 1))) t s (h.at (by omega)) (by omega)
          refine ⟨σ1, ty_f.at.tr f1, fun l q => (by cases q), fun D Q hD hq => hXa σ t s i h hi D Q hD ((f4 D _ (by omega)).mpr ?_)⟩
          have e3 := f2.2.2.1
          simp (disch := first | exact sd_cr | exact sd_ci | exact sd_cu | exact sd_cl9 | assumption | omega | exact t_259 | exact t_260 | exact t_261 | exact t_262 | exact t_263 | exact t_264 | exact t_254 | exact t_255 | exact t_256 | exact t_257 | exact t_266 | exact t_267 | exact t_268 | exact t_269 | exact t_270 | exact t_252 | exact t_240 | exact t_246 | exact t_2 | exact t_4 | exact t_5 | exact t_13 | exact t_14 | exact t_15 | exact t_16 | exact Or.inl t_39 | exact Or.inr t_7) only [z_TasteReader_read_37, z_TasteReader_read_40, z_TasteReader_read_41, z_TasteReader_read_44, z_TasteReader_read_47, false_and, and_false, if_true, if_false, Decidable.not_not, sd_ci, sd_cr, sd_cl9, sd_cu, sd_cat0, sd_cat1, sd_rfS, sd_n01, sd_n11, sd_n1, sd_n10, sd_n00, sd_b01, sd_b0, true_and, and_true, and_self, not_true_eq_false, not_false_eq_true, false_implies, true_implies, implies_true, or_true, true_or, or_false, false_or, Option.toList_some, Option.toList_none, List.cons_append, List.nil_append, Nat.reduceAdd, Nat.reduceLeDiff, nz_sub, nz_lt0, nz_ge0, nz_le0, nz_gt0, nz_eq0, nz_eq1, nz_lt, nz_le, nz_eq, nz_cl, nz_in, nz_add, nz_mul, nz_m1, nz_m1', Nat.reduceMul, Nat.reduceSub, Nat.reduceLT, Nat.reduceEqDiff, not_false_eq_true, false_implies, true_implies, true_and, and_true, h_0, h_1, t_2, n_2, h_3, t_4, n_4, t_5, n_5, h_6, t_7, n_7, t_8, n_8, t_9, n_9, t_10, n_10, t_11, n_11, t_12, n_12, t_13, n_13, t_14, n_14, t_15, n_15, t_16, n_16, h_17, h_18, t_19, n_19, t_20, n_20, t_21, n_21, t_22, n_22, h_28, t_29, n_29, t_30, n_30, t_31, n_31, t_32, n_32, h_38, t_39, n_39, t_240, n_240, t_246, n_246, t_252, n_252, h_253, t_254, n_254, t_255, n_255, t_256, n_256, t_257, n_257, h_258, t_259, n_259, t_260, n_260, t_261, n_261, t_262, n_262, t_263, n_263, t_264, n_264, h_265, t_266, n_266, t_267, n_267, t_268, n_268, t_269, n_269, t_270, n_270, r_0_0, r_0_1, r_0_2, r_0_3, r_0_6, r_0_7, r_0_8, r_0_9, r_0_11, r_0_12, r_0_13, r_0_14, r_0_15, r_1_0, r_3_0, r_3_1, r_3_2, r_6_0, r_6_1, r_6_4, r_6_5, r_6_7, r_7_0, r_7_1, r_7_2, r_7_3, r_7_4, r_17_0, r_17_1, r_18_1, r_18_2, r_18_3, r_18_4, r_18_6, r_28_1, r_28_2, r_28_3, r_28_4, r_28_6, r_38_0, r_253_0, r_253_1, r_253_2, r_253_3, r_258_0, r_258_1, r_258_3, r_258_4, r_258_6, r_258_8, r_265_0, r_265_1, r_265_3, r_265_4, r_265_5, r_0_4, r_0_5, r_17_0, e3, Option.isSome_none, Bool.false_eq_true, sd_bF not_false]
          exact hq
        · intro σ t o ℓ h x l1 l2 l3 hl hM h13 h17 hh h14 h0
          have hM1 := hM.at (a' := tp_ps b n a + 1) (by omega)
          obtain ⟨σ1, g1, g2, g3, g4⟩ := s2 _ t o ℓ h x hl hM1 (by rw [wI_o (by decide)]; exact h13) (by rw [wI_o (by decide)]; exact h17) hh (by rw [wI_o (by decide)]; exact h14)
          have g2 := g2 rfl
          refine ⟨σ1, ((ty_g.w (by decide)).two (fun _ _ => trivial)).tr g1, g2, fun q => (by cases q), fun D Q hD hq => hMa σ t o ℓ l1 l2 l3 hM D Q hD ((g4 D _ (by omega)).mpr ?_)⟩
          simp (disch := first | exact sd_cr | exact sd_ci | exact sd_cu | exact sd_cl9 | assumption | omega | exact t_285 | exact t_283 | exact t_278 | exact t_281 | exact t_276 | exact t_274 | exact t_275 | exact t_277 | exact t_279 | exact t_280 | exact t_282 | exact t_284 | exact t_286 | exact t_287 | exact t_288 | exact t_289 | exact t_290 | exact t_291 | exact t_292 | exact t_293 | exact t_294 | exact t_295 | exact t_296 | exact t_297 | exact t_298 | exact t_299 | exact t_300) only [z_M_goThrough_32, z_M_goThrough_33, z_M_goThrough_36, z_M_goThrough_37, z_M_goThrough_63, z_M_goThrough_66, z_M_goThrough_67, z_M_goThrough_70, z_M_goThrough_71, z_M_goThrough_87, false_and, and_false, if_true, if_false, Decidable.not_not, sd_ci, sd_cr, sd_cl9, sd_cu, sd_cat0, sd_cat1, sd_rfS, sd_n01, sd_n11, sd_n1, sd_n10, sd_n00, sd_b01, sd_b0, true_and, and_true, and_self, not_true_eq_false, not_false_eq_true, false_implies, true_implies, implies_true, or_true, true_or, or_false, false_or, Option.toList_some, Option.toList_none, List.cons_append, List.nil_append, Nat.reduceAdd, Nat.reduceLeDiff, nz_sub, nz_lt0, nz_ge0, nz_le0, nz_gt0, nz_eq0, nz_eq1, nz_lt, nz_le, nz_eq, nz_cl, nz_in, nz_add, nz_mul, nz_m1, nz_m1', Nat.reduceMul, Nat.reduceSub, Nat.reduceLT, Nat.reduceEqDiff, not_false_eq_true, false_implies, true_implies, true_and, and_true, h_271, t_272, n_272, t_273, n_273, t_274, n_274, t_275, n_275, t_276, n_276, t_277, n_277, t_278, n_278, t_279, n_279, t_280, n_280, t_281, n_281, t_282, n_282, t_283, n_283, t_284, n_284, t_285, n_285, t_286, n_286, t_287, n_287, t_288, n_288, t_289, n_289, t_290, n_290, t_291, n_291, t_292, n_292, t_293, n_293, t_294, n_294, t_295, n_295, t_296, n_296, t_297, n_297, t_298, n_298, t_299, n_299, t_300, n_300, t_301, n_301, r_271_1, r_271_2, r_271_3, r_271_4, r_271_15, r_271_16, r_271_18, r_271_19, r_271_20, r_271_21, r_271_22, r_271_23, r_271_24, r_271_25, r_271_26, r_271_34, r_271_35, r_271_38, r_271_39, r_271_40, r_271_42, r_271_45, r_271_46, r_271_47, r_271_48, r_271_49, r_271_50, r_271_53, r_271_54, r_271_55, r_271_57, g2]
          exact hq
      | some l1 =>
        obtain ⟨o4, o5, o6, o7⟩ := o3 l1 rfl
        obtain ⟨e2, r2, V2, x2, m2, p1, p2, p3⟩ := ih (n - e1) (by omega) e1 rfl o2 (by omega)
        refine ⟨e2, r2.map (fun l => l1 ++ l), fun ℓ => if c1 ℓ = nI 0 then V2 ℓ else v1 ℓ, ?_, ?_, by omega, p2, fun l q => ?_⟩
        · intro σ t s i h hs hi
          obtain ⟨σ1, f1, f2, f3, f4⟩ := s1 (sd_wI σ 1 2 (nI (tp_ps b n a + 1))) t s (h.at (by omega)) (by omega)
          have hX := f3 l1 rfl
          obtain ⟨σ2, y1, y2, y3⟩ := x2 σ1 t _ (i + 1) hX (by rw [List.length_append]; omega) (by omega)
          refine ⟨σ2, (ty_f.at.tr f1).tr y1, fun l q => ?_, fun D Q hD hq => hXa σ t s i h hi D Q hD ((f4 D _ (by omega)).mpr ?_)⟩
          · cases r2 with
            | none => cases q
            | some l2 =>
              cases q
              have := y2 l2 rfl
              rw [List.append_assoc] at this
              exact this
          · rw [Option.isSome_map] at hq
            have nx := y3 D Q hD hq
            simp (disch := first | exact sd_cr | exact sd_ci | exact sd_cu | exact sd_cl9 | assumption | omega | exact t_259 | exact t_260 | exact t_261 | exact t_262 | exact t_263 | exact t_264 | exact t_254 | exact t_255 | exact t_256 | exact t_257 | exact t_266 | exact t_267 | exact t_268 | exact t_269 | exact t_270 | exact t_252 | exact t_240 | exact t_246 | exact t_2 | exact t_4 | exact t_5 | exact t_13 | exact t_14 | exact t_15 | exact t_16 | exact Or.inl t_39 | exact Or.inr t_7) only [z_TasteReader_read_37, false_and, and_false, if_true, if_false, Decidable.not_not, sd_ci, sd_cr, sd_cl9, sd_cu, sd_cat0, sd_cat1, sd_rfS, sd_n01, sd_n11, sd_n1, sd_n10, sd_n00, sd_b01, sd_b0, true_and, and_true, and_self, not_true_eq_false, not_false_eq_true, false_implies, true_implies, implies_true, or_true, true_or, or_false, false_or, Option.toList_some, Option.toList_none, List.cons_append, List.nil_append, Nat.reduceAdd, Nat.reduceLeDiff, nz_sub, nz_lt0, nz_ge0, nz_le0, nz_gt0, nz_eq0, nz_eq1, nz_lt, nz_le, nz_eq, nz_cl, nz_in, nz_add, nz_mul, nz_m1, nz_m1', Nat.reduceMul, Nat.reduceSub, Nat.reduceLT, Nat.reduceEqDiff, not_false_eq_true, false_implies, true_implies, true_and, and_true, h_0, h_1, t_2, n_2, h_3, t_4, n_4, t_5, n_5, h_6, t_7, n_7, t_8, n_8, t_9, n_9, t_10, n_10, t_11, n_11, t_12, n_12, t_13, n_13, t_14, n_14, t_15, n_15, t_16, n_16, h_17, h_18, t_19, n_19, t_20, n_20, t_21, n_21, t_22, n_22, h_28, t_29, n_29, t_30, n_30, t_31, n_31, t_32, n_32, h_38, t_39, n_39, t_240, n_240, t_246, n_246, t_252, n_252, h_253, t_254, n_254, t_255, n_255, t_256, n_256, t_257, n_257, h_258, t_259, n_259, t_260, n_260, t_261, n_261, t_262, n_262, t_263, n_263, t_264, n_264, h_265, t_266, n_266, t_267, n_267, t_268, n_268, t_269, n_269, t_270, n_270, r_0_0, r_0_1, r_0_2, r_0_3, r_0_6, r_0_7, r_0_8, r_0_9, r_0_11, r_0_12, r_0_13, r_0_14, r_0_15, r_1_0, r_3_0, r_3_1, r_3_2, r_6_0, r_6_1, r_6_4, r_6_5, r_6_7, r_7_0, r_7_1, r_7_2, r_7_3, r_7_4, r_17_0, r_17_1, r_18_1, r_18_2, r_18_3, r_18_4, r_18_6, r_28_1, r_28_2, r_28_3, r_28_4, r_28_6, r_38_0, r_253_0, r_253_1, r_253_2, r_253_3, r_258_0, r_258_1, r_258_3, r_258_4, r_258_6, r_258_8, r_265_0, r_265_1, r_265_3, r_265_4, r_265_5, r_0_4, r_0_5, Option.isSome_some, sd_bT trivial]
            exact nx
        · intro σ t o ℓ h x l1' l2' l3' hl hM h13 h17 hh h14 h0
          have hM1 := hM.at (a' := tp_ps b n a + 1) (by omega)
          obtain ⟨σ1, g1, g2, g3, g4⟩ := s2 _ t o ℓ h x hl hM1 (by rw [wI_o (by decide)]; exact h13) (by rw [wI_o (by decide)]; exact h17) hh (by rw [wI_o (by decide)]; exact h14)
          obtain ⟨gM, g17, g14⟩ := g3 l1 rfl
          have g13 : σ1.1 271 13 = nI 121 := (g1.2.1 13 (by omega)).trans (by rw [wI_o (by decide)]; exact h13)
          obtain ⟨σ2, z1, z2, z3, z4⟩ := m2 σ1 t o ℓ _ _ l1' l2' l3' hl gM g13 g17 (by split <;> omega) g14 (fun q => by
            by_cases r : h = 1 ∨ c1 ℓ = nI 0
            · rw [if_pos r] at q ⊢
              exact h0 q
            · rw [if_neg r] at q
              cases q)
          refine ⟨σ2, (((ty_g.w (by decide)).two (fun _ _ => trivial)).tr g1).tr z1, by rw [Option.isSome_map]; exact z2, fun q => ?_, fun D Q hD hq => hMa σ t o ℓ l1' l2' l3' hM D Q hD ((g4 D _ (by omega)).mpr ?_)⟩
          · rw [Option.isSome_map] at q
            rw [z3 q]
            by_cases r1 : h = 1
            · rw [if_pos (Or.inl r1), if_pos (Or.inl r1), if_pos r1, if_pos r1]
            · by_cases r2 : c1 ℓ = nI 0
              · rw [if_pos (Or.inr r2), if_neg r1, if_neg r1]
                exact (if_pos r2).symm
              · have r3 : ¬ (h = 1 ∨ c1 ℓ = nI 0) := fun q => q.elim r1 r2
                rw [if_neg r3, if_neg r3, if_pos rfl, if_neg r1]
                exact (if_neg r2).symm
          · have nx := z4 D Q hD hq
            simp (disch := first | exact sd_cr | exact sd_ci | exact sd_cu | exact sd_cl9 | assumption | omega | exact t_285 | exact t_283 | exact t_278 | exact t_281 | exact t_276 | exact t_274 | exact t_275 | exact t_277 | exact t_279 | exact t_280 | exact t_282 | exact t_284 | exact t_286 | exact t_287 | exact t_288 | exact t_289 | exact t_290 | exact t_291 | exact t_292 | exact t_293 | exact t_294 | exact t_295 | exact t_296 | exact t_297 | exact t_298 | exact t_299 | exact t_300) only [z_M_goThrough_63, false_and, and_false, if_true, if_false, Decidable.not_not, sd_ci, sd_cr, sd_cl9, sd_cu, sd_cat0, sd_cat1, sd_rfS, sd_n01, sd_n11, sd_n1, sd_n10, sd_n00, sd_b01, sd_b0, true_and, and_true, and_self, not_true_eq_false, not_false_eq_true, false_implies, true_implies, implies_true, or_true, true_or, or_false, false_or, Option.toList_some, Option.toList_none, List.cons_append, List.nil_append, Nat.reduceAdd, Nat.reduceLeDiff]
            exact nx
        · cases r2 with
          | none => cases q
          | some l2 =>
            cases q
            obtain ⟨q1, q2, q3⟩ := p3 l2 rfl
            refine ⟨by rw [List.length_append]; omega, fun w hw => ?_, fun ℓ hl sp sn i st h1 h2 => ?_⟩
            · rcases List.mem_append.mp hw with hw | hw
              · exact o6 w hw
              · exact q2 w hw
            · rw [List.length_append] at h2
              obtain ⟨a1, a2⟩ := ty_at_app.mp h1
              rw [o7 ℓ hl sp sn i st a1 (by omega), q3 ℓ hl sp sn _ st a2 (by omega)]
    · have hn59 : ¬ tp_at b n a = nI 59 := fun q => hs ((tk_at hb (by decide)).mp q)
      have htT : ¬ tk_T b n (tp_ps b n a) 59 := by
        unfold tk_T
        rw [hpi]
        exact hs
      have ete : tk_e b n (tp_ps b n a) 59 = tp_ps b n a := by
        unfold tk_e
        rw [if_neg htT, hpi]
      refine ⟨tp_ps b n a, none, fun _ => nI 0, ?_, ?_, hp.1, hp.2, fun l q => by cases q⟩
      · intro σ t s i h hs hi
        refine ⟨sd_wI σ 1 2 (nI (tp_ps b n a)), ty_f.at, fun l q => (by cases q), fun D Q hD hq => ?_⟩
        have cp := fun Q => k_peek (L := L) (xs := xs) (fm := fm) (D := D) (Q := Q) h.1 (by omega)
        have ct := fun Q => k_take (L := L) (xs := xs) (fm := fm) (c := 59) (D := D) (Q := Q) (h.1.at (a' := tp_ps b n a) hp.2) (by decide) (by omega)
        rw [sd_bF htT, ete, wI_wI] at ct
        simp (disch := first | exact sd_cr | exact sd_ci | exact sd_cu | exact sd_cl9 | assumption | omega | exact t_259 | exact t_260 | exact t_261 | exact t_262 | exact t_263 | exact t_264 | exact t_254 | exact t_255 | exact t_256 | exact t_257 | exact t_266 | exact t_267 | exact t_268 | exact t_269 | exact t_270 | exact t_252 | exact t_240 | exact t_246 | exact t_2 | exact t_4 | exact t_5 | exact t_13 | exact t_14 | exact t_15 | exact t_16 | exact Or.inl t_39 | exact Or.inr t_7) only [z_TasteReader_read_48, z_TasteReader_read_49, z_TasteReader_read_52, z_TasteReader_read_55, z_TasteReader_read_56, z_TasteReader_read_59, z_TasteReader_read_60, z_TasteReader_read_61, z_TasteReader_read_62, z_TasteReader_read_65, z_TasteReader_read_67, z_TasteReader_read_70, z_TasteReader_read_73, z_TasteReader_read_74, z_TasteReader_read_77, z_TasteReader_read_80, false_and, and_false, if_true, if_false, Decidable.not_not, sd_ci, sd_cr, sd_cl9, sd_cu, sd_cat0, sd_cat1, sd_rfS, sd_n01, sd_n11, sd_n1, sd_n10, sd_n00, sd_b01, sd_b0, true_and, and_true, and_self, not_true_eq_false, not_false_eq_true, false_implies, true_implies, implies_true, or_true, true_or, or_false, false_or, Option.toList_some, Option.toList_none, List.cons_append, List.nil_append, Nat.reduceAdd, Nat.reduceLeDiff, nz_sub, nz_lt0, nz_ge0, nz_le0, nz_gt0, nz_eq0, nz_eq1, nz_lt, nz_le, nz_eq, nz_cl, nz_in, nz_add, nz_mul, nz_m1, nz_m1', Nat.reduceMul, Nat.reduceSub, Nat.reduceLT, Nat.reduceEqDiff, not_false_eq_true, false_implies, true_implies, true_and, and_true, h_0, h_1, t_2, n_2, h_3, t_4, n_4, t_5, n_5, h_6, t_7, n_7, t_8, n_8, t_9, n_9, t_10, n_10, t_11, n_11, t_12, n_12, t_13, n_13, t_14, n_14, t_15, n_15, t_16, n_16, h_17, h_18, t_19, n_19, t_20, n_20, t_21, n_21, t_22, n_22, h_28, t_29, n_29, t_30, n_30, t_31, n_31, t_32, n_32, h_38, t_39, n_39, t_240, n_240, t_246, n_246, t_252, n_252, h_253, t_254, n_254, t_255, n_255, t_256, n_256, t_257, n_257, h_258, t_259, n_259, t_260, n_260, t_261, n_261, t_262, n_262, t_263, n_263, t_264, n_264, h_265, t_266, n_266, t_267, n_267, t_268, n_268, t_269, n_269, t_270, n_270, r_0_0, r_0_1, r_0_2, r_0_3, r_0_6, r_0_7, r_0_8, r_0_9, r_0_11, r_0_12, r_0_13, r_0_14, r_0_15, r_1_0, r_3_0, r_3_1, r_3_2, r_6_0, r_6_1, r_6_4, r_6_5, r_6_7, r_7_0, r_7_1, r_7_2, r_7_3, r_7_4, r_17_0, r_17_1, r_18_1, r_18_2, r_18_3, r_18_4, r_18_6, r_28_1, r_28_2, r_28_3, r_28_4, r_28_6, r_38_0, r_253_0, r_253_1, r_253_2, r_253_3, r_258_0, r_258_1, r_258_3, r_258_4, r_258_6, r_258_8, r_265_0, r_265_1, r_265_3, r_265_4, r_265_5, r_0_4, r_0_5, r_17_0, cp, ct, hne, wI_k]
        exact hq
      · intro σ t o ℓ h x l1 l2 l3 hl hM h13 h17 hh h14 h0
        refine ⟨sd_wI (sd_wI σ 271 10 (nI (tp_ps b n a))) 271 11 (nI (tp_ps b n a)), ((ty_g.w (by decide)).tr (ty_g.w (by decide))).two (fun _ _ => trivial), wI_k, fun q => (by cases q), fun D Q hD hq => ?_⟩
        have hf := hM.2.1
        have hf2 : (sd_wI σ 271 10 (nI (tp_ps b n a))).1 271 11 = -1 := (hM.at hp.2).2.1
        have cl := fun Q => k_look (L := L) (xs := xs) (fm := fm) (D := D) (Q := Q) hM.1 (by omega)
        have cl2 := fun Q => k_look (L := L) (xs := xs) (fm := fm) (D := D) (Q := Q) (hM.at hp.2).1 (by omega)
        rw [hpi, hai, wI_wI] at cl2
        have cf := fun Q => k_fails (L := L) (xs := xs) (fm := fm) (D := D) (Q := Q) hf2 (by omega)
        rw [wI_k] at cf
        simp (disch := first | exact sd_cr | exact sd_ci | exact sd_cu | exact sd_cl9 | assumption | omega | exact t_285 | exact t_283 | exact t_278 | exact t_281 | exact t_276 | exact t_274 | exact t_275 | exact t_277 | exact t_279 | exact t_280 | exact t_282 | exact t_284 | exact t_286 | exact t_287 | exact t_288 | exact t_289 | exact t_290 | exact t_291 | exact t_292 | exact t_293 | exact t_294 | exact t_295 | exact t_296 | exact t_297 | exact t_298 | exact t_299 | exact t_300) only [z_M_goThrough_32, z_M_goThrough_33, z_M_goThrough_36, z_M_goThrough_37, z_M_goThrough_40, z_M_goThrough_41, z_M_goThrough_44, z_M_goThrough_46, z_M_goThrough_66, z_M_goThrough_67, z_M_goThrough_70, z_M_goThrough_71, z_M_goThrough_74, z_M_goThrough_75, z_M_goThrough_78, z_M_goThrough_79, z_M_goThrough_82, z_M_goThrough_83, z_M_goThrough_86, z_M_goThrough_87, false_and, and_false, if_true, if_false, Decidable.not_not, sd_ci, sd_cr, sd_cl9, sd_cu, sd_cat0, sd_cat1, sd_rfS, sd_n01, sd_n11, sd_n1, sd_n10, sd_n00, sd_b01, sd_b0, true_and, and_true, and_self, not_true_eq_false, not_false_eq_true, false_implies, true_implies, implies_true, or_true, true_or, or_false, false_or, Option.toList_some, Option.toList_none, List.cons_append, List.nil_append, Nat.reduceAdd, Nat.reduceLeDiff, h_271, t_272, n_272, t_273, n_273, t_274, n_274, t_275, n_275, t_276, n_276, t_277, n_277, t_278, n_278, t_279, n_279, t_280, n_280, t_281, n_281, t_282, n_282, t_283, n_283, t_284, n_284, t_285, n_285, t_286, n_286, t_287, n_287, t_288, n_288, t_289, n_289, t_290, n_290, t_291, n_291, t_292, n_292, t_293, n_293, t_294, n_294, t_295, n_295, t_296, n_296, t_297, n_297, t_298, n_298, t_299, n_299, t_300, n_300, t_301, n_301, r_271_1, r_271_2, r_271_3, r_271_4, r_271_15, r_271_16, r_271_18, r_271_19, r_271_20, r_271_21, r_271_22, r_271_23, r_271_24, r_271_25, r_271_26, r_271_34, r_271_35, r_271_38, r_271_39, r_271_40, r_271_42, r_271_45, r_271_46, r_271_47, r_271_48, r_271_49, r_271_50, r_271_53, r_271_54, r_271_55, r_271_57, hf, hf2, cl, cl2, hn59, hne, cf]
        exact hq
  · have ea : tp_at b n a = -1 := if_neg hend
    refine ⟨tp_ps b n a, some [], fun _ => nI 0, ?_, ?_, hp.1, hp.2, fun l q => ?_⟩
    · intro σ t s i h hs hi
      refine ⟨sd_wI σ 1 2 (nI (tp_ps b n a)), ty_f.at, fun l q => (by cases q; rw [List.append_nil]; exact h.at hp.2), fun D Q hD hq => ?_⟩
      have cp := fun Q => k_peek (L := L) (xs := xs) (fm := fm) (D := D) (Q := Q) h.1 (by omega)
      rw [ea] at cp
      simp (disch := first | exact sd_cr | exact sd_ci | exact sd_cu | exact sd_cl9 | assumption | omega | exact t_259 | exact t_260 | exact t_261 | exact t_262 | exact t_263 | exact t_264 | exact t_254 | exact t_255 | exact t_256 | exact t_257 | exact t_266 | exact t_267 | exact t_268 | exact t_269 | exact t_270 | exact t_252 | exact t_240 | exact t_246 | exact t_2 | exact t_4 | exact t_5 | exact t_13 | exact t_14 | exact t_15 | exact t_16 | exact Or.inl t_39 | exact Or.inr t_7) only [z_TasteReader_read_48, z_TasteReader_read_49, z_TasteReader_read_52, z_TasteReader_read_55, z_TasteReader_read_56, z_TasteReader_read_59, z_TasteReader_read_60, false_and, and_false, if_true, if_false, Decidable.not_not, sd_ci, sd_cr, sd_cl9, sd_cu, sd_cat0, sd_cat1, sd_rfS, sd_n01, sd_n11, sd_n1, sd_n10, sd_n00, sd_b01, sd_b0, true_and, and_true, and_self, not_true_eq_false, not_false_eq_true, false_implies, true_implies, implies_true, or_true, true_or, or_false, false_or, Option.toList_some, Option.toList_none, List.cons_append, List.nil_append, Nat.reduceAdd, Nat.reduceLeDiff, nz_sub, nz_lt0, nz_ge0, nz_le0, nz_gt0, nz_eq0, nz_eq1, nz_lt, nz_le, nz_eq, nz_cl, nz_in, nz_add, nz_mul, nz_m1, nz_m1', Nat.reduceMul, Nat.reduceSub, Nat.reduceLT, Nat.reduceEqDiff, not_false_eq_true, false_implies, true_implies, true_and, and_true, h_0, h_1, t_2, n_2, h_3, t_4, n_4, t_5, n_5, h_6, t_7, n_7, t_8, n_8, t_9, n_9, t_10, n_10, t_11, n_11, t_12, n_12, t_13, n_13, t_14, n_14, t_15, n_15, t_16, n_16, h_17, h_18, t_19, n_19, t_20, n_20, t_21, n_21, t_22, n_22, h_28, t_29, n_29, t_30, n_30, t_31, n_31, t_32, n_32, h_38, t_39, n_39, t_240, n_240, t_246, n_246, t_252, n_252, h_253, t_254, n_254, t_255, n_255, t_256, n_256, t_257, n_257, h_258, t_259, n_259, t_260, n_260, t_261, n_261, t_262, n_262, t_263, n_263, t_264, n_264, h_265, t_266, n_266, t_267, n_267, t_268, n_268, t_269, n_269, t_270, n_270, r_0_0, r_0_1, r_0_2, r_0_3, r_0_6, r_0_7, r_0_8, r_0_9, r_0_11, r_0_12, r_0_13, r_0_14, r_0_15, r_1_0, r_3_0, r_3_1, r_3_2, r_6_0, r_6_1, r_6_4, r_6_5, r_6_7, r_7_0, r_7_1, r_7_2, r_7_3, r_7_4, r_17_0, r_17_1, r_18_1, r_18_2, r_18_3, r_18_4, r_18_6, r_28_1, r_28_2, r_28_3, r_28_4, r_28_6, r_38_0, r_253_0, r_253_1, r_253_2, r_253_3, r_258_0, r_258_1, r_258_3, r_258_4, r_258_6, r_258_8, r_265_0, r_265_1, r_265_3, r_265_4, r_265_5, r_0_4, r_0_5, r_17_0, cp]
      exact hq
    · intro σ t o ℓ h x l1 l2 l3 hl hM h13 h17 hh h14 h0
      have hM1 := hM.at hp.2
      refine ⟨sd_wI σ 271 10 (nI (tp_ps b n a)), (ty_g.w (by decide)).two (fun _ _ => trivial), hM1.2.1, fun _ => ?_, fun D Q hD hq => ?_⟩
      · rw [wI_o (by decide), h14]
        split
        · rfl
        · exact h0 (by omega)
      · have hf := hM.2.1
        have hf2 := hM1.2.1
        have m2 : ¬ (-1 : Int32) = nI 59 := by decide
        have cl := fun Q => k_look (L := L) (xs := xs) (fm := fm) (D := D) (Q := Q) hM.1 (by omega)
        have cl2 := fun Q => k_look (L := L) (xs := xs) (fm := fm) (D := D) (Q := Q) (hM.at hp.2).1 (by omega)
        rw [hpi, hai, wI_wI] at cl2
        rw [ea] at cl cl2
        simp (disch := first | exact sd_cr | exact sd_ci | exact sd_cu | exact sd_cl9 | assumption | omega | exact t_285 | exact t_283 | exact t_278 | exact t_281 | exact t_276 | exact t_274 | exact t_275 | exact t_277 | exact t_279 | exact t_280 | exact t_282 | exact t_284 | exact t_286 | exact t_287 | exact t_288 | exact t_289 | exact t_290 | exact t_291 | exact t_292 | exact t_293 | exact t_294 | exact t_295 | exact t_296 | exact t_297 | exact t_298 | exact t_299 | exact t_300) only [z_M_goThrough_32, z_M_goThrough_33, z_M_goThrough_36, z_M_goThrough_37, z_M_goThrough_40, z_M_goThrough_41, z_M_goThrough_44, z_M_goThrough_46, z_M_goThrough_66, z_M_goThrough_67, z_M_goThrough_70, z_M_goThrough_71, z_M_goThrough_74, z_M_goThrough_75, z_M_goThrough_78, z_M_goThrough_79, z_M_goThrough_82, z_M_goThrough_83, z_M_goThrough_86, z_M_goThrough_87, false_and, and_false, if_true, if_false, Decidable.not_not, sd_ci, sd_cr, sd_cl9, sd_cu, sd_cat0, sd_cat1, sd_rfS, sd_n01, sd_n11, sd_n1, sd_n10, sd_n00, sd_b01, sd_b0, true_and, and_true, and_self, not_true_eq_false, not_false_eq_true, false_implies, true_implies, implies_true, or_true, true_or, or_false, false_or, Option.toList_some, Option.toList_none, List.cons_append, List.nil_append, Nat.reduceAdd, Nat.reduceLeDiff, h_271, t_272, n_272, t_273, n_273, t_274, n_274, t_275, n_275, t_276, n_276, t_277, n_277, t_278, n_278, t_279, n_279, t_280, n_280, t_281, n_281, t_282, n_282, t_283, n_283, t_284, n_284, t_285, n_285, t_286, n_286, t_287, n_287, t_288, n_288, t_289, n_289, t_290, n_290, t_291, n_291, t_292, n_292, t_293, n_293, t_294, n_294, t_295, n_295, t_296, n_296, t_297, n_297, t_298, n_298, t_299, n_299, t_300, n_300, t_301, n_301, r_271_1, r_271_2, r_271_3, r_271_4, r_271_15, r_271_16, r_271_18, r_271_19, r_271_20, r_271_21, r_271_22, r_271_23, r_271_24, r_271_25, r_271_26, r_271_34, r_271_35, r_271_38, r_271_39, r_271_40, r_271_42, r_271_45, r_271_46, r_271_47, r_271_48, r_271_49, r_271_50, r_271_53, r_271_54, r_271_55, r_271_57, hf, hf2, cl, cl2, m2]
        exact hq
    · cases q
      refine ⟨by show a + 0 ≤ _; omega, fun w hw => (by cases hw), fun ℓ hl sp sn i st h1 h2 => ty_R0 (by simp at h2; omega)⟩
/-- a text that is to be a taste: both find the same fault; the steps give what the reference finds -/
theorem ty_taste (hn : n ≤ 240) (hb : ∀ i, i < n → b i < 256) : ∃ (e : Nat) (r : Option (List Nat)) (V : (Nat → Int32) → Int32), (∀ (σ : sd_Mem) t, σ.1 1 1 = nI n → (∀ i, i < n → σ.1 2 i = nI (b i)) → σ.1 6 2 = nI t → t ≤ 4 → ∃ σ', ty_f σ σ' t ∧ (∀ l, r = some l → σ'.1 13 t = nI l.length ∧ ∀ i, i < l.length → σ'.1 (8 + t) i = nI (l.getD i 0)) ∧ ∀ D Q, 53 ≤ D → (sd_Call (sd_E1 L xs fm) D y_TasteReader_read [.ref 17] σ Q ↔ Q (some (.int (if r.isSome = true then -1 else nI e))) σ')) ∧ (∀ (σ : sd_Mem) tx o ℓ, (tx = 272 ∨ tx = 273) → o + n ≤ sd_ln tx → (∀ i, i < n → σ.1 tx (o + i) = sw_by (b i)) → sw_l6 σ ℓ → ty_l ℓ → ∃ σ', sw_fM σ σ' ∧ σ'.1 271 11 = (if r.isSome = true then -1 else nI e) ∧ (r.isSome = true → σ'.1 271 14 = V ℓ) ∧ ∀ D Q, 53 ≤ D → (sd_Call (sd_E1 L xs fm) D y_M_goThrough [.ref 271, .ref tx, .int (nI o), .int (nI n)] σ Q ↔ Q none σ')) ∧ e ≤ n ∧ ∀ l, r = some l → l.length ≤ n ∧ (∀ w, w ∈ l → sw_spk w) ∧ ∀ ℓ, ty_l ℓ → sw_wt (fun i => l.getD i 0) l.length ℓ = V ℓ := by
  obtain ⟨e1, r1, c1, v1, s1, s2, o1, o2, o3⟩ := ty_clause (L := L) (xs := xs) (fm := fm) hn hb (Nat.zero_le n)
  have hX0 : ∀ (σ : sd_Mem) t, σ.1 1 1 = nI n → (∀ i, i < n → σ.1 2 i = nI (b i)) → σ.1 6 2 = nI t → t ≤ 4 → ty_X (sd_wI (sd_wI σ 13 t (nI 0)) 1 2 (nI 0)) b n 0 t [] ∧ ty_f σ (sd_wI (sd_wI σ 13 t (nI 0)) 1 2 (nI 0)) t ∧ ∀ d Q, 52 ≤ d → (sd_Call (sd_E1 L xs fm) d y_TasteReader_readClause [.ref 17] (sd_wI (sd_wI σ 13 t (nI 0)) 1 2 (nI 0)) fun v σ2 => sd_Go (sd_E1 L xs fm) d y_TasteReader_read 37 [.ref 17, .int (nI 0)] (v.toList ++ []) σ2 Q) → sd_Go (sd_E1 L xs fm) d y_TasteReader_read 0 [.ref 17, sd_un] [] σ Q := by
    intro σ t h1 h2 h6 ht
    refine ⟨⟨⟨by rw [wI_o (by decide), wI_c (by decide)]; exact h1, fun i hi => by rw [wI_c (by decide), wI_c (by decide)]; exact h2 i hi, wI_k, hn, hb, Nat.zero_le _⟩, by rw [wI_c (by decide), wI_c (by decide)]; exact h6, ht, by rw [wI_c (by decide)]; exact wI_k, fun i hi => absurd hi (Nat.not_lt_zero _), Nat.zero_le _⟩, ⟨fun e j q1 q2 q3 => by rw [wI_1, if_neg q1, wI_1, if_neg q2], rfl⟩, fun d Q hd hq => ?_⟩
    have c5 : t < 5 := by omega
    simp (disch := first | exact sd_cr | exact sd_ci | exact sd_cu | exact sd_cl9 | assumption | omega | exact t_259 | exact t_260 | exact t_261 | exact t_262 | exact t_263 | exact t_264 | exact t_254 | exact t_255 | exact t_256 | exact t_257 | exact t_266 | exact t_267 | exact t_268 | exact t_269 | exact t_270 | exact t_252 | exact t_240 | exact t_246 | exact t_2 | exact t_4 | exact t_5 | exact t_13 | exact t_14 | exact t_15 | exact t_16 | exact Or.inl t_39 | exact Or.inr t_7) only [z_TasteReader_read_0, z_TasteReader_read_1, z_TasteReader_read_4, z_TasteReader_read_7, z_TasteReader_read_8, z_TasteReader_read_11, z_TasteReader_read_14, z_TasteReader_read_15, z_TasteReader_read_16, z_TasteReader_read_17, z_TasteReader_read_20, z_TasteReader_read_21, z_TasteReader_read_24, z_TasteReader_read_25, z_TasteReader_read_26, z_TasteReader_read_27, z_TasteReader_read_30, z_TasteReader_read_33, z_TasteReader_read_34, false_and, and_false, if_true, if_false, Decidable.not_not, sd_ci, sd_cr, sd_cl9, sd_cu, sd_cat0, sd_cat1, sd_rfS, sd_n01, sd_n11, sd_n1, sd_n10, sd_n00, sd_b01, sd_b0, true_and, and_true, and_self, not_true_eq_false, not_false_eq_true, false_implies, true_implies, implies_true, or_true, true_or, or_false, false_or, Option.toList_some, Option.toList_none, List.cons_append, List.nil_append, Nat.reduceAdd, Nat.reduceLeDiff, nz_sub, nz_lt0, nz_ge0, nz_le0, nz_gt0, nz_eq0, nz_eq1, nz_lt, nz_le, nz_eq, nz_cl, nz_in, nz_add, nz_mul, nz_m1, nz_m1', Nat.reduceMul, Nat.reduceSub, Nat.reduceLT, Nat.reduceEqDiff, not_false_eq_true, false_implies, true_implies, true_and, and_true, h_0, h_1, t_2, n_2, h_3, t_4, n_4, t_5, n_5, h_6, t_7, n_7, t_8, n_8, t_9, n_9, t_10, n_10, t_11, n_11, t_12, n_12, t_13, n_13, t_14, n_14, t_15, n_15, t_16, n_16, h_17, h_18, t_19, n_19, t_20, n_20, t_21, n_21, t_22, n_22, h_28, t_29, n_29, t_30, n_30, t_31, n_31, t_32, n_32, h_38, t_39, n_39, t_240, n_240, t_246, n_246, t_252, n_252, h_253, t_254, n_254, t_255, n_255, t_256, n_256, t_257, n_257, h_258, t_259, n_259, t_260, n_260, t_261, n_261, t_262, n_262, t_263, n_263, t_264, n_264, h_265, t_266, n_266, t_267, n_267, t_268, n_268, t_269, n_269, t_270, n_270, r_0_0, r_0_1, r_0_2, r_0_3, r_0_6, r_0_7, r_0_8, r_0_9, r_0_11, r_0_12, r_0_13, r_0_14, r_0_15, r_1_0, r_3_0, r_3_1, r_3_2, r_6_0, r_6_1, r_6_4, r_6_5, r_6_7, r_7_0, r_7_1, r_7_2, r_7_3, r_7_4, r_17_0, r_17_1, r_18_1, r_18_2, r_18_3, r_18_4, r_18_6, r_28_1, r_28_2, r_28_3, r_28_4, r_28_6, r_38_0, r_253_0, r_253_1, r_253_2, r_253_3, r_258_0, r_258_1, r_258_3, r_258_4, r_258_6, r_258_8, r_265_0, r_265_1, r_265_3, r_265_4, r_265_5, r_0_4, r_0_5, r_17_0, r_17_1, r_6_1, h6, c5]
    exact hq
  have hM0 : ∀ (σ : sd_Mem) tx o ℓ, (tx = 272 ∨ tx = 273) → o + n ≤ sd_ln tx → (∀ i, i < n → σ.1 tx (o + i) = sw_by (b i)) → sw_l6 σ ℓ → ∃ σ1, sw_fM σ σ1 ∧ ty_M σ1 tx o b n 0 0 ℓ ∧ σ1.1 271 13 = nI 121 ∧ σ1.1 271 17 = nI 0 ∧ σ1.1 271 14 = nI 0 ∧ ∀ d Q, 52 ≤ d → (sd_Call (sd_E1 L xs fm) d y_M_clause [.ref 271] σ1 fun v σ2 => sd_Go (sd_E1 L xs fm) d y_M_goThrough 32 [.ref 271, .ref tx, .int (nI o), .int (nI n)] (v.toList ++ []) σ2 Q) → sd_Go (sd_E1 L xs fm) d y_M_goThrough 0 [.ref 271, .ref tx, .int (nI o), .int (nI n)] [] σ Q := by
    intro σ tx o ℓ htx hl hby h6
    have htg : sd_tg tx = 1 := by rcases htx with rfl | rfl; exact t_272; exact t_273
    have hln : sd_ln tx ≤ 960 := by rcases htx with rfl | rfl; rw [n_272]; decide; rw [n_273]; decide
    obtain ⟨g1, g2⟩ := tp_st_M (σ := σ) (b := b) hby htg hl hln (by omega) hb
    refine ⟨sd_wI (sd_wI (sd_wI (sd_wI (tp_st σ tx (nI o) (nI n)) 271 13 (nI 121)) 271 12 (nI 0)) 271 17 (nI 0)) 271 14 (nI 0), ⟨fun e he => by rw [wI_c he, wI_c he, wI_c he, wI_c he, tp_st_c he], fun j hj => by rw [wI_o (by omega), wI_o (by omega), wI_o (by omega), wI_o (by omega), tp_st_o (by omega)], (tp_st_2 (σ := σ) (t := tx) (v := nI o) (w := nI n)).1, fun k i hk => (tp_st_2 (σ := σ) (t := tx) (v := nI o) (w := nI n)).2 k i hk⟩, ⟨?_, ?_, ?_, ty_l6 h6 (by rw [wI_c (by decide), wI_c (by decide), wI_c (by decide), wI_c (by decide), tp_st_c (by decide)])⟩, ?_, ?_, wI_k, fun d Q hd hq => ?_⟩
    · obtain ⟨k1, k2, k3, k4, k5, k6, k7, k8, k9, k10, k11⟩ := g1
      refine ⟨k1, ?_, ?_, ?_, fun i hi => ?_, k6, k7, k8, k9, k10, k11⟩
      · rw [wI_o (by decide), wI_o (by decide), wI_o (by decide), wI_o (by decide)]; exact k2
      · rw [wI_o (by decide), wI_o (by decide), wI_o (by decide), wI_o (by decide)]; exact k3
      · rw [wI_o (by decide), wI_o (by decide), wI_o (by decide), wI_o (by decide)]; exact k4
      · rw [wI_c k9, wI_c k9, wI_c k9, wI_c k9]; exact k5 i hi
    · rw [wI_o (by decide), wI_o (by decide), wI_o (by decide), wI_o (by decide)]; exact g2
    · rw [wI_o (by decide), wI_o (by decide), wI_k]
    · rw [wI_o (by decide), wI_o (by decide), wI_o (by decide), wI_k]
    · rw [wI_o (by decide), wI_k]
    · obtain ⟨d, rfl⟩ : ∃ d', d = d' + 1 := ⟨d - 1, by omega⟩
      simp (disch := first | exact sd_cr | exact sd_ci | exact sd_cu | exact sd_cl9 | assumption | omega | exact t_285 | exact t_283 | exact t_278 | exact t_281 | exact t_276 | exact t_274 | exact t_275 | exact t_277 | exact t_279 | exact t_280 | exact t_282 | exact t_284 | exact t_286 | exact t_287 | exact t_288 | exact t_289 | exact t_290 | exact t_291 | exact t_292 | exact t_293 | exact t_294 | exact t_295 | exact t_296 | exact t_297 | exact t_298 | exact t_299 | exact t_300) only [z_M_goThrough_0, z_M_goThrough_1, z_M_goThrough_2, z_M_goThrough_3, z_M_goThrough_4, z_M_goThrough_7, z_M_goThrough_8, z_M_goThrough_10, z_M_goThrough_13, z_M_goThrough_14, z_M_goThrough_15, z_M_goThrough_18, z_M_goThrough_19, z_M_goThrough_20, z_M_goThrough_23, z_M_goThrough_24, z_M_goThrough_25, z_M_goThrough_28, z_M_goThrough_29, false_and, and_false, if_true, if_false, Decidable.not_not, sd_ci, sd_cr, sd_cl9, sd_cu, sd_cat0, sd_cat1, sd_rfS, sd_n01, sd_n11, sd_n1, sd_n10, sd_n00, sd_b01, sd_b0, true_and, and_true, and_self, not_true_eq_false, not_false_eq_true, false_implies, true_implies, implies_true, or_true, true_or, or_false, false_or, Option.toList_some, Option.toList_none, List.cons_append, List.nil_append, Nat.reduceAdd, Nat.reduceLeDiff, nz_sub, nz_lt0, nz_ge0, nz_le0, nz_gt0, nz_eq0, nz_eq1, nz_lt, nz_le, nz_eq, nz_cl, nz_in, nz_add, nz_mul, nz_m1, nz_m1', Nat.reduceMul, Nat.reduceSub, Nat.reduceLT, Nat.reduceEqDiff, not_false_eq_true, false_implies, true_implies, true_and, and_true, h_271, t_272, n_272, t_273, n_273, t_274, n_274, t_275, n_275, t_276, n_276, t_277, n_277, t_278, n_278, t_279, n_279, t_280, n_280, t_281, n_281, t_282, n_282, t_283, n_283, t_284, n_284, t_285, n_285, t_286, n_286, t_287, n_287, t_288, n_288, t_289, n_289, t_290, n_290, t_291, n_291, t_292, n_292, t_293, n_293, t_294, n_294, t_295, n_295, t_296, n_296, t_297, n_297, t_298, n_298, t_299, n_299, t_300, n_300, t_301, n_301, r_271_1, r_271_2, r_271_3, r_271_4, r_271_15, r_271_16, r_271_18, r_271_19, r_271_20, r_271_21, r_271_22, r_271_23, r_271_24, r_271_25, r_271_26, r_271_34, r_271_35, r_271_38, r_271_39, r_271_40, r_271_42, r_271_45, r_271_46, r_271_47, r_271_48, r_271_49, r_271_50, r_271_53, r_271_54, r_271_55, r_271_57, c_M_starts]
      exact hq
  have hg2 : ∀ {σ σ' : sd_Mem}, ty_g2 σ σ' → sw_fM σ σ' := fun h => ⟨h.1, fun j hj => h.2.1 j (by omega), h.2.2.1, h.2.2.2⟩
  cases r1 with
  | none =>
    refine ⟨e1, none, fun _ => nI 0, ?_, ?_, o2, fun l q => by cases q⟩
    · intro σ t h1 h2 h6 ht
      obtain ⟨hX, hf, hgo⟩ := hX0 σ t h1 h2 h6 ht
      obtain ⟨σ1, f1, f2, f3, f4⟩ := s1 _ t [] hX (Nat.zero_le _)
      refine ⟨σ1, hf.tr f1, fun l q => (by cases q), fun D Q hD => ?_⟩
      obtain ⟨d, rfl⟩ : ∃ d, D = d + 1 := ⟨D - 1, by omega⟩
      refine sd_Call.iff (fun Q hq => ?_) Q
      rw [sd_Call.start (ls := [.ref 17, sd_un]) m_TasteReader_read (by decide) (Nat.le_of_ble_eq_true rfl) rfl]
      refine hgo d Q (by omega) ((f4 d _ (by omega)).mpr ?_)
      have e3 := f2.2.2.1
      simp (disch := first | exact sd_cr | exact sd_ci | exact sd_cu | exact sd_cl9 | assumption | omega | exact t_259 | exact t_260 | exact t_261 | exact t_262 | exact t_263 | exact t_264 | exact t_254 | exact t_255 | exact t_256 | exact t_257 | exact t_266 | exact t_267 | exact t_268 | exact t_269 | exact t_270 | exact t_252 | exact t_240 | exact t_246 | exact t_2 | exact t_4 | exact t_5 | exact t_13 | exact t_14 | exact t_15 | exact t_16 | exact Or.inl t_39 | exact Or.inr t_7) only [z_TasteReader_read_37, z_TasteReader_read_40, z_TasteReader_read_41, z_TasteReader_read_44, z_TasteReader_read_47, false_and, and_false, if_true, if_false, Decidable.not_not, sd_ci, sd_cr, sd_cl9, sd_cu, sd_cat0, sd_cat1, sd_rfS, sd_n01, sd_n11, sd_n1, sd_n10, sd_n00, sd_b01, sd_b0, true_and, and_true, and_self, not_true_eq_false, not_false_eq_true, false_implies, true_implies, implies_true, or_true, true_or, or_false, false_or, Option.toList_some, Option.toList_none, List.cons_append, List.nil_append, Nat.reduceAdd, Nat.reduceLeDiff, nz_sub, nz_lt0, nz_ge0, nz_le0, nz_gt0, nz_eq0, nz_eq1, nz_lt, nz_le, nz_eq, nz_cl, nz_in, nz_add, nz_mul, nz_m1, nz_m1', Nat.reduceMul, Nat.reduceSub, Nat.reduceLT, Nat.reduceEqDiff, not_false_eq_true, false_implies, true_implies, true_and, and_true, h_0, h_1, t_2, n_2, h_3, t_4, n_4, t_5, n_5, h_6, t_7, n_7, t_8, n_8, t_9, n_9, t_10, n_10, t_11, n_11, t_12, n_12, t_13, n_13, t_14, n_14, t_15, n_15, t_16, n_16, h_17, h_18, t_19, n_19, t_20, n_20, t_21, n_21, t_22, n_22, h_28, t_29, n_29, t_30, n_30, t_31, n_31, t_32, n_32, h_38, t_39, n_39, t_240, n_240, t_246, n_246, t_252, n_252, h_253, t_254, n_254, t_255, n_255, t_256, n_256, t_257, n_257, h_258, t_259, n_259, t_260, n_260, t_261, n_261, t_262, n_262, t_263, n_263, t_264, n_264, h_265, t_266, n_266, t_267, n_267, t_268, n_268, t_269, n_269, t_270, n_270, r_0_0, r_0_1, r_0_2, r_0_3, r_0_6, r_0_7, r_0_8, r_0_9, r_0_11, r_0_12, r_0_13, r_0_14, r_0_15, r_1_0, r_3_0, r_3_1, r_3_2, r_6_0, r_6_1, r_6_4, r_6_5, r_6_7, r_7_0, r_7_1, r_7_2, r_7_3, r_7_4, r_17_0, r_17_1, r_18_1, r_18_2, r_18_3, r_18_4, r_18_6, r_28_1, r_28_2, r_28_3, r_28_4, r_28_6, r_38_0, r_253_0, r_253_1, r_253_2, r_253_3, r_258_0, r_258_1, r_258_3, r_258_4, r_258_6, r_258_8, r_265_0, r_265_1, r_265_3, r_265_4, r_265_5, r_0_4, r_0_5, r_17_0, e3, Option.isSome_none, Bool.false_eq_true, sd_bF not_false]
      exact hq
    · intro σ tx o ℓ htx hl hby h6 hlℓ
      obtain ⟨σ1, q1, q2, q3, q4, q5, q6⟩ := hM0 σ tx o ℓ htx hl hby h6
      obtain ⟨σ2, g1, g2, g3, g4⟩ := s2 σ1 tx o ℓ 0 (nI 0) hlℓ q2 q3 q4 (by omega) q5
      have g2 := g2 rfl
      refine ⟨σ2, q1.tr (hg2 g1), g2, fun q => (by cases q), fun D Q hD => ?_⟩
      obtain ⟨d, rfl⟩ : ∃ d, D = d + 1 := ⟨D - 1, by omega⟩
      refine sd_Call.iff (fun Q hq => ?_) Q
      rw [sd_Call.start (ls := [.ref 271, .ref tx, .int (nI o), .int (nI n)]) m_M_goThrough (by decide) (Nat.le_of_ble_eq_true rfl) rfl]
      refine q6 d Q (by omega) ((g4 d _ (by omega)).mpr ?_)
      simp (disch := first | exact sd_cr | exact sd_ci | exact sd_cu | exact sd_cl9 | assumption | omega | exact t_285 | exact t_283 | exact t_278 | exact t_281 | exact t_276 | exact t_274 | exact t_275 | exact t_277 | exact t_279 | exact t_280 | exact t_282 | exact t_284 | exact t_286 | exact t_287 | exact t_288 | exact t_289 | exact t_290 | exact t_291 | exact t_292 | exact t_293 | exact t_294 | exact t_295 | exact t_296 | exact t_297 | exact t_298 | exact t_299 | exact t_300) only [z_M_goThrough_32, z_M_goThrough_33, z_M_goThrough_36, z_M_goThrough_37, z_M_goThrough_66, z_M_goThrough_67, z_M_goThrough_70, z_M_goThrough_71, z_M_goThrough_87, false_and, and_false, if_true, if_false, Decidable.not_not, sd_ci, sd_cr, sd_cl9, sd_cu, sd_cat0, sd_cat1, sd_rfS, sd_n01, sd_n11, sd_n1, sd_n10, sd_n00, sd_b01, sd_b0, true_and, and_true, and_self, not_true_eq_false, not_false_eq_true, false_implies, true_implies, implies_true, or_true, true_or, or_false, false_or, Option.toList_some, Option.toList_none, List.cons_append, List.nil_append, Nat.reduceAdd, Nat.reduceLeDiff, nz_sub, nz_lt0, nz_ge0, nz_le0, nz_gt0, nz_eq0, nz_eq1, nz_lt, nz_le, nz_eq, nz_cl, nz_in, nz_add, nz_mul, nz_m1, nz_m1', Nat.reduceMul, Nat.reduceSub, Nat.reduceLT, Nat.reduceEqDiff, not_false_eq_true, false_implies, true_implies, true_and, and_true, h_271, t_272, n_272, t_273, n_273, t_274, n_274, t_275, n_275, t_276, n_276, t_277, n_277, t_278, n_278, t_279, n_279, t_280, n_280, t_281, n_281, t_282, n_282, t_283, n_283, t_284, n_284, t_285, n_285, t_286, n_286, t_287, n_287, t_288, n_288, t_289, n_289, t_290, n_290, t_291, n_291, t_292, n_292, t_293, n_293, t_294, n_294, t_295, n_295, t_296, n_296, t_297, n_297, t_298, n_298, t_299, n_299, t_300, n_300, t_301, n_301, r_271_1, r_271_2, r_271_3, r_271_4, r_271_15, r_271_16, r_271_18, r_271_19, r_271_20, r_271_21, r_271_22, r_271_23, r_271_24, r_271_25, r_271_26, r_271_34, r_271_35, r_271_38, r_271_39, r_271_40, r_271_42, r_271_45, r_271_46, r_271_47, r_271_48, r_271_49, r_271_50, r_271_53, r_271_54, r_271_55, r_271_57, g2]
      exact hq
  | some l1 =>
    obtain ⟨o4, o5, o6, o7⟩ := o3 l1 rfl
    obtain ⟨e2, r2, V2, x2, m2, p1, p2, p3⟩ := ty_more (L := L) (xs := xs) (fm := fm) hn hb _ e1 rfl o2 (by omega)
    refine ⟨e2, r2.map (fun l => l1 ++ l), fun ℓ => if c1 ℓ = nI 0 then V2 ℓ else v1 ℓ, ?_, ?_, p2, fun l q => ?_⟩
    · intro σ t h1 h2 h6 ht
      obtain ⟨hX, hf, hgo⟩ := hX0 σ t h1 h2 h6 ht
      obtain ⟨σ1, f1, f2, f3, f4⟩ := s1 _ t [] hX (Nat.zero_le _)
      have hX1 := f3 l1 rfl
      rw [List.nil_append] at hX1
      obtain ⟨σ2, y1, y2, y3⟩ := x2 σ1 t l1 0 hX1 (by omega) (by omega)
      refine ⟨σ2, (hf.tr f1).tr y1, fun l q => ?_, fun D Q hD => ?_⟩
      · cases r2 with
        | none => cases q
        | some l2 =>
          cases q
          have := y2 l2 rfl
          exact ⟨this.2.2.2.1, this.2.2.2.2.1⟩
      · obtain ⟨d, rfl⟩ : ∃ d, D = d + 1 := ⟨D - 1, by omega⟩
        refine sd_Call.iff (fun Q hq => ?_) Q
        rw [Option.isSome_map] at hq
        have nx := y3 d Q (by omega) hq
        rw [sd_Call.start (ls := [.ref 17, sd_un]) m_TasteReader_read (by decide) (Nat.le_of_ble_eq_true rfl) rfl]
        refine hgo d Q (by omega) ((f4 d _ (by omega)).mpr ?_)
        simp (disch := first | exact sd_cr | exact sd_ci | exact sd_cu | exact sd_cl9 | assumption | omega | exact t_259 | exact t_260 | exact t_261 | exact t_262 | exact t_263 | exact t_264 | exact t_254 | exact t_255 | exact t_256 | exact t_257 | exact t_266 | exact t_267 | exact t_268 | exact t_269 | exact t_270 | exact t_252 | exact t_240 | exact t_246 | exact t_2 | exact t_4 | exact t_5 | exact t_13 | exact t_14 | exact t_15 | exact t_16 | exact Or.inl t_39 | exact Or.inr t_7) only [z_TasteReader_read_37, false_and, and_false, if_true, if_false, Decidable.not_not, sd_ci, sd_cr, sd_cl9, sd_cu, sd_cat0, sd_cat1, sd_rfS, sd_n01, sd_n11, sd_n1, sd_n10, sd_n00, sd_b01, sd_b0, true_and, and_true, and_self, not_true_eq_false, not_false_eq_true, false_implies, true_implies, implies_true, or_true, true_or, or_false, false_or, Option.toList_some, Option.toList_none, List.cons_append, List.nil_append, Nat.reduceAdd, Nat.reduceLeDiff, nz_sub, nz_lt0, nz_ge0, nz_le0, nz_gt0, nz_eq0, nz_eq1, nz_lt, nz_le, nz_eq, nz_cl, nz_in, nz_add, nz_mul, nz_m1, nz_m1', Nat.reduceMul, Nat.reduceSub, Nat.reduceLT, Nat.reduceEqDiff, not_false_eq_true, false_implies, true_implies, true_and, and_true, h_0, h_1, t_2, n_2, h_3, t_4, n_4, t_5, n_5, h_6, t_7, n_7, t_8, n_8, t_9, n_9, t_10, n_10, t_11, n_11, t_12, n_12, t_13, n_13, t_14, n_14, t_15, n_15, t_16, n_16, h_17, h_18, t_19, n_19, t_20, n_20, t_21, n_21, t_22, n_22, h_28, t_29, n_29, t_30, n_30, t_31, n_31, t_32, n_32, h_38, t_39, n_39, t_240, n_240, t_246, n_246, t_252, n_252, h_253, t_254, n_254, t_255, n_255, t_256, n_256, t_257, n_257, h_258, t_259, n_259, t_260, n_260, t_261, n_261, t_262, n_262, t_263, n_263, t_264, n_264, h_265, t_266, n_266, t_267, n_267, t_268, n_268, t_269, n_269, t_270, n_270, r_0_0, r_0_1, r_0_2, r_0_3, r_0_6, r_0_7, r_0_8, r_0_9, r_0_11, r_0_12, r_0_13, r_0_14, r_0_15, r_1_0, r_3_0, r_3_1, r_3_2, r_6_0, r_6_1, r_6_4, r_6_5, r_6_7, r_7_0, r_7_1, r_7_2, r_7_3, r_7_4, r_17_0, r_17_1, r_18_1, r_18_2, r_18_3, r_18_4, r_18_6, r_28_1, r_28_2, r_28_3, r_28_4, r_28_6, r_38_0, r_253_0, r_253_1, r_253_2, r_253_3, r_258_0, r_258_1, r_258_3, r_258_4, r_258_6, r_258_8, r_265_0, r_265_1, r_265_3, r_265_4, r_265_5, r_0_4, r_0_5, Option.isSome_some, sd_bT trivial]
        exact nx
    · intro σ tx o ℓ htx hl hby h6 hlℓ
      obtain ⟨σ1, q1, q2, q3, q4, q5, q6⟩ := hM0 σ tx o ℓ htx hl hby h6
      obtain ⟨σ2, g1, g2, g3, g4⟩ := s2 σ1 tx o ℓ 0 (nI 0) hlℓ q2 q3 q4 (by omega) q5
      obtain ⟨gM, g17, g14⟩ := g3 l1 rfl
      have g13 : σ2.1 271 13 = nI 121 := (g1.2.1 13 (by omega)).trans q3
      obtain ⟨σ3, z1, z2, z3, z4⟩ := m2 σ2 tx o ℓ _ _ (.ref tx) (.int (nI o)) (.int (nI n)) hlℓ gM g13 g17 (by split <;> omega) g14 (fun q => by
        by_cases r : (0 : Nat) = 1 ∨ c1 ℓ = nI 0
        · rw [if_pos r]
        · rw [if_neg r] at q
          cases q)
      refine ⟨σ3, (q1.tr (hg2 g1)).tr (hg2 z1), by rw [Option.isSome_map]; exact z2, fun q => ?_, fun D Q hD => ?_⟩
      · rw [Option.isSome_map] at q
        rw [z3 q]
        by_cases r2 : c1 ℓ = nI 0
        · rw [if_pos (Or.inr r2), if_neg (by decide)]
          exact (if_pos r2).symm
        · have r3 : ¬ ((0 : Nat) = 1 ∨ c1 ℓ = nI 0) := fun q => q.elim (by decide) r2
          rw [if_neg r3, if_neg r3, if_pos rfl]
          exact (if_neg r2).symm
      · obtain ⟨d, rfl⟩ : ∃ d, D = d + 1 := ⟨D - 1, by omega⟩
        refine sd_Call.iff (fun Q hq => ?_) Q
        have nx := z4 d Q (by omega) hq
        rw [sd_Call.start (ls := [.ref 271, .ref tx, .int (nI o), .int (nI n)]) m_M_goThrough (by decide) (Nat.le_of_ble_eq_true rfl) rfl]
        exact q6 d Q (by omega) ((g4 d _ (by omega)).mpr nx)
    · cases r2 with
      | none => cases q
      | some l2 =>
        cases q
        obtain ⟨q1, q2, q3⟩ := p3 l2 rfl
        refine ⟨by rw [List.length_append]; omega, fun w hw => ?_, fun ℓ hl => ?_⟩
        · rcases List.mem_append.mp hw with hw | hw
          · exact o6 w hw
          · exact q2 w hw
        · have hat : ty_at (fun i => (l1 ++ l2).getD i 0) 0 (l1 ++ l2) := fun j hj => by rw [Nat.zero_add]
          obtain ⟨a1, a2⟩ := ty_at_app.mp hat
          show ty_R (fun i => (l1 ++ l2).getD i 0) (l1 ++ l2).length ℓ 0 [] = _
          rw [o7 ℓ hl _ _ 0 [] a1 (by rw [List.length_append]; omega), q3 ℓ hl _ _ _ [] a2 (by rw [List.length_append]; omega)]
end SDBR
