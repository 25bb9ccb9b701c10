/-! weights of the search; the best row -/
/-- the search's worths are these -/
def sw_W5 (σ : sd_Mem) (w : Nat → Nat → Nat → Int32) : Prop := ∀ m, m < 5 → ∀ r, r ≤ m → ∀ e, e < 8 → σ.1 269 ((m * 5 + r) * 8 + e) = w e m r
def sw_fW (σ σ' : sd_Mem) : Prop := (∀ e, e ≠ 6 → e ≠ 14 → e ≠ 15 → e ≠ 269 → σ'.1 e = σ.1 e) ∧ (∀ j, j ≠ 6 → σ'.1 6 j = σ.1 6 j) ∧ σ'.2 = σ.2
theorem sw_fW.rf {σ : sd_Mem} : sw_fW σ σ := ⟨fun _ _ _ _ _ => rfl, fun _ _ => rfl, rfl⟩
theorem sw_fW.tr {σ σ1 σ2 : sd_Mem} (h1 : sw_fW σ σ1) (h2 : sw_fW σ1 σ2) : sw_fW σ σ2 := ⟨fun e a b c d => (h2.1 e a b c d).trans (h1.1 e a b c d), fun j a => (h2.2.1 j a).trans (h1.2.1 j a), h2.2.2.trans h1.2.2⟩
theorem sw_fW.fX {σ σ' : sd_Mem} (h : sw_fW σ σ') : sw_fX σ σ' := ⟨fun k i q => by
  by_cases h6 : k = 6
  · subst h6
    exact h.2.1 i (by rintro rfl; cases q)
  · rw [h.1 k h6 (by rintro rfl; cases q) (by rintro rfl; cases q) (by rintro rfl; cases q)], fun k hk => h.1 k (by omega) (by omega) (by omega) (by omega), by rw [h.2.2]⟩
section SDAK
variable {L : Nat} {xs : Nat → Int32} {fm : Option Nat} {A U : sw_T} {σ : sd_Mem} {c : Nat}
theorem c_Search_weigh (hC : sd_isC c) (hX : sw_X σ c A) (hA : sw_AK A) (hvX : sw_vX σ U) (hU : sw_pU U) (hvT : ∀ t, t < U 2 0 0 → ∀ i, i < U 4 t 0 → sw_spk (U 5 t i)) {p : Nat} : ∃ σ', sw_fW σ σ' ∧ sw_W5 σ' (sw_w1 A U p) ∧ ∀ (d : Nat) Q, sd_Call (sd_E1 L xs fm) (d + 5) y_Search_weigh [.ref 265, .ref c, .ref 6, .int (nI p)] σ Q ↔ Q none σ' := by
  have hcc := hC.2.2.2.2.2.2.2.2.2.2.2
  obtain ⟨σ2, ⟨g1, g2⟩, g3⟩ := sd_loopM (β := Nat × (Option Value → sd_Mem → Prop)) (fun n σ' => sw_fW σ σ' ∧ ∀ m, m < n → ∀ r, r ≤ m → ∀ e, e < 8 → σ'.1 269 ((m * 5 + r) * 8 + e) = sw_w1 A U p e m r) (fun q n σ' => ∀ l5 l6, sd_Go (sd_E1 L xs fm) (q.1 + 4) y_Search_weigh 3 [.ref 265, .ref c, .ref 6, .int (nI p), .int (nI n), l5, l6] [] σ' q.2) 5 (by
    intro n σ' hn ⟨j1, j2⟩
    obtain ⟨σ3, ⟨h1, h2, h3⟩, h4⟩ := sd_loopM (β := Nat × (Option Value → sd_Mem → Prop)) (fun k σ'' => sw_fW σ σ'' ∧ (∀ m, m < n → ∀ r, r ≤ m → ∀ e, e < 8 → σ''.1 269 ((m * 5 + r) * 8 + e) = sw_w1 A U p e m r) ∧ ∀ r, r < k → ∀ e, e < 8 → σ''.1 269 ((n * 5 + r) * 8 + e) = sw_w1 A U p e n r) (fun q k σ'' => ∀ l6, sd_Go (sd_E1 L xs fm) (q.1 + 4) y_Search_weigh 12 [.ref 265, .ref c, .ref 6, .int (nI p), .int (nI n), .int (nI k), l6] [] σ'' q.2) (n + 1) (by
      intro k σ' hk ⟨i1, i2, i3⟩
      obtain ⟨σ4, ⟨a1, a2, a3, a4⟩, a5⟩ := sd_loopM (β := Nat × (Option Value → sd_Mem → Prop)) (fun t σ'' => sw_fW σ σ'' ∧ (∀ m, m < n → ∀ r, r ≤ m → ∀ e, e < 8 → σ''.1 269 ((m * 5 + r) * 8 + e) = sw_w1 A U p e m r) ∧ (∀ r, r < k → ∀ e, e < 8 → σ''.1 269 ((n * 5 + r) * 8 + e) = sw_w1 A U p e n r) ∧ ∀ e, e < t → σ''.1 269 ((n * 5 + k) * 8 + e) = sw_w1 A U p e n k) (fun q t σ'' => sd_Go (sd_E1 L xs fm) (q.1 + 4) y_Search_weigh 22 [.ref 265, .ref c, .ref 6, .int (nI p), .int (nI n), .int (nI k), .int (nI t)] [] σ'' q.2) 8 (by
        intro t σ' ht ⟨b1, b2, b3, b4⟩
        have hX' : sw_X σ' c A := hX.fr (fun j hj => b1.1 _ (by omega) (by omega) (by omega) (by omega))
        have hv' : sw_vX σ' U := hvX.fr (fun j hj => b1.2.1 j hj) (fun k h1 h2 => b1.1 k (by omega) (by omega) (by omega) (by omega)) hU.2.2.1
        obtain ⟨σ5, c1, c2⟩ := c_Tastes_worthOf (L := L) (xs := xs) (fm := fm) (p := p) (e := t) (i := n) (r := k) hC hX' hA hv' hU hvT ht
        have e269 : σ5.1 269 = σ'.1 269 := c1.1 269 (by decide) (by decide) (by decide)
        refine ⟨sd_wI σ5 269 ((n * 5 + k) * 8 + t) (sw_w1 A U p t n k), ⟨b1.tr ⟨fun e a b c d => by rw [wI_c d, c1.1 e a b c], fun j hj => by rw [wI_c (by decide), c1.2.1 j hj], c1.2.2⟩, fun m hm r hr e he => ?_, fun r hr e he => ?_, fun e he => ?_⟩, fun q hq => ?_⟩
        · rw [wI_o (by omega), e269]; exact b2 m hm r hr e he
        · rw [wI_o (by omega), e269]; exact b3 r hr e he
        · rw [wI_1]
          by_cases het : e = t
          · rw [if_pos ⟨rfl, by omega⟩, het]
          · rw [if_neg (by omega), e269]; exact b4 e (by omega)
        · have c2' := fun Q => c2 q.1 Q
          have h269 : (n * 5 + k) * 8 + t < 200 := by omega
          rw [z_Search_weigh_22]
          simp (disch := first | exact sd_cr | exact sd_ci | exact sd_cu | exact sd_cl9 | assumption | omega | exact t_259 | exact t_260 | exact t_261 | exact t_262 | exact t_263 | exact t_264 | exact t_254 | exact t_255 | exact t_256 | exact t_257 | exact t_266 | exact t_267 | exact t_268 | exact t_269 | exact t_270 | exact t_252 | exact t_240 | exact t_246 | exact t_2 | exact t_4 | exact t_5 | exact t_13 | exact t_14 | exact t_15 | exact t_16 | exact Or.inl t_39 | exact Or.inr t_7) only [z_Search_weigh_24, z_Search_weigh_26, z_Search_weigh_29, z_Search_weigh_30, z_Search_weigh_33, z_Search_weigh_35, z_Search_weigh_37, z_Search_weigh_39, z_Search_weigh_42, z_Search_weigh_43, z_Search_weigh_44, z_Search_weigh_45, z_Search_weigh_47, z_Search_weigh_49, z_Search_weigh_51, z_Search_weigh_54, z_Search_weigh_55, z_Search_weigh_58, false_and, and_false, if_true, if_false, Decidable.not_not, sd_ci, sd_cr, sd_cl9, sd_cu, sd_cat0, sd_cat1, sd_rfS, sd_n01, sd_n11, sd_n1, sd_n10, sd_n00, sd_b01, sd_b0, true_and, and_true, and_self, not_true_eq_false, not_false_eq_true, false_implies, true_implies, implies_true, or_true, true_or, or_false, false_or, Option.toList_some, Option.toList_none, List.cons_append, List.nil_append, Nat.reduceAdd, Nat.reduceLeDiff, nz_sub, nz_lt0, nz_ge0, nz_le0, nz_gt0, nz_eq0, nz_eq1, nz_lt, nz_le, nz_eq, nz_cl, nz_in, nz_add, nz_mul, nz_m1, nz_m1', Nat.reduceMul, Nat.reduceSub, Nat.reduceLT, Nat.reduceEqDiff, not_false_eq_true, false_implies, true_implies, true_and, and_true, h_0, h_1, t_2, n_2, h_3, t_4, n_4, t_5, n_5, h_6, t_7, n_7, t_8, n_8, t_9, n_9, t_10, n_10, t_11, n_11, t_12, n_12, t_13, n_13, t_14, n_14, t_15, n_15, t_16, n_16, h_17, h_18, t_19, n_19, t_20, n_20, t_21, n_21, t_22, n_22, h_28, t_29, n_29, t_30, n_30, t_31, n_31, t_32, n_32, h_38, t_39, n_39, t_240, n_240, t_246, n_246, t_252, n_252, h_253, t_254, n_254, t_255, n_255, t_256, n_256, t_257, n_257, h_258, t_259, n_259, t_260, n_260, t_261, n_261, t_262, n_262, t_263, n_263, t_264, n_264, h_265, t_266, n_266, t_267, n_267, t_268, n_268, t_269, n_269, t_270, n_270, r_0_0, r_0_1, r_0_2, r_0_3, r_0_6, r_0_7, r_0_8, r_0_9, r_0_11, r_0_12, r_0_13, r_0_14, r_0_15, r_1_0, r_3_0, r_3_1, r_3_2, r_6_0, r_6_1, r_6_4, r_6_5, r_6_7, r_7_0, r_7_1, r_7_2, r_7_3, r_7_4, r_17_0, r_17_1, r_18_1, r_18_2, r_18_3, r_18_4, r_18_6, r_28_1, r_28_2, r_28_3, r_28_4, r_28_6, r_38_0, r_253_0, r_253_1, r_253_2, r_253_3, r_258_0, r_258_1, r_258_3, r_258_4, r_258_6, r_258_8, r_265_0, r_265_1, r_265_3, r_265_4, r_265_5, r_0_4, r_0_5, c_Search_worthAt, c2']
          ((repeat' first | (refine And.intro ?_ ?_) | (intro _)) <;> first | omega | exact hq)) 8 0 σ' (by omega) ⟨i1, i2, i3, fun e he => by omega⟩
      refine ⟨σ4, ⟨a1, a2, fun r hr e he => ?_⟩, fun q hq l6 => ?_⟩
      · by_cases hrk : r = k
        · rw [hrk]; exact a4 e he
        · exact a3 r (by omega) e he
      · rw [z_Search_weigh_12]
        simp (disch := first | exact sd_cr | exact sd_ci | exact sd_cu | exact sd_cl9 | assumption | omega | exact t_259 | exact t_260 | exact t_261 | exact t_262 | exact t_263 | exact t_264 | exact t_254 | exact t_255 | exact t_256 | exact t_257 | exact t_266 | exact t_267 | exact t_268 | exact t_269 | exact t_270 | exact t_252 | exact t_240 | exact t_246 | exact t_2 | exact t_4 | exact t_5 | exact t_13 | exact t_14 | exact t_15 | exact t_16 | exact Or.inl t_39 | exact Or.inr t_7) only [z_Search_weigh_14, z_Search_weigh_16, z_Search_weigh_19, z_Search_weigh_20, false_and, and_false, if_true, if_false, Decidable.not_not, sd_ci, sd_cr, sd_cl9, sd_cu, sd_cat0, sd_cat1, sd_rfS, sd_n01, sd_n11, sd_n1, sd_n10, sd_n00, sd_b01, sd_b0, true_and, and_true, and_self, not_true_eq_false, not_false_eq_true, false_implies, true_implies, implies_true, or_true, true_or, or_false, false_or, Option.toList_some, Option.toList_none, List.cons_append, List.nil_append, Nat.reduceAdd, Nat.reduceLeDiff, nz_sub, nz_lt0, nz_ge0, nz_le0, nz_gt0, nz_eq0, nz_eq1, nz_lt, nz_le, nz_eq, nz_cl, nz_in, nz_add, nz_mul, nz_m1, nz_m1', Nat.reduceMul, Nat.reduceSub, Nat.reduceLT, Nat.reduceEqDiff, not_false_eq_true, false_implies, true_implies, true_and, and_true, h_0, h_1, t_2, n_2, h_3, t_4, n_4, t_5, n_5, h_6, t_7, n_7, t_8, n_8, t_9, n_9, t_10, n_10, t_11, n_11, t_12, n_12, t_13, n_13, t_14, n_14, t_15, n_15, t_16, n_16, h_17, h_18, t_19, n_19, t_20, n_20, t_21, n_21, t_22, n_22, h_28, t_29, n_29, t_30, n_30, t_31, n_31, t_32, n_32, h_38, t_39, n_39, t_240, n_240, t_246, n_246, t_252, n_252, h_253, t_254, n_254, t_255, n_255, t_256, n_256, t_257, n_257, h_258, t_259, n_259, t_260, n_260, t_261, n_261, t_262, n_262, t_263, n_263, t_264, n_264, h_265, t_266, n_266, t_267, n_267, t_268, n_268, t_269, n_269, t_270, n_270, r_0_0, r_0_1, r_0_2, r_0_3, r_0_6, r_0_7, r_0_8, r_0_9, r_0_11, r_0_12, r_0_13, r_0_14, r_0_15, r_1_0, r_3_0, r_3_1, r_3_2, r_6_0, r_6_1, r_6_4, r_6_5, r_6_7, r_7_0, r_7_1, r_7_2, r_7_3, r_7_4, r_17_0, r_17_1, r_18_1, r_18_2, r_18_3, r_18_4, r_18_6, r_28_1, r_28_2, r_28_3, r_28_4, r_28_6, r_38_0, r_253_0, r_253_1, r_253_2, r_253_3, r_258_0, r_258_1, r_258_3, r_258_4, r_258_6, r_258_8, r_265_0, r_265_1, r_265_3, r_265_4, r_265_5, r_0_4, r_0_5]
        ((repeat' first | (refine And.intro ?_ ?_) | (intro _)) <;> try omega)
        refine a5 q ?_
        show sd_Go (sd_E1 L xs fm) (q.1 + 4) y_Search_weigh 22 [.ref 265, .ref c, .ref 6, .int (nI p), .int (nI n), .int (nI k), .int (nI 8)] [] σ4 q.2
        rw [z_Search_weigh_22]
        simp (disch := first | exact sd_cr | exact sd_ci | exact sd_cu | exact sd_cl9 | assumption | omega | exact t_259 | exact t_260 | exact t_261 | exact t_262 | exact t_263 | exact t_264 | exact t_254 | exact t_255 | exact t_256 | exact t_257 | exact t_266 | exact t_267 | exact t_268 | exact t_269 | exact t_270 | exact t_252 | exact t_240 | exact t_246 | exact t_2 | exact t_4 | exact t_5 | exact t_13 | exact t_14 | exact t_15 | exact t_16 | exact Or.inl t_39 | exact Or.inr t_7) only [z_Search_weigh_24, z_Search_weigh_26, z_Search_weigh_61, z_Search_weigh_64, false_and, and_false, if_true, if_false, Decidable.not_not, sd_ci, sd_cr, sd_cl9, sd_cu, sd_cat0, sd_cat1, sd_rfS, sd_n01, sd_n11, sd_n1, sd_n10, sd_n00, sd_b01, sd_b0, true_and, and_true, and_self, not_true_eq_false, not_false_eq_true, false_implies, true_implies, implies_true, or_true, true_or, or_false, false_or, Option.toList_some, Option.toList_none, List.cons_append, List.nil_append, Nat.reduceAdd, Nat.reduceLeDiff, nz_sub, nz_lt0, nz_ge0, nz_le0, nz_gt0, nz_eq0, nz_eq1, nz_lt, nz_le, nz_eq, nz_cl, nz_in, nz_add, nz_mul, nz_m1, nz_m1', Nat.reduceMul, Nat.reduceSub, Nat.reduceLT, Nat.reduceEqDiff, not_false_eq_true, false_implies, true_implies, true_and, and_true, h_0, h_1, t_2, n_2, h_3, t_4, n_4, t_5, n_5, h_6, t_7, n_7, t_8, n_8, t_9, n_9, t_10, n_10, t_11, n_11, t_12, n_12, t_13, n_13, t_14, n_14, t_15, n_15, t_16, n_16, h_17, h_18, t_19, n_19, t_20, n_20, t_21, n_21, t_22, n_22, h_28, t_29, n_29, t_30, n_30, t_31, n_31, t_32, n_32, h_38, t_39, n_39, t_240, n_240, t_246, n_246, t_252, n_252, h_253, t_254, n_254, t_255, n_255, t_256, n_256, t_257, n_257, h_258, t_259, n_259, t_260, n_260, t_261, n_261, t_262, n_262, t_263, n_263, t_264, n_264, h_265, t_266, n_266, t_267, n_267, t_268, n_268, t_269, n_269, t_270, n_270, r_0_0, r_0_1, r_0_2, r_0_3, r_0_6, r_0_7, r_0_8, r_0_9, r_0_11, r_0_12, r_0_13, r_0_14, r_0_15, r_1_0, r_3_0, r_3_1, r_3_2, r_6_0, r_6_1, r_6_4, r_6_5, r_6_7, r_7_0, r_7_1, r_7_2, r_7_3, r_7_4, r_17_0, r_17_1, r_18_1, r_18_2, r_18_3, r_18_4, r_18_6, r_28_1, r_28_2, r_28_3, r_28_4, r_28_6, r_38_0, r_253_0, r_253_1, r_253_2, r_253_3, r_258_0, r_258_1, r_258_3, r_258_4, r_258_6, r_258_8, r_265_0, r_265_1, r_265_3, r_265_4, r_265_5, r_0_4, r_0_5]
        ((repeat' first | (refine And.intro ?_ ?_) | (intro _)) <;> first | omega | exact hq _)) (n + 1) 0 σ' (by omega) ⟨j1, j2, fun r hr => by omega⟩
    refine ⟨σ3, ⟨h1, fun m hm r hr e he => ?_⟩, fun q hq l5 l6 => ?_⟩
    · by_cases hmn : m = n
      · rw [hmn]; exact h3 r (by omega) e he
      · exact h2 m (by omega) r hr e he
    · rw [z_Search_weigh_3]
      simp (disch := first | exact sd_cr | exact sd_ci | exact sd_cu | exact sd_cl9 | assumption | omega | exact t_259 | exact t_260 | exact t_261 | exact t_262 | exact t_263 | exact t_264 | exact t_254 | exact t_255 | exact t_256 | exact t_257 | exact t_266 | exact t_267 | exact t_268 | exact t_269 | exact t_270 | exact t_252 | exact t_240 | exact t_246 | exact t_2 | exact t_4 | exact t_5 | exact t_13 | exact t_14 | exact t_15 | exact t_16 | exact Or.inl t_39 | exact Or.inr t_7) only [z_Search_weigh_5, z_Search_weigh_6, z_Search_weigh_9, z_Search_weigh_10, false_and, and_false, if_true, if_false, Decidable.not_not, sd_ci, sd_cr, sd_cl9, sd_cu, sd_cat0, sd_cat1, sd_rfS, sd_n01, sd_n11, sd_n1, sd_n10, sd_n00, sd_b01, sd_b0, true_and, and_true, and_self, not_true_eq_false, not_false_eq_true, false_implies, true_implies, implies_true, or_true, true_or, or_false, false_or, Option.toList_some, Option.toList_none, List.cons_append, List.nil_append, Nat.reduceAdd, Nat.reduceLeDiff, nz_sub, nz_lt0, nz_ge0, nz_le0, nz_gt0, nz_eq0, nz_eq1, nz_lt, nz_le, nz_eq, nz_cl, nz_in, nz_add, nz_mul, nz_m1, nz_m1', Nat.reduceMul, Nat.reduceSub, Nat.reduceLT, Nat.reduceEqDiff, not_false_eq_true, false_implies, true_implies, true_and, and_true, h_0, h_1, t_2, n_2, h_3, t_4, n_4, t_5, n_5, h_6, t_7, n_7, t_8, n_8, t_9, n_9, t_10, n_10, t_11, n_11, t_12, n_12, t_13, n_13, t_14, n_14, t_15, n_15, t_16, n_16, h_17, h_18, t_19, n_19, t_20, n_20, t_21, n_21, t_22, n_22, h_28, t_29, n_29, t_30, n_30, t_31, n_31, t_32, n_32, h_38, t_39, n_39, t_240, n_240, t_246, n_246, t_252, n_252, h_253, t_254, n_254, t_255, n_255, t_256, n_256, t_257, n_257, h_258, t_259, n_259, t_260, n_260, t_261, n_261, t_262, n_262, t_263, n_263, t_264, n_264, h_265, t_266, n_266, t_267, n_267, t_268, n_268, t_269, n_269, t_270, n_270, r_0_0, r_0_1, r_0_2, r_0_3, r_0_6, r_0_7, r_0_8, r_0_9, r_0_11, r_0_12, r_0_13, r_0_14, r_0_15, r_1_0, r_3_0, r_3_1, r_3_2, r_6_0, r_6_1, r_6_4, r_6_5, r_6_7, r_7_0, r_7_1, r_7_2, r_7_3, r_7_4, r_17_0, r_17_1, r_18_1, r_18_2, r_18_3, r_18_4, r_18_6, r_28_1, r_28_2, r_28_3, r_28_4, r_28_6, r_38_0, r_253_0, r_253_1, r_253_2, r_253_3, r_258_0, r_258_1, r_258_3, r_258_4, r_258_6, r_258_8, r_265_0, r_265_1, r_265_3, r_265_4, r_265_5, r_0_4, r_0_5]
      ((repeat' first | (refine And.intro ?_ ?_) | (intro _)) <;> try omega)
      refine h4 q (fun l6 => ?_) _
      show sd_Go (sd_E1 L xs fm) (q.1 + 4) y_Search_weigh 12 [.ref 265, .ref c, .ref 6, .int (nI p), .int (nI n), .int (nI (n + 1)), l6] [] σ3 q.2
      rw [z_Search_weigh_12]
      simp (disch := first | exact sd_cr | exact sd_ci | exact sd_cu | exact sd_cl9 | assumption | omega | exact t_259 | exact t_260 | exact t_261 | exact t_262 | exact t_263 | exact t_264 | exact t_254 | exact t_255 | exact t_256 | exact t_257 | exact t_266 | exact t_267 | exact t_268 | exact t_269 | exact t_270 | exact t_252 | exact t_240 | exact t_246 | exact t_2 | exact t_4 | exact t_5 | exact t_13 | exact t_14 | exact t_15 | exact t_16 | exact Or.inl t_39 | exact Or.inr t_7) only [z_Search_weigh_14, z_Search_weigh_16, z_Search_weigh_67, z_Search_weigh_70, false_and, and_false, if_true, if_false, Decidable.not_not, sd_ci, sd_cr, sd_cl9, sd_cu, sd_cat0, sd_cat1, sd_rfS, sd_n01, sd_n11, sd_n1, sd_n10, sd_n00, sd_b01, sd_b0, true_and, and_true, and_self, not_true_eq_false, not_false_eq_true, false_implies, true_implies, implies_true, or_true, true_or, or_false, false_or, Option.toList_some, Option.toList_none, List.cons_append, List.nil_append, Nat.reduceAdd, Nat.reduceLeDiff, nz_sub, nz_lt0, nz_ge0, nz_le0, nz_gt0, nz_eq0, nz_eq1, nz_lt, nz_le, nz_eq, nz_cl, nz_in, nz_add, nz_mul, nz_m1, nz_m1', Nat.reduceMul, Nat.reduceSub, Nat.reduceLT, Nat.reduceEqDiff, not_false_eq_true, false_implies, true_implies, true_and, and_true, h_0, h_1, t_2, n_2, h_3, t_4, n_4, t_5, n_5, h_6, t_7, n_7, t_8, n_8, t_9, n_9, t_10, n_10, t_11, n_11, t_12, n_12, t_13, n_13, t_14, n_14, t_15, n_15, t_16, n_16, h_17, h_18, t_19, n_19, t_20, n_20, t_21, n_21, t_22, n_22, h_28, t_29, n_29, t_30, n_30, t_31, n_31, t_32, n_32, h_38, t_39, n_39, t_240, n_240, t_246, n_246, t_252, n_252, h_253, t_254, n_254, t_255, n_255, t_256, n_256, t_257, n_257, h_258, t_259, n_259, t_260, n_260, t_261, n_261, t_262, n_262, t_263, n_263, t_264, n_264, h_265, t_266, n_266, t_267, n_267, t_268, n_268, t_269, n_269, t_270, n_270, r_0_0, r_0_1, r_0_2, r_0_3, r_0_6, r_0_7, r_0_8, r_0_9, r_0_11, r_0_12, r_0_13, r_0_14, r_0_15, r_1_0, r_3_0, r_3_1, r_3_2, r_6_0, r_6_1, r_6_4, r_6_5, r_6_7, r_7_0, r_7_1, r_7_2, r_7_3, r_7_4, r_17_0, r_17_1, r_18_1, r_18_2, r_18_3, r_18_4, r_18_6, r_28_1, r_28_2, r_28_3, r_28_4, r_28_6, r_38_0, r_253_0, r_253_1, r_253_2, r_253_3, r_258_0, r_258_1, r_258_3, r_258_4, r_258_6, r_258_8, r_265_0, r_265_1, r_265_3, r_265_4, r_265_5, r_0_4, r_0_5]
      ((repeat' first | (refine And.intro ?_ ?_) | (intro _)) <;> first | omega | exact hq _ _)) 5 0 σ (by omega) ⟨sw_fW.rf, fun m hm => by omega⟩
  refine ⟨σ2, g1, g2, fun d Q => sd_Call.iff (fun Q hq => ?_) Q⟩
  rw [sd_Call.start (ls := [.ref 265, .ref c, .ref 6, .int (nI p), sd_un, sd_un, sd_un]) m_Search_weigh (by decide) (Nat.le_of_ble_eq_true rfl) rfl]
  simp (disch := first | exact sd_cr | exact sd_ci | exact sd_cu | exact sd_cl9 | assumption | omega | exact t_259 | exact t_260 | exact t_261 | exact t_262 | exact t_263 | exact t_264 | exact t_254 | exact t_255 | exact t_256 | exact t_257 | exact t_266 | exact t_267 | exact t_268 | exact t_269 | exact t_270 | exact t_252 | exact t_240 | exact t_246 | exact t_2 | exact t_4 | exact t_5 | exact t_13 | exact t_14 | exact t_15 | exact t_16 | exact Or.inl t_39 | exact Or.inr t_7) only [z_Search_weigh_0, z_Search_weigh_1, false_and, and_false, if_true, if_false, Decidable.not_not, sd_ci, sd_cr, sd_cl9, sd_cu, sd_cat0, sd_cat1, sd_rfS, sd_n01, sd_n11, sd_n1, sd_n10, sd_n00, sd_b01, sd_b0, true_and, and_true, and_self, not_true_eq_false, not_false_eq_true, false_implies, true_implies, implies_true, or_true, true_or, or_false, false_or, Option.toList_some, Option.toList_none, List.cons_append, List.nil_append, Nat.reduceAdd, Nat.reduceLeDiff]
  refine g3 (d, Q) (fun l5 l6 => ?_) _ _
  show sd_Go (sd_E1 L xs fm) (d + 4) y_Search_weigh 3 [.ref 265, .ref c, .ref 6, .int (nI p), .int (nI 5), l5, l6] [] σ2 Q
  rw [z_Search_weigh_3]
  simp (disch := first | exact sd_cr | exact sd_ci | exact sd_cu | exact sd_cl9 | assumption | omega | exact t_259 | exact t_260 | exact t_261 | exact t_262 | exact t_263 | exact t_264 | exact t_254 | exact t_255 | exact t_256 | exact t_257 | exact t_266 | exact t_267 | exact t_268 | exact t_269 | exact t_270 | exact t_252 | exact t_240 | exact t_246 | exact t_2 | exact t_4 | exact t_5 | exact t_13 | exact t_14 | exact t_15 | exact t_16 | exact Or.inl t_39 | exact Or.inr t_7) only [z_Search_weigh_5, z_Search_weigh_6, z_Search_weigh_73, false_and, and_false, if_true, if_false, Decidable.not_not, sd_ci, sd_cr, sd_cl9, sd_cu, sd_cat0, sd_cat1, sd_rfS, sd_n01, sd_n11, sd_n1, sd_n10, sd_n00, sd_b01, sd_b0, true_and, and_true, and_self, not_true_eq_false, not_false_eq_true, false_implies, true_implies, implies_true, or_true, true_or, or_false, false_or, Option.toList_some, Option.toList_none, List.cons_append, List.nil_append, Nat.reduceAdd, Nat.reduceLeDiff, nz_sub, nz_lt0, nz_ge0, nz_le0, nz_gt0, nz_eq0, nz_eq1, nz_lt, nz_le, nz_eq, nz_cl, nz_in, nz_add, nz_mul, nz_m1, nz_m1', Nat.reduceMul, Nat.reduceSub, Nat.reduceLT, Nat.reduceEqDiff, not_false_eq_true, false_implies, true_implies, true_and, and_true, h_0, h_1, t_2, n_2, h_3, t_4, n_4, t_5, n_5, h_6, t_7, n_7, t_8, n_8, t_9, n_9, t_10, n_10, t_11, n_11, t_12, n_12, t_13, n_13, t_14, n_14, t_15, n_15, t_16, n_16, h_17, h_18, t_19, n_19, t_20, n_20, t_21, n_21, t_22, n_22, h_28, t_29, n_29, t_30, n_30, t_31, n_31, t_32, n_32, h_38, t_39, n_39, t_240, n_240, t_246, n_246, t_252, n_252, h_253, t_254, n_254, t_255, n_255, t_256, n_256, t_257, n_257, h_258, t_259, n_259, t_260, n_260, t_261, n_261, t_262, n_262, t_263, n_263, t_264, n_264, h_265, t_266, n_266, t_267, n_267, t_268, n_268, t_269, n_269, t_270, n_270, r_0_0, r_0_1, r_0_2, r_0_3, r_0_6, r_0_7, r_0_8, r_0_9, r_0_11, r_0_12, r_0_13, r_0_14, r_0_15, r_1_0, r_3_0, r_3_1, r_3_2, r_6_0, r_6_1, r_6_4, r_6_5, r_6_7, r_7_0, r_7_1, r_7_2, r_7_3, r_7_4, r_17_0, r_17_1, r_18_1, r_18_2, r_18_3, r_18_4, r_18_6, r_28_1, r_28_2, r_28_3, r_28_4, r_28_6, r_38_0, r_253_0, r_253_1, r_253_2, r_253_3, r_258_0, r_258_1, r_258_3, r_258_4, r_258_6, r_258_8, r_265_0, r_265_1, r_265_3, r_265_4, r_265_5, r_0_4, r_0_5]
  ((repeat' first | (refine And.intro ?_ ?_) | (intro _)) <;> first | omega | exact hq)
end SDAK
/-- JOY of a row of l -/
theorem sw_jy_js {σ : sd_Mem} {w : Nat → Nat → Nat → Int32} (h : sw_W5 σ w) {l x : Nat} (hl : l ≤ 5) : ∀ k, k ≤ l → sw_jy (σ.1 269) k (x / 8 ^ (l - k)) = sw_js w (sw_dg l x) k
  | 0, _ => rfl
  | k + 1, hk => by
    have ih := sw_jy_js h (x := x) hl k (by omega)
    have e1 := sw_dg_k (l := l) (x := x) (k := k) (by omega)
    show sw_jy (σ.1 269) k (x / 8 ^ (l - (k + 1)) / 8) + σ.1 269 ((k * 5 + sw_cn (sw_dg k (x / 8 ^ (l - (k + 1)) / 8)) (x / 8 ^ (l - (k + 1)) % 8) k) * 8 + x / 8 ^ (l - (k + 1)) % 8) = sw_js w (sw_dg l x) k + w (sw_dg l x k) k (sw_cn (sw_dg l x) (sw_dg l x k) k)
    rw [e1.1, e1.2, ih]
    have e2 : sw_cn (sw_dg k (x / 8 ^ (l - k))) (sw_dg l x k) k = sw_cn (sw_dg l x) (sw_dg l x k) k := sw_cn_c k (fun i hi => by
      have := sw_dg_p (m := k) (j := l - k) (x := x) (k := i) rfl hi
      rw [show k + (l - k) = l by omega] at this
      exact this.symm)
    rw [e2]
    have hc := sw_cn_le (sw_dg l x) (sw_dg l x k) k
    rw [h k (by omega) _ hc _ (sw_dg_lt l x k)]
/-- the best among the first rows that K keeps -/
def sw_bs (K : Nat → Bool) (v : Nat → Int32) (x : Nat) (s : Option Nat × Int32) : Option Nat × Int32 := if K x = true ∧ (s.1 = none ∨ ¬ v x ≤ s.2) then (some x, v x) else s
theorem sw_run_bi {br : Nat → Nat → Nat → Nat} {wo : Nat → Int32} {H : Nat → Nat} {P : Nat → Bool} {l : Nat} (hH : ∀ d, H d ≤ 9) (hl : l ≤ 5) (hP : ∀ x, P x = true ↔ (sw_st br l x = 0 ∧ 0 ≤ sw_hm H l x)) {s : Nat → Int32} (hs : sw_fi P l 0 (-1) 0 s) (h14 : s 14 = -1) (h15 : s 15 = nI 0) : ∀ n, n ≤ 100000 → sd_fold (sw_g br sw_hp (sw_ar wo H l) sw_en l) n 0 s 14 = sd_o ((sd_fold (sw_bs P (fun x => sw_wi (nI 9999) (sw_jy wo l x))) n 0 (none, nI 0)).1.map (sw_dc l)) ∧ sd_fold (sw_g br sw_hp (sw_ar wo H l) sw_en l) n 0 s 15 = (sd_fold (sw_bs P (fun x => sw_wi (nI 9999) (sw_jy wo l x))) n 0 (none, nI 0)).2 ∧ ((sd_fold (sw_bs P (fun x => sw_wi (nI 9999) (sw_jy wo l x))) n 0 (none, nI 0)).1 = none ↔ sw_ct P n = 0)
  | 0, _ => ⟨h14, h15, ⟨fun _ => rfl, fun _ => rfl⟩⟩
  | n + 1, hn => by
    have ih := sw_run_bi (wo := wo) hH hl hP hs h14 h15 n (by omega)
    have hfi := sw_run_fi (wo := wo) (by decide) hH hl hP hs n (by omega)
    rw [sd_fold_succ, sd_fold_succ, Nat.zero_add]
    generalize sd_fold (sw_g br sw_hp (sw_ar wo H l) sw_en l) n 0 s = s at ih hfi
    generalize sd_fold (sw_bs P (fun x => sw_wi (nI 9999) (sw_jy wo l x))) n 0 (none, nI 0) = b at ih
    obtain ⟨h7, h8, h9, hfi⟩ := hfi
    obtain ⟨i1, i2, i3⟩ := ih
    rcases hfi with ⟨h10, h12, h13, hi⟩ | ⟨_, i, x, hi, hw, _⟩
    case inr => exact absurd hw (fun q => (nz_m1' hi).mp q)
    have he : sw_en s = false := by unfold sw_en; rw [h10]; decide
    have hhp : sw_hp s (sw_st br l n) = decide (¬ sw_st br l n = 0) := by unfold sw_hp; rw [h9]; exact if_pos (by decide)
    unfold sw_g
    rw [he, if_neg (by decide), hhp]
    unfold sw_bs
    have e1 : sd_o (b.1.map (sw_dc l)) = -1 ↔ b.1 = none := by
      cases hb : b.1 with
      | none => exact ⟨fun _ => rfl, fun _ => rfl⟩
      | some z =>
        have := sw_dc_5 (m := l) (N := z) hl
        exact ⟨fun q => ((nz_m1 (by omega)).mp q).elim, fun q => by cases q⟩
    by_cases h0 : sw_st br l n = 0
    · have hp : P n = true := (hP n).mpr ⟨h0, Nat.zero_le _⟩
      have ect : sw_ct P (n + 1) = sw_ct P n + 1 := if_pos hp
      have hle : s 7 ≤ nI (sw_hm H l n) := by
        rw [h7]
        have := sw_hm_le hH l n
        exact (nz_le (by omega) (by omega)).mpr (Nat.zero_le _)
      have har : sw_ar wo H l n (sw_st br l n) s = sw_ar2 (nI (sw_dc l n)) (sw_wi (nI 9999) (sw_jy wo l n)) (sw_ar1 (nI (sw_dc l n)) s) := by
        unfold sw_ar
        rw [h9, if_neg (by decide), if_neg (fun q => q hle)]
      rw [if_neg (by rw [decide_eq_true_eq]; exact fun q => q h0), har]
      have a14 : sw_ar1 (nI (sw_dc l n)) s 14 = s 14 := by unfold sw_ar1; split <;> rfl
      have a15 : sw_ar1 (nI (sw_dc l n)) s 15 = s 15 := by unfold sw_ar1; split <;> rfl
      unfold sw_ar2
      rw [a14, a15, i1, i2]
      by_cases hc : b.1 = none ∨ ¬ sw_wi (nI 9999) (sw_jy wo l n) ≤ b.2
      · rw [if_pos (hc.imp e1.mpr id), if_pos ⟨hp, hc⟩]
        exact ⟨rfl, rfl, ⟨fun q => (by cases q), fun q => by omega⟩⟩
      · rw [if_neg (fun q => hc (q.imp e1.mp id)), if_neg (fun q => hc q.2)]
        refine ⟨by rw [a14]; exact i1, by rw [a15]; exact i2, ⟨fun q => absurd (Or.inl q) hc, fun q => by omega⟩⟩
    · have hp : ¬ P n = true := fun q => h0 ((hP n).mp q).1
      have ect : sw_ct P (n + 1) = sw_ct P n := if_neg hp
      rw [if_pos (by rw [decide_eq_true_eq]; exact h0), if_neg (fun q => hp q.1), ect]
      exact ⟨i1, i2, i3⟩
