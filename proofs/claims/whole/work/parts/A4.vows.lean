/-! the vows that the search holds -/
def sw_bl (W : sw_T) (p n : Nat) : List Nat := (List.range n).filter (fun v => decide (sw_bn W p v))
section SDA4
variable {W : sw_T} {p : Nat}
theorem sw_bl_s (n : Nat) : sw_bl W p (n + 1) = if sw_bn W p n then sw_bl W p n ++ [n] else sw_bl W p n := by
  unfold sw_bl
  rw [List.range_succ, List.filter_append]
  by_cases h : sw_bn W p n
  · rw [List.filter_cons_of_pos (p := fun v => decide (sw_bn W p v)) (decide_eq_true h), List.filter_nil, if_pos h]
  · rw [List.filter_cons_of_neg (p := fun v => decide (sw_bn W p v)) (by rw [decide_eq_true_eq]; exact h), List.filter_nil, List.append_nil, if_neg h]
theorem sw_bl_mem {n v : Nat} : v ∈ sw_bl W p n ↔ v < n ∧ sw_bn W p v := by
  unfold sw_bl
  rw [List.mem_filter, List.mem_range, decide_eq_true_eq]
theorem sw_bl_len (n : Nat) : (sw_bl W p n).length ≤ n := by
  have := List.length_filter_le (fun v => decide (sw_bn W p v)) (List.range n)
  rw [List.length_range] at this
  exact this
theorem sw_bl_pre {v : Nat} : ∀ n, ∃ t, sw_bl W p (v + n) = sw_bl W p v ++ t
  | 0 => ⟨[], by rw [List.append_nil, Nat.add_zero]⟩
  | n + 1 => by
    obtain ⟨t, ht⟩ := sw_bl_pre (v := v) n
    rw [← Nat.add_assoc, sw_bl_s]
    split
    · exact ⟨t ++ [v + n], by rw [ht, List.append_assoc]⟩
    · exact ⟨t, ht⟩
theorem sw_bl_eq {v n : Nat} (hv : v ≤ n) (hl : (sw_bl W p n).length ≤ (sw_bl W p v).length) : sw_bl W p n = sw_bl W p v := by
  obtain ⟨t, ht⟩ := sw_bl_pre (W := W) (p := p) (v := v) (n - v)
  rw [show v + (n - v) = n by omega] at ht
  rw [ht, List.length_append] at hl
  rw [ht, List.length_eq_zero_iff.mp (show t.length = 0 by omega), List.append_nil]
/-- of two persons together -/
theorem sw_bl_two {q : Nat} (hpq : p ≠ q) : ∀ n, (sw_bl W p n).length + (sw_bl W q n).length ≤ n
  | 0 => Nat.le_refl _
  | n + 1 => by
    have ih := sw_bl_two hpq n
    rw [sw_bl_s, sw_bl_s]
    by_cases h1 : sw_bn W p n
    · have h2 : ¬ sw_bn W q n := fun h2 => hpq (h1.2.1.symm.trans h2.2.1)
      rw [if_pos h1, if_neg h2, List.length_append]
      have : [n].length = 1 := rfl
      omega
    · rw [if_neg h1]
      split
      · rw [List.length_append]
        have : [n].length = 1 := rfl
        omega
      · omega
end SDA4
/-- what the search's vows may change -/
def sw_f6 (σ σ' : sd_Mem) : Prop := (∀ e, e ≠ 265 → e ≠ 266 → e ≠ 267 → e ≠ 268 → σ'.1 e = σ.1 e) ∧ (∀ j, j ≠ 2 → σ'.1 265 j = σ.1 265 j) ∧ σ'.2 = σ.2
theorem sw_f6.rf {σ : sd_Mem} : sw_f6 σ σ := ⟨fun _ _ _ _ _ => rfl, fun _ _ => rfl, rfl⟩
theorem sw_f6.tr {σ σ1 σ2 : sd_Mem} (h1 : sw_f6 σ σ1) (h2 : sw_f6 σ1 σ2) : sw_f6 σ σ2 := ⟨fun e a b c f => (h2.1 e a b c f).trans (h1.1 e a b c f), fun j a => (h2.2.1 j a).trans (h1.2.1 j a), h2.2.2.trans h1.2.2⟩
section SDA4b
variable {L : Nat} {xs : Nat → Int32} {fm : Option Nat} {A W : sw_T} {σ : sd_Mem} {c : Nat}
theorem c_Search_clear (hC : sd_isC c) (hX : sw_X σ c A) : ∃ σ', sw_f6 σ σ' ∧ sw_vl σ' W [] ∧ (∀ e, e < 8 → σ'.1 268 e = nI (A 3 e 0)) ∧ ∀ (d : Nat) Q, sd_Call (sd_E1 L xs fm) (d + 1) y_Search_clear [.ref 265, .ref c] σ Q ↔ Q none σ' := by
  obtain ⟨k0, k1, k2, k3, k4, k5, k6, k7, k8, r0, r1, r2, r3, r4, k9⟩ := hC.all (L := L) (xs := xs) (fm := fm)
  have hcc := hC.2.2.2.2.2.2.2.2.2.2.2
  refine ⟨sd_wA (sd_wI σ 265 2 (nI 0)) 268 (va_cpy ((sd_wI σ 265 2 (nI 0)).1 (c + 3)) ((sd_wI σ 265 2 (nI 0)).1 268) 0 0 8), ⟨fun e a b c f => by rw [wA_c f, wI_c a], fun j hj => by rw [wA_c (by decide), wI_o hj], rfl⟩, ⟨by rw [wA_c (by decide), wI_k]; rfl, fun k hk => absurd hk (Nat.not_lt_zero _)⟩, fun e he => ?_, fun d Q => sd_Call.iff (fun Q hq => ?_) Q⟩
  · rw [wA_k, pk_cpy_in (Nat.zero_le _) (by omega), wI_c (by omega), Nat.zero_add, Nat.sub_zero]
    exact hX.2.2.2.2.1 e he
  · rw [sd_Call.start (ls := [.ref 265, .ref c]) m_Search_clear (by decide) (Nat.le_of_ble_eq_true rfl) rfl]
    simp (disch := first | exact sd_cr | exact sd_ci | exact sd_cu | exact sd_cl9 | assumption | omega | exact t_259 | exact t_260 | exact t_261 | exact t_262 | exact t_263 | exact t_264 | exact t_254 | exact t_255 | exact t_256 | exact t_257 | exact t_266 | exact t_267 | exact t_268 | exact t_269 | exact t_270 | exact t_252 | exact t_240 | exact t_246 | exact t_2 | exact t_4 | exact t_5 | exact t_13 | exact t_14 | exact t_15 | exact t_16 | exact Or.inl t_39 | exact Or.inr t_7) only [z_Search_clear_0, z_Search_clear_1, z_Search_clear_2, z_Search_clear_5, z_Search_clear_6, z_Search_clear_9, z_Search_clear_10, z_Search_clear_11, z_Search_clear_14, z_Search_clear_15, z_Search_clear_17, z_Search_clear_20, false_and, and_false, if_true, if_false, Decidable.not_not, sd_ci, sd_cr, sd_cl9, sd_cu, sd_cat0, sd_cat1, sd_rfS, sd_n01, sd_n11, sd_n1, sd_n10, sd_n00, sd_b01, sd_b0, true_and, and_true, and_self, not_true_eq_false, not_false_eq_true, false_implies, true_implies, implies_true, or_true, true_or, or_false, false_or, Option.toList_some, Option.toList_none, List.cons_append, List.nil_append, Nat.reduceAdd, Nat.reduceLeDiff, nz_sub, nz_lt0, nz_ge0, nz_le0, nz_gt0, nz_eq0, nz_eq1, nz_lt, nz_le, nz_eq, nz_cl, nz_in, nz_add, nz_mul, nz_m1, nz_m1', Nat.reduceMul, Nat.reduceSub, Nat.reduceLT, Nat.reduceEqDiff, not_false_eq_true, false_implies, true_implies, true_and, and_true, h_0, h_1, t_2, n_2, h_3, t_4, n_4, t_5, n_5, h_6, t_7, n_7, t_8, n_8, t_9, n_9, t_10, n_10, t_11, n_11, t_12, n_12, t_13, n_13, t_14, n_14, t_15, n_15, t_16, n_16, h_17, h_18, t_19, n_19, t_20, n_20, t_21, n_21, t_22, n_22, h_28, t_29, n_29, t_30, n_30, t_31, n_31, t_32, n_32, h_38, t_39, n_39, t_240, n_240, t_246, n_246, t_252, n_252, h_253, t_254, n_254, t_255, n_255, t_256, n_256, t_257, n_257, h_258, t_259, n_259, t_260, n_260, t_261, n_261, t_262, n_262, t_263, n_263, t_264, n_264, h_265, t_266, n_266, t_267, n_267, t_268, n_268, t_269, n_269, t_270, n_270, r_0_0, r_0_1, r_0_2, r_0_3, r_0_6, r_0_7, r_0_8, r_0_9, r_0_11, r_0_12, r_0_13, r_0_14, r_0_15, r_1_0, r_3_0, r_3_1, r_3_2, r_6_0, r_6_1, r_6_4, r_6_5, r_6_7, r_7_0, r_7_1, r_7_2, r_7_3, r_7_4, r_17_0, r_17_1, r_18_1, r_18_2, r_18_3, r_18_4, r_18_6, r_28_1, r_28_2, r_28_3, r_28_4, r_28_6, r_38_0, r_253_0, r_253_1, r_253_2, r_253_3, r_258_0, r_258_1, r_258_3, r_258_4, r_258_6, r_258_8, r_265_0, r_265_1, r_265_3, r_265_4, r_265_5, r_0_4, r_0_5, k0, k5, k6, r2, Nat.zero_add, Nat.le_refl]
    exact hq
theorem c_Search_addVowsOf {k P p : Nat} {ix : List Nat} (hk : sd_isS k) (hk2 : k ≤ 33) (hS : sw_S σ k P W) (hW : sw_OK P W) (hp : p < 1000) (hl : sw_vl σ W ix) (hlen : ix.length + (sw_bl W p (W 0 0 0)).length ≤ 12) : ∃ σ', sw_f6 σ σ' ∧ σ'.1 268 = σ.1 268 ∧ sw_vl σ' W (ix ++ sw_bl W p (W 0 0 0)) ∧ ∀ (d : Nat) Q, sd_Call (sd_E1 L xs fm) (d + 3) y_Search_addVowsOf [.ref 265, .ref k, .int (nI p)] σ Q ↔ Q none σ' := by
  obtain ⟨s0, s1, s2, s3, s4, s5, s6, s7, s8, sr0, sr1, sr2, sr3⟩ := hk.all (L := L) (xs := xs) (fm := fm)
  obtain ⟨bP2, bW, bz, bf, bs, bv, bu⟩ := id hW
  have key : ∀ n v σ', v + n = W 0 0 0 → sw_f6 σ σ' → σ'.1 268 = σ.1 268 → sw_vl σ' W (ix ++ sw_bl W p v) → ∃ σ2, (sw_f6 σ σ2 ∧ σ2.1 268 = σ.1 268 ∧ sw_vl σ2 W (ix ++ sw_bl W p (W 0 0 0))) ∧ ∀ (d : Nat) Q, Q none σ2 → sd_Go (sd_E1 L xs fm) (d + 2) y_Search_addVowsOf 2 [.ref 265, .ref k, .int (nI p), .int (nI v)] [] σ' Q := by
    intro n
    induction n with
    | zero =>
      intro v σ' hv hf h268 hvl
      have ev : v = W 0 0 0 := by omega
      subst ev
      refine ⟨σ', ⟨hf, h268, hvl⟩, fun d Q hq => ?_⟩
      have w1 : σ'.1 k 4 = nI (W 0 0 0) := by rw [hf.1 k (by omega) (by omega) (by omega) (by omega)]; exact hS.1.1
      rw [z_Search_addVowsOf_2]
      simp (disch := first | exact sd_cr | exact sd_ci | exact sd_cu | exact sd_cl9 | assumption | omega | exact t_259 | exact t_260 | exact t_261 | exact t_262 | exact t_263 | exact t_264 | exact t_254 | exact t_255 | exact t_256 | exact t_257 | exact t_266 | exact t_267 | exact t_268 | exact t_269 | exact t_270 | exact t_252 | exact t_240 | exact t_246 | exact t_2 | exact t_4 | exact t_5 | exact t_13 | exact t_14 | exact t_15 | exact t_16 | exact Or.inl t_39 | exact Or.inr t_7) only [z_Search_addVowsOf_3, z_Search_addVowsOf_4, z_Search_addVowsOf_7, z_Search_addVowsOf_10, z_Search_addVowsOf_80, false_and, and_false, if_true, if_false, Decidable.not_not, sd_ci, sd_cr, sd_cl9, sd_cu, sd_cat0, sd_cat1, sd_rfS, sd_n01, sd_n11, sd_n1, sd_n10, sd_n00, sd_b01, sd_b0, true_and, and_true, and_self, not_true_eq_false, not_false_eq_true, false_implies, true_implies, implies_true, or_true, true_or, or_false, false_or, Option.toList_some, Option.toList_none, List.cons_append, List.nil_append, Nat.reduceAdd, Nat.reduceLeDiff, nz_sub, nz_lt0, nz_ge0, nz_le0, nz_gt0, nz_eq0, nz_eq1, nz_lt, nz_le, nz_eq, nz_cl, nz_in, nz_add, nz_mul, nz_m1, nz_m1', Nat.reduceMul, Nat.reduceSub, Nat.reduceLT, Nat.reduceEqDiff, not_false_eq_true, false_implies, true_implies, true_and, and_true, h_0, h_1, t_2, n_2, h_3, t_4, n_4, t_5, n_5, h_6, t_7, n_7, t_8, n_8, t_9, n_9, t_10, n_10, t_11, n_11, t_12, n_12, t_13, n_13, t_14, n_14, t_15, n_15, t_16, n_16, h_17, h_18, t_19, n_19, t_20, n_20, t_21, n_21, t_22, n_22, h_28, t_29, n_29, t_30, n_30, t_31, n_31, t_32, n_32, h_38, t_39, n_39, t_240, n_240, t_246, n_246, t_252, n_252, h_253, t_254, n_254, t_255, n_255, t_256, n_256, t_257, n_257, h_258, t_259, n_259, t_260, n_260, t_261, n_261, t_262, n_262, t_263, n_263, t_264, n_264, h_265, t_266, n_266, t_267, n_267, t_268, n_268, t_269, n_269, t_270, n_270, r_0_0, r_0_1, r_0_2, r_0_3, r_0_6, r_0_7, r_0_8, r_0_9, r_0_11, r_0_12, r_0_13, r_0_14, r_0_15, r_1_0, r_3_0, r_3_1, r_3_2, r_6_0, r_6_1, r_6_4, r_6_5, r_6_7, r_7_0, r_7_1, r_7_2, r_7_3, r_7_4, r_17_0, r_17_1, r_18_1, r_18_2, r_18_3, r_18_4, r_18_6, r_28_1, r_28_2, r_28_3, r_28_4, r_28_6, r_38_0, r_253_0, r_253_1, r_253_2, r_253_3, r_258_0, r_258_1, r_258_3, r_258_4, r_258_6, r_258_8, r_265_0, r_265_1, r_265_3, r_265_4, r_265_5, r_0_4, r_0_5, s0, w1]
      ((repeat' first | (refine And.intro ?_ ?_) | (intro _)) <;> first | omega | exact hq)
    | succ n ih =>
      intro v σ' hv hf h268 hvl
      have hvs : v < W 0 0 0 := by omega
      have hS' : sw_S σ' k P W := hS.fr (fun j hj => hf.1 _ (by omega) (by omega) (by omega) (by omega))
      have w1 : σ'.1 k 4 = nI (W 0 0 0) := hS'.1.1
      have e2 := hvl.1
      have hbl := sw_bl_len (W := W) (p := p) v
      rw [List.length_append] at e2
      have hle : (sw_bl W p v).length ≤ (sw_bl W p (W 0 0 0)).length := by
        obtain ⟨t, ht⟩ := sw_bl_pre (W := W) (p := p) (v := v) (W 0 0 0 - v)
        rw [show v + (W 0 0 0 - v) = W 0 0 0 by omega] at ht
        rw [ht, List.length_append]; omega
      by_cases h12 : ix.length + (sw_bl W p v).length < 12
      case neg =>
        have he := sw_bl_eq (W := W) (p := p) (v := v) (n := W 0 0 0) (by omega) (by omega)
        refine ⟨σ', ⟨hf, h268, by rw [he]; exact hvl⟩, fun d Q hq => ?_⟩
        rw [z_Search_addVowsOf_2]
        simp (disch := first | exact sd_cr | exact sd_ci | exact sd_cu | exact sd_cl9 | assumption | omega | exact t_259 | exact t_260 | exact t_261 | exact t_262 | exact t_263 | exact t_264 | exact t_254 | exact t_255 | exact t_256 | exact t_257 | exact t_266 | exact t_267 | exact t_268 | exact t_269 | exact t_270 | exact t_252 | exact t_240 | exact t_246 | exact t_2 | exact t_4 | exact t_5 | exact t_13 | exact t_14 | exact t_15 | exact t_16 | exact Or.inl t_39 | exact Or.inr t_7) only [z_Search_addVowsOf_3, z_Search_addVowsOf_4, z_Search_addVowsOf_7, z_Search_addVowsOf_10, z_Search_addVowsOf_11, z_Search_addVowsOf_14, z_Search_addVowsOf_16, z_Search_addVowsOf_80, false_and, and_false, if_true, if_false, Decidable.not_not, sd_ci, sd_cr, sd_cl9, sd_cu, sd_cat0, sd_cat1, sd_rfS, sd_n01, sd_n11, sd_n1, sd_n10, sd_n00, sd_b01, sd_b0, true_and, and_true, and_self, not_true_eq_false, not_false_eq_true, false_implies, true_implies, implies_true, or_true, true_or, or_false, false_or, Option.toList_some, Option.toList_none, List.cons_append, List.nil_append, Nat.reduceAdd, Nat.reduceLeDiff, nz_sub, nz_lt0, nz_ge0, nz_le0, nz_gt0, nz_eq0, nz_eq1, nz_lt, nz_le, nz_eq, nz_cl, nz_in, nz_add, nz_mul, nz_m1, nz_m1', Nat.reduceMul, Nat.reduceSub, Nat.reduceLT, Nat.reduceEqDiff, not_false_eq_true, false_implies, true_implies, true_and, and_true, h_0, h_1, t_2, n_2, h_3, t_4, n_4, t_5, n_5, h_6, t_7, n_7, t_8, n_8, t_9, n_9, t_10, n_10, t_11, n_11, t_12, n_12, t_13, n_13, t_14, n_14, t_15, n_15, t_16, n_16, h_17, h_18, t_19, n_19, t_20, n_20, t_21, n_21, t_22, n_22, h_28, t_29, n_29, t_30, n_30, t_31, n_31, t_32, n_32, h_38, t_39, n_39, t_240, n_240, t_246, n_246, t_252, n_252, h_253, t_254, n_254, t_255, n_255, t_256, n_256, t_257, n_257, h_258, t_259, n_259, t_260, n_260, t_261, n_261, t_262, n_262, t_263, n_263, t_264, n_264, h_265, t_266, n_266, t_267, n_267, t_268, n_268, t_269, n_269, t_270, n_270, r_0_0, r_0_1, r_0_2, r_0_3, r_0_6, r_0_7, r_0_8, r_0_9, r_0_11, r_0_12, r_0_13, r_0_14, r_0_15, r_1_0, r_3_0, r_3_1, r_3_2, r_6_0, r_6_1, r_6_4, r_6_5, r_6_7, r_7_0, r_7_1, r_7_2, r_7_3, r_7_4, r_17_0, r_17_1, r_18_1, r_18_2, r_18_3, r_18_4, r_18_6, r_28_1, r_28_2, r_28_3, r_28_4, r_28_6, r_38_0, r_253_0, r_253_1, r_253_2, r_253_3, r_258_0, r_258_1, r_258_3, r_258_4, r_258_6, r_258_8, r_265_0, r_265_1, r_265_3, r_265_4, r_265_5, r_0_4, r_0_5, s0, w1, e2]
        ((repeat' first | (refine And.intro ?_ ?_) | (intro _)) <;> first | omega | exact hq)
      have cb := fun (d : Nat) Q => c_State_binds (L := L) (xs := xs) (fm := fm) (d := d) (Q := Q) hk hS'.1 hvs hp
      by_cases hbn : sw_bn W p v
      · have hbs : sw_bl W p (v + 1) = sw_bl W p v ++ [v] := by rw [sw_bl_s, if_pos hbn]
        obtain ⟨σ1, hσ1⟩ : ∃ σ1, σ1 = sd_wI (sd_wI (sd_wA σ' 266 (va_cpy (σ'.1 (k + 4)) (σ'.1 266) (v * 6) ((ix.length + (sw_bl W p v).length) * 6) 6)) 267 (ix.length + (sw_bl W p v).length) (nI (2 ^ v))) 265 2 (nI (ix.length + (sw_bl W p v).length + 1)) := ⟨_, rfl⟩
        have hf1 : sw_f6 σ' σ1 := by
          rw [hσ1]
          exact ⟨fun e a b c _ => by rw [wI_c a, wI_c c, wA_c b], fun j hj => by rw [wI_o hj, wI_c (by decide), wA_c (by decide)], rfl⟩
        have hvl1 : sw_vl σ1 W (ix ++ sw_bl W p (v + 1)) := by
          rw [hσ1, hbs, ← List.append_assoc]
          refine ⟨by rw [wI_k, List.length_append, List.length_append]; rfl, fun q hq => ?_⟩
          rw [List.length_append, List.length_append] at hq
          have hq : q < ix.length + (sw_bl W p v).length + 1 := hq
          have eL : (ix ++ sw_bl W p v).length = ix.length + (sw_bl W p v).length := List.length_append
          by_cases hq2 : q = ix.length + (sw_bl W p v).length
          · have eg : (ix ++ sw_bl W p v ++ [v]).getD q 0 = v := by
              rw [hq2, ← eL]; simp
            rw [eg]
            refine ⟨fun j hj => ?_, ?_⟩
            · rw [wI_c (by decide), wI_c (by decide), wA_k, hq2, pk_cpy_in (by omega) (by omega), show v * 6 + ((ix.length + (sw_bl W p v).length) * 6 + j - (ix.length + (sw_bl W p v).length) * 6) = v * 6 + j by omega]
              exact hS'.1.2.2.1 v hvs j hj
            · rw [wI_c (by decide), hq2, wI_k]
          · have hq3 : q < (ix ++ sw_bl W p v).length := by rw [eL]; omega
            rw [sw_gA hq3]
            obtain ⟨g1, g2⟩ := hvl.2 q hq3
            refine ⟨fun j hj => ?_, ?_⟩
            · rw [wI_c (by decide), wI_c (by decide), wA_k, pk_cpy_out (by omega)]
              exact g1 j hj
            · rw [wI_c (by decide), wI_o hq2, wA_c (by decide)]
              exact g2
        obtain ⟨σ2, g1, g2⟩ := ih (v + 1) σ1 (by omega) (hf.tr hf1) (by rw [hσ1, wI_c (by decide), wI_c (by decide), wA_c (by decide)]; exact h268) hvl1
        refine ⟨σ2, g1, fun d Q hq => ?_⟩
        have g3 := g2 d Q hq
        rw [hσ1] at g3
        have cb' := cb d
        have e2' : (sd_wA σ' 266 (va_cpy (σ'.1 (k + 4)) (σ'.1 266) (v * 6) ((ix.length + (sw_bl W p v).length) * 6) 6)).1 265 2 = nI (ix.length + (sw_bl W p v).length) := by rw [wA_c (by decide)]; exact e2
        rw [z_Search_addVowsOf_2]
        simp (disch := first | exact sd_cr | exact sd_ci | exact sd_cu | exact sd_cl9 | assumption | omega | exact t_259 | exact t_260 | exact t_261 | exact t_262 | exact t_263 | exact t_264 | exact t_254 | exact t_255 | exact t_256 | exact t_257 | exact t_266 | exact t_267 | exact t_268 | exact t_269 | exact t_270 | exact t_252 | exact t_240 | exact t_246 | exact t_2 | exact t_4 | exact t_5 | exact t_13 | exact t_14 | exact t_15 | exact t_16 | exact Or.inl t_39 | exact Or.inr t_7) only [z_Search_addVowsOf_3, z_Search_addVowsOf_4, z_Search_addVowsOf_7, z_Search_addVowsOf_10, z_Search_addVowsOf_11, z_Search_addVowsOf_14, z_Search_addVowsOf_16, z_Search_addVowsOf_19, z_Search_addVowsOf_20, z_Search_addVowsOf_21, z_Search_addVowsOf_22, z_Search_addVowsOf_25, z_Search_addVowsOf_28, z_Search_addVowsOf_29, z_Search_addVowsOf_32, z_Search_addVowsOf_33, z_Search_addVowsOf_35, z_Search_addVowsOf_36, z_Search_addVowsOf_37, z_Search_addVowsOf_40, z_Search_addVowsOf_41, z_Search_addVowsOf_44, z_Search_addVowsOf_46, z_Search_addVowsOf_47, z_Search_addVowsOf_49, z_Search_addVowsOf_52, z_Search_addVowsOf_53, z_Search_addVowsOf_56, z_Search_addVowsOf_57, z_Search_addVowsOf_60, z_Search_addVowsOf_61, z_Search_addVowsOf_62, z_Search_addVowsOf_63, z_Search_addVowsOf_64, z_Search_addVowsOf_65, z_Search_addVowsOf_66, z_Search_addVowsOf_69, z_Search_addVowsOf_70, z_Search_addVowsOf_71, z_Search_addVowsOf_74, z_Search_addVowsOf_77, false_and, and_false, if_true, if_false, Decidable.not_not, sd_ci, sd_cr, sd_cl9, sd_cu, sd_cat0, sd_cat1, sd_rfS, sd_n01, sd_n11, sd_n1, sd_n10, sd_n00, sd_b01, sd_b0, true_and, and_true, and_self, not_true_eq_false, not_false_eq_true, false_implies, true_implies, implies_true, or_true, true_or, or_false, false_or, Option.toList_some, Option.toList_none, List.cons_append, List.nil_append, Nat.reduceAdd, Nat.reduceLeDiff, nz_sub, nz_lt0, nz_ge0, nz_le0, nz_gt0, nz_eq0, nz_eq1, nz_lt, nz_le, nz_eq, nz_cl, nz_in, nz_add, nz_mul, nz_m1, nz_m1', Nat.reduceMul, Nat.reduceSub, Nat.reduceLT, Nat.reduceEqDiff, not_false_eq_true, false_implies, true_implies, true_and, and_true, h_0, h_1, t_2, n_2, h_3, t_4, n_4, t_5, n_5, h_6, t_7, n_7, t_8, n_8, t_9, n_9, t_10, n_10, t_11, n_11, t_12, n_12, t_13, n_13, t_14, n_14, t_15, n_15, t_16, n_16, h_17, h_18, t_19, n_19, t_20, n_20, t_21, n_21, t_22, n_22, h_28, t_29, n_29, t_30, n_30, t_31, n_31, t_32, n_32, h_38, t_39, n_39, t_240, n_240, t_246, n_246, t_252, n_252, h_253, t_254, n_254, t_255, n_255, t_256, n_256, t_257, n_257, h_258, t_259, n_259, t_260, n_260, t_261, n_261, t_262, n_262, t_263, n_263, t_264, n_264, h_265, t_266, n_266, t_267, n_267, t_268, n_268, t_269, n_269, t_270, n_270, r_0_0, r_0_1, r_0_2, r_0_3, r_0_6, r_0_7, r_0_8, r_0_9, r_0_11, r_0_12, r_0_13, r_0_14, r_0_15, r_1_0, r_3_0, r_3_1, r_3_2, r_6_0, r_6_1, r_6_4, r_6_5, r_6_7, r_7_0, r_7_1, r_7_2, r_7_3, r_7_4, r_17_0, r_17_1, r_18_1, r_18_2, r_18_3, r_18_4, r_18_6, r_28_1, r_28_2, r_28_3, r_28_4, r_28_6, r_38_0, r_253_0, r_253_1, r_253_2, r_253_3, r_258_0, r_258_1, r_258_3, r_258_4, r_258_6, r_258_8, r_265_0, r_265_1, r_265_3, r_265_4, r_265_5, r_0_4, r_0_5, s0, s7, s8, sr3, w1, e2, e2', cb', hbn, nz_shl1, wI_c]
        ((repeat' first | (refine And.intro ?_ ?_) | (intro _)) <;> first | omega | exact g3)
      · have hbs : sw_bl W p (v + 1) = sw_bl W p v := by rw [sw_bl_s, if_neg hbn]
        obtain ⟨σ2, g1, g2⟩ := ih (v + 1) σ' (by omega) hf h268 (by rw [hbs]; exact hvl)
        refine ⟨σ2, g1, fun d Q hq => ?_⟩
        have g3 := g2 d Q hq
        have cb' := cb d
        rw [z_Search_addVowsOf_2]
        simp (disch := first | exact sd_cr | exact sd_ci | exact sd_cu | exact sd_cl9 | assumption | omega | exact t_259 | exact t_260 | exact t_261 | exact t_262 | exact t_263 | exact t_264 | exact t_254 | exact t_255 | exact t_256 | exact t_257 | exact t_266 | exact t_267 | exact t_268 | exact t_269 | exact t_270 | exact t_252 | exact t_240 | exact t_246 | exact t_2 | exact t_4 | exact t_5 | exact t_13 | exact t_14 | exact t_15 | exact t_16 | exact Or.inl t_39 | exact Or.inr t_7) only [z_Search_addVowsOf_3, z_Search_addVowsOf_4, z_Search_addVowsOf_7, z_Search_addVowsOf_10, z_Search_addVowsOf_11, z_Search_addVowsOf_14, z_Search_addVowsOf_16, z_Search_addVowsOf_19, z_Search_addVowsOf_20, z_Search_addVowsOf_21, z_Search_addVowsOf_22, z_Search_addVowsOf_25, z_Search_addVowsOf_74, z_Search_addVowsOf_77, false_and, and_false, if_true, if_false, Decidable.not_not, sd_ci, sd_cr, sd_cl9, sd_cu, sd_cat0, sd_cat1, sd_rfS, sd_n01, sd_n11, sd_n1, sd_n10, sd_n00, sd_b01, sd_b0, true_and, and_true, and_self, not_true_eq_false, not_false_eq_true, false_implies, true_implies, implies_true, or_true, true_or, or_false, false_or, Option.toList_some, Option.toList_none, List.cons_append, List.nil_append, Nat.reduceAdd, Nat.reduceLeDiff, nz_sub, nz_lt0, nz_ge0, nz_le0, nz_gt0, nz_eq0, nz_eq1, nz_lt, nz_le, nz_eq, nz_cl, nz_in, nz_add, nz_mul, nz_m1, nz_m1', Nat.reduceMul, Nat.reduceSub, Nat.reduceLT, Nat.reduceEqDiff, not_false_eq_true, false_implies, true_implies, true_and, and_true, h_0, h_1, t_2, n_2, h_3, t_4, n_4, t_5, n_5, h_6, t_7, n_7, t_8, n_8, t_9, n_9, t_10, n_10, t_11, n_11, t_12, n_12, t_13, n_13, t_14, n_14, t_15, n_15, t_16, n_16, h_17, h_18, t_19, n_19, t_20, n_20, t_21, n_21, t_22, n_22, h_28, t_29, n_29, t_30, n_30, t_31, n_31, t_32, n_32, h_38, t_39, n_39, t_240, n_240, t_246, n_246, t_252, n_252, h_253, t_254, n_254, t_255, n_255, t_256, n_256, t_257, n_257, h_258, t_259, n_259, t_260, n_260, t_261, n_261, t_262, n_262, t_263, n_263, t_264, n_264, h_265, t_266, n_266, t_267, n_267, t_268, n_268, t_269, n_269, t_270, n_270, r_0_0, r_0_1, r_0_2, r_0_3, r_0_6, r_0_7, r_0_8, r_0_9, r_0_11, r_0_12, r_0_13, r_0_14, r_0_15, r_1_0, r_3_0, r_3_1, r_3_2, r_6_0, r_6_1, r_6_4, r_6_5, r_6_7, r_7_0, r_7_1, r_7_2, r_7_3, r_7_4, r_17_0, r_17_1, r_18_1, r_18_2, r_18_3, r_18_4, r_18_6, r_28_1, r_28_2, r_28_3, r_28_4, r_28_6, r_38_0, r_253_0, r_253_1, r_253_2, r_253_3, r_258_0, r_258_1, r_258_3, r_258_4, r_258_6, r_258_8, r_265_0, r_265_1, r_265_3, r_265_4, r_265_5, r_0_4, r_0_5, s0, w1, e2, cb', hbn]
        ((repeat' first | (refine And.intro ?_ ?_) | (intro _)) <;> first | omega | exact g3)
  obtain ⟨σ2, ⟨g1, g2, g3⟩, g4⟩ := key (W 0 0 0) 0 σ (by omega) sw_f6.rf rfl (by rw [show sw_bl W p 0 = [] from rfl, List.append_nil]; exact hl)
  refine ⟨σ2, g1, g2, g3, fun d Q => sd_Call.iff (fun Q hq => ?_) Q⟩
  rw [sd_Call.start (ls := [.ref 265, .ref k, .int (nI p), sd_un]) m_Search_addVowsOf (by decide) (Nat.le_of_ble_eq_true rfl) rfl]
  simp (disch := first | exact sd_cr | exact sd_ci | exact sd_cu | exact sd_cl9 | assumption | omega | exact t_259 | exact t_260 | exact t_261 | exact t_262 | exact t_263 | exact t_264 | exact t_254 | exact t_255 | exact t_256 | exact t_257 | exact t_266 | exact t_267 | exact t_268 | exact t_269 | exact t_270 | exact t_252 | exact t_240 | exact t_246 | exact t_2 | exact t_4 | exact t_5 | exact t_13 | exact t_14 | exact t_15 | exact t_16 | exact Or.inl t_39 | exact Or.inr t_7) only [z_Search_addVowsOf_0, z_Search_addVowsOf_1, false_and, and_false, if_true, if_false, Decidable.not_not, sd_ci, sd_cr, sd_cl9, sd_cu, sd_cat0, sd_cat1, sd_rfS, sd_n01, sd_n11, sd_n1, sd_n10, sd_n00, sd_b01, sd_b0, true_and, and_true, and_self, not_true_eq_false, not_false_eq_true, false_implies, true_implies, implies_true, or_true, true_or, or_false, false_or, Option.toList_some, Option.toList_none, List.cons_append, List.nil_append, Nat.reduceAdd, Nat.reduceLeDiff]
  exact g4 d Q hq
/-- all that a run needs -/
theorem sw_vl_SR {P : Nat} {ix : List Nat} (hA : sw_AK A) (hW : sw_OK P W) (hl : sw_vl σ W ix) (h268 : ∀ e, e < 8 → σ.1 268 e = nI (A 3 e 0)) (hn : ix.length ≤ 12) (hix : ∀ v, v ∈ ix → v < W 0 0 0 ∧ W 1 v 1 ≤ 5) : sw_SR σ ix.length (fun k => W 1 (ix.getD k 0)) (fun k => 2 ^ ix.getD k 0) (fun e => A 3 e 0) (σ.1 269) := by
  obtain ⟨bP2, bW, bz, bf, bs, bv, bu⟩ := id hW
  refine ⟨hn, fun v hv => ?_, fun v j => bu _ j, h268, fun e => hA.2.2.2.2.2.1 e, fun _ _ => rfl⟩
  obtain ⟨g1, g2⟩ := hl.2 v hv
  have hm : ix.getD v 0 ∈ ix := by rw [sw_gD hv]; exact List.getElem_mem hv
  obtain ⟨m1, m2⟩ := hix _ hm
  have b := bv _ m1
  exact ⟨fun j _ hj => g1 j (by omega), m2, b.2.2.1, b.2.2.2.1, g2, Nat.lt_of_lt_of_le (Nat.pow_lt_pow_right (by decide) (show ix.getD v 0 < 12 by omega)) (by decide)⟩
end SDA4b
