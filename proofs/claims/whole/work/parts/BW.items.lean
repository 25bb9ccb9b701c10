/-! the items of a country's clause, in both -/
section SDBW0
variable {E : sd_E} {d y pc : Nat} {ls st : List Value} {σ : sd_Mem} {Q : Option Value → sd_Mem → Prop} {nm : MethodName} {cc : ByteArray} {L : Nat} {rt : Option FieldType} {o : Nat} {rest : Nat × Nat × Nat × Nat × Nat}
theorem sd_g_cpyX {n z a a0 n0 n1 n9 : Nat} {f : Nat → Int32} {k dp sp : Int32} (hm : sd_m y = (nm, cc, L, rt, o, rest)) (hd : decode cc pc = .ok (.invokestatic n, 3)) (hac : sd_ac o n = some z) (h0 : sd_sh a0 = .inr (9, n9)) (h1 : sd_sh a = .inr (0, n1)) (hE : E.2 a0 = some (n0, f)) : sd_Go E d y pc ls (.int k :: .int dp :: .ref a :: .int sp :: .ref a0 :: st) σ Q ↔ ((¬ sp < 0 ∧ ¬ dp < 0 ∧ ¬ k < 0 ∧ sp.toNatClampNeg + k.toNatClampNeg ≤ n0 ∧ dp.toNatClampNeg + k.toNatClampNeg ≤ n1 ∧ sd_cat st ≤ 8) ∧ sd_Go E d y (pc + 3) ls st (sd_wA σ a (va_cpy f (σ.1 a) sp.toNatClampNeg dp.toNatClampNeg k.toNatClampNeg)) Q) := by
  rw [sd_goM hm hd]
  show sd_K E d y pc ls σ Q (match sd_ac o n with | some _ => sd_cpy E σ (pc + 3) ls (.int k :: .int dp :: .ref a :: .int sp :: .ref a0 :: st) | none => match sd_mt o n with | some (t, _) => sd_mth t (pc + 3) ls (.int k :: .int dp :: .ref a :: .int sp :: .ref a0 :: st) σ | none => match sd_lk o n with | some (y, 1, _) => if (sd_m y).2.2.2.2.2.1 ≤ (.int k :: .int dp :: .ref a :: .int sp :: .ref a0 :: st : List Value).length ∧ sd_cat ((.int k :: .int dp :: .ref a :: .int sp :: .ref a0 :: st : List Value).drop (sd_m y).2.2.2.2.2.1) ≤ 8 then some (.inr (.inl (y, ((.int k :: .int dp :: .ref a :: .int sp :: .ref a0 :: st : List Value).take (sd_m y).2.2.2.2.2.1).reverse, (.int k :: .int dp :: .ref a :: .int sp :: .ref a0 :: st : List Value).drop (sd_m y).2.2.2.2.2.1))) else none | _ => none) ↔ _
  rw [hac]
  show sd_K E d y pc ls σ Q (sd_cpy E σ (pc + 3) ls (.int k :: .int dp :: .ref a :: .int sp :: .ref a0 :: st)) ↔ _
  unfold sd_cpy
  dsimp only
  rw [h0, h1, hE]
  exact sd_K_if
end SDBW0
section SDBW
variable {L : Nat} {xs : Nat → Int32} {fm : Option Nat} {b : Nat → Nat} {n s : Nat}
theorem ct_E1 : (sd_E1 L xs fm).2 402 = some (24, fun j => (sd_stat 1).getD j 0) := rfl
theorem ct_E2 {j : Nat} : sd_xe (sd_E1 L xs fm) 403 j = (sd_stat 2).getD j 0 := rfl
theorem ct_E3 {j : Nat} : sd_xe (sd_E1 L xs fm) 404 j = (sd_stat 3).getD j 0 := rfl
theorem ct_E0 {j : Nat} : sd_xe (sd_E1 L xs fm) 401 j = (sd_stat 0).getD j 0 := rfl
theorem ct_q1 : sd_xq (sd_E1 L xs fm) 401 = 4 := rfl
theorem ct_q2 : sd_xq (sd_E1 L xs fm) 403 = 24 := rfl
theorem ct_q3 : sd_xq (sd_E1 L xs fm) 404 = 24 := rfl
theorem ct_t1 : sd_tg 401 = 9 := rfl
theorem ct_t2 : sd_tg 402 = 9 := rfl
theorem ct_t3 : sd_tg 403 = 9 := rfl
theorem ct_t4 : sd_tg 404 = 9 := rfl
theorem ct_cpy {d sp : Nat} {σ : sd_Mem} {Q : Option Value → sd_Mem → Prop} {l0 l1 l2 l3 l4 l5 l6 l7 : Value} (hsp : sp + 6 ≤ 24) : sd_Go (sd_E1 L xs fm) d y_CountryReader_readItems 14 [l0, l1, l2, l3, l4, l5, l6, l7] [.int (nI 6), .int (nI 0), .ref 4, .int (nI sp), .ref 402] σ Q ↔ sd_Go (sd_E1 L xs fm) d y_CountryReader_readItems 17 [l0, l1, l2, l3, l4, l5, l6, l7] [] (sd_wA σ 4 (va_cpy (fun j => (sd_stat 1).getD j 0) (σ.1 4) sp 0 6)) Q := by
  rw [sd_g_cpyX (n := 96) m_CountryReader_readItems (by decide +kernel) (by decide +kernel : sd_ac 1 96 = some 639) (sd_tgI ct_t2 (by decide)) (sd_tgI t_4 (by decide)) ct_E1, nz_cl (by omega), nz_cl (by omega), nz_cl (by omega)]
  have h1 : ¬ nI sp < 0 := fun q => (nz_lt0 (by omega)).mp q
  have h2 : ¬ nI 0 < 0 := by decide
  have h3 : ¬ nI 6 < 0 := by decide
  rw [n_4]
  exact ⟨fun q => q.2, fun q => ⟨⟨h1, h2, h3, hsp, by omega, by decide⟩, q⟩⟩
theorem k_has {m k D : Nat} {σ : sd_Mem} {Q : Option Value → sd_Mem → Prop} (hm : m < 64) (hk : k < 6) (hD : 1 ≤ D) : sd_Call (sd_E1 L xs fm) D y_M_has [.int (nI m), .int (nI k)] σ Q ↔ Q (some (.int (sd_b (m.testBit k = true)))) σ := by
  obtain ⟨d, rfl⟩ : ∃ d, D = d + 1 := ⟨D - 1, by omega⟩
  exact c_M_has (by omega) (by omega)
theorem ct_itemsL (hs : s < 4) (hn : n ≤ 240) (hb : ∀ i, i < n → b i < 256) : ∀ f m a (v : Nat → Nat), f + ct_pop m = 7 → m < 64 → a ≤ n → (∀ k, k < tx_n (1 + s) → v k ≤ ct_hi s k) → ∃ (e : Nat) (r : Option (Nat → Nat)), (∀ σ (l5 l6 l7 : Value), tp_X σ b n a → (∀ k, k < 6 → σ.1 4 k = nI (v k)) → ∃ σ', (∀ e' j, ¬ (e' = 1 ∧ j = 2) → e' ≠ 4 → σ'.1 e' j = σ.1 e' j) ∧ σ'.2 = σ.2 ∧ tp_X σ' b n e ∧ (∀ v', r = some v' → ∀ k, k < 6 → σ'.1 4 k = nI (v' k)) ∧ ∀ D Q, 6 ≤ D → Q (some (.int (sd_b (r.isSome = true)))) σ' → sd_Go (sd_E1 L xs fm) D y_CountryReader_readItems 27 [.ref 3, .int (nI s), .ref (410 + (1 + s)), .int (nI m), .int (nI (ct_pop m)), l5, l6, l7] [] σ Q) ∧ (∀ σ t o k2 fr, tp_M σ t o b n (tp_ps b n a) → σ.1 271 11 = -1 → sd_tg k2 = 0 → fr + tx_n (1 + s) ≤ sd_ln k2 → fr ≤ 500 → k2 ≠ 271 → k2 ≠ t → (∀ k, k < tx_n (1 + s) → σ.1 k2 (fr + k) = nI (v k)) → ∃ σ', (∀ e' j, ¬ (e' = 271 ∧ (j = 10 ∨ j = 11)) → ¬ (e' = k2 ∧ fr ≤ j ∧ j < fr + tx_n (1 + s)) → σ'.1 e' j = σ.1 e' j) ∧ σ'.2 = σ.2 ∧ (r = none → σ'.1 271 11 = nI e) ∧ (∀ v', r = some v' → tp_M σ' t o b n e ∧ σ'.1 271 11 = -1 ∧ ∀ k, k < tx_n (1 + s) → σ'.1 k2 (fr + k) = nI (v' k)) ∧ ∀ D Q, 6 ≤ D → Q none σ' → sd_Go (sd_E1 L xs fm) D y_M_readItems 45 [.ref 271, .int (nI (tx_b 0 s)), .ref k2, .int (nI fr), .ref (410 + (1 + s)), .int (nI m), .int (rw_fv (tx_x (1 + s) (tp_at b n a)))] [] σ Q) ∧ a ≤ e ∧ e ≤ n ∧ ∀ v', r = some v' → ∀ k, k < tx_n (1 + s) → v' k ≤ ct_hi s k := by
  have hs7 : 1 + s < 7 := by omega
  have hn6 := ct_n s hs
  have c410 : 410 ≤ 410 + (1 + s) ∧ 410 + (1 + s) < 419 := by omega
  intro f
  induction f with
  | zero =>
    intro m a v hf hm
    have := ct_b3 m hm
    omega
  | succ f ih =>
    intro m a v hf hm ha hv
    have hp := tp_ps_le (b := b) ha
    have hpop := ct_b3 m hm
    have c6 : ¬ 6 < ct_pop m := by omega
    have hXg : ∀ (σ : sd_Mem) (l5 l6 l7 : Value), tp_X σ b n a → ∀ D Q, 6 ≤ D → sd_Go (sd_E1 L xs fm) D y_CountryReader_readItems 60 [.ref 3, .int (nI s), .ref (410 + (1 + s)), .int (nI m), .int (nI (ct_pop m)), .int (tp_at b n a), l6, l7] [.int (rw_fv (tx_x (1 + s) (tp_at b n a)))] (sd_wI σ 1 2 (nI (tp_ps b n a))) Q → sd_Go (sd_E1 L xs fm) D y_CountryReader_readItems 27 [.ref 3, .int (nI s), .ref (410 + (1 + s)), .int (nI m), .int (nI (ct_pop m)), l5, l6, l7] [] σ Q := by
      intro σ l5 l6 l7 h D Q hD hq
      have cp := fun Q => k_peek (L := L) (xs := xs) (fm := fm) (D := D) (Q := Q) h (by omega)
      by_cases hpn : tp_ps b n a < n
      · have ea : tp_at b n a = nI (b (tp_ps b n a)) := if_pos hpn
        have hbp := hb _ hpn
        rw [ea] at cp hq
        have ci := fun (σ : sd_Mem) Q => k_indexOf (L := L) (xs := xs) (fm := fm) (σ := σ) (Q := Q) (i := 1 + s) (D := D) hs7 hbp (by omega)
        rw [z_CountryReader_readItems_27]
        simp (disch := first | exact sd_cr | exact sd_ci | exact sd_cu | exact sd_cl9 | assumption | omega | exact t_259 | exact t_260 | exact t_261 | exact t_262 | exact t_263 | exact t_264 | exact t_254 | exact t_255 | exact t_256 | exact t_257 | exact t_266 | exact t_267 | exact t_268 | exact t_269 | exact t_270 | exact t_252 | exact t_240 | exact t_246 | exact t_2 | exact t_4 | exact t_5 | exact t_13 | exact t_14 | exact t_15 | exact t_16 | exact Or.inl t_39 | exact Or.inr t_7) only [z_CountryReader_readItems_29, z_CountryReader_readItems_31, z_CountryReader_readItems_34, z_CountryReader_readItems_35, z_CountryReader_readItems_38, z_CountryReader_readItems_41, z_CountryReader_readItems_43, z_CountryReader_readItems_45, z_CountryReader_readItems_46, z_CountryReader_readItems_49, z_CountryReader_readItems_50, z_CountryReader_readItems_53, z_CountryReader_readItems_54, z_CountryReader_readItems_56, z_CountryReader_readItems_57, false_and, and_false, if_true, if_false, Decidable.not_not, sd_ci, sd_cr, sd_cl9, sd_cu, sd_cat0, sd_cat1, sd_rfS, sd_n01, sd_n11, sd_n1, sd_n10, sd_n00, sd_b01, sd_b0, true_and, and_true, and_self, not_true_eq_false, not_false_eq_true, false_implies, true_implies, implies_true, or_true, true_or, or_false, false_or, Option.toList_some, Option.toList_none, List.cons_append, List.nil_append, Nat.reduceAdd, Nat.reduceLeDiff, nz_sub, nz_lt0, nz_ge0, nz_le0, nz_gt0, nz_eq0, nz_eq1, nz_lt, nz_le, nz_eq, nz_cl, nz_in, nz_add, nz_mul, nz_m1, nz_m1', Nat.reduceMul, Nat.reduceSub, Nat.reduceLT, Nat.reduceEqDiff, not_false_eq_true, false_implies, true_implies, true_and, and_true, h_0, h_1, t_2, n_2, h_3, t_4, n_4, t_5, n_5, h_6, t_7, n_7, t_8, n_8, t_9, n_9, t_10, n_10, t_11, n_11, t_12, n_12, t_13, n_13, t_14, n_14, t_15, n_15, t_16, n_16, h_17, h_18, t_19, n_19, t_20, n_20, t_21, n_21, t_22, n_22, h_28, t_29, n_29, t_30, n_30, t_31, n_31, t_32, n_32, h_38, t_39, n_39, t_240, n_240, t_246, n_246, t_252, n_252, h_253, t_254, n_254, t_255, n_255, t_256, n_256, t_257, n_257, h_258, t_259, n_259, t_260, n_260, t_261, n_261, t_262, n_262, t_263, n_263, t_264, n_264, h_265, t_266, n_266, t_267, n_267, t_268, n_268, t_269, n_269, t_270, n_270, r_0_0, r_0_1, r_0_2, r_0_3, r_0_6, r_0_7, r_0_8, r_0_9, r_0_11, r_0_12, r_0_13, r_0_14, r_0_15, r_1_0, r_3_0, r_3_1, r_3_2, r_6_0, r_6_1, r_6_4, r_6_5, r_6_7, r_7_0, r_7_1, r_7_2, r_7_3, r_7_4, r_17_0, r_17_1, r_18_1, r_18_2, r_18_3, r_18_4, r_18_6, r_28_1, r_28_2, r_28_3, r_28_4, r_28_6, r_38_0, r_253_0, r_253_1, r_253_2, r_253_3, r_258_0, r_258_1, r_258_3, r_258_4, r_258_6, r_258_8, r_265_0, r_265_1, r_265_3, r_265_4, r_265_5, r_0_4, r_0_5, r_3_0, c6, cp, tx_c2 _ hbp, ci]
        exact hq
      · have ea : tp_at b n a = -1 := if_neg hpn
        rw [ea, ct_xm s hs] at hq
        rw [ea] at cp
        rw [z_CountryReader_readItems_27]
        simp (disch := first | exact sd_cr | exact sd_ci | exact sd_cu | exact sd_cl9 | assumption | omega | exact t_259 | exact t_260 | exact t_261 | exact t_262 | exact t_263 | exact t_264 | exact t_254 | exact t_255 | exact t_256 | exact t_257 | exact t_266 | exact t_267 | exact t_268 | exact t_269 | exact t_270 | exact t_252 | exact t_240 | exact t_246 | exact t_2 | exact t_4 | exact t_5 | exact t_13 | exact t_14 | exact t_15 | exact t_16 | exact Or.inl t_39 | exact Or.inr t_7) only [z_CountryReader_readItems_29, z_CountryReader_readItems_31, z_CountryReader_readItems_34, z_CountryReader_readItems_35, z_CountryReader_readItems_38, z_CountryReader_readItems_41, z_CountryReader_readItems_43, z_CountryReader_readItems_45, z_CountryReader_readItems_46, z_CountryReader_readItems_49, z_CountryReader_readItems_50, false_and, and_false, if_true, if_false, Decidable.not_not, sd_ci, sd_cr, sd_cl9, sd_cu, sd_cat0, sd_cat1, sd_rfS, sd_n01, sd_n11, sd_n1, sd_n10, sd_n00, sd_b01, sd_b0, true_and, and_true, and_self, not_true_eq_false, not_false_eq_true, false_implies, true_implies, implies_true, or_true, true_or, or_false, false_or, Option.toList_some, Option.toList_none, List.cons_append, List.nil_append, Nat.reduceAdd, Nat.reduceLeDiff, nz_sub, nz_lt0, nz_ge0, nz_le0, nz_gt0, nz_eq0, nz_eq1, nz_lt, nz_le, nz_eq, nz_cl, nz_in, nz_add, nz_mul, nz_m1, nz_m1', Nat.reduceMul, Nat.reduceSub, Nat.reduceLT, Nat.reduceEqDiff, not_false_eq_true, false_implies, true_implies, true_and, and_true, h_0, h_1, t_2, n_2, h_3, t_4, n_4, t_5, n_5, h_6, t_7, n_7, t_8, n_8, t_9, n_9, t_10, n_10, t_11, n_11, t_12, n_12, t_13, n_13, t_14, n_14, t_15, n_15, t_16, n_16, h_17, h_18, t_19, n_19, t_20, n_20, t_21, n_21, t_22, n_22, h_28, t_29, n_29, t_30, n_30, t_31, n_31, t_32, n_32, h_38, t_39, n_39, t_240, n_240, t_246, n_246, t_252, n_252, h_253, t_254, n_254, t_255, n_255, t_256, n_256, t_257, n_257, h_258, t_259, n_259, t_260, n_260, t_261, n_261, t_262, n_262, t_263, n_263, t_264, n_264, h_265, t_266, n_266, t_267, n_267, t_268, n_268, t_269, n_269, t_270, n_270, r_0_0, r_0_1, r_0_2, r_0_3, r_0_6, r_0_7, r_0_8, r_0_9, r_0_11, r_0_12, r_0_13, r_0_14, r_0_15, r_1_0, r_3_0, r_3_1, r_3_2, r_6_0, r_6_1, r_6_4, r_6_5, r_6_7, r_7_0, r_7_1, r_7_2, r_7_3, r_7_4, r_17_0, r_17_1, r_18_1, r_18_2, r_18_3, r_18_4, r_18_6, r_28_1, r_28_2, r_28_3, r_28_4, r_28_6, r_38_0, r_253_0, r_253_1, r_253_2, r_253_3, r_258_0, r_258_1, r_258_3, r_258_4, r_258_6, r_258_8, r_265_0, r_265_1, r_265_3, r_265_4, r_265_5, r_0_4, r_0_5, r_3_0, c6, cp]
        exact hq
    cases hx : tx_x (1 + s) (tp_at b n a) with
    | none =>
      refine ⟨tp_ps b n a, some v, ?_, ?_, hp.1, hp.2, fun v' q => ?_⟩
      · intro σ l5 l6 l7 h h4
        refine ⟨sd_wI σ 1 2 (nI (tp_ps b n a)), fun e' j h1 _ => wI_1.trans (if_neg h1), rfl, h.at hp.2, fun v' q k hk => ?_, fun D Q hD hq => hXg σ l5 l6 l7 h D Q hD ?_⟩
        · cases q
          rw [wI_c (by decide)]
          exact h4 k hk
        · rw [hx]
          have m1 : (-1 : Int32) < 0 := by decide
          simp (disch := first | exact sd_cr | exact sd_ci | exact sd_cu | exact sd_cl9 | assumption | omega | exact t_259 | exact t_260 | exact t_261 | exact t_262 | exact t_263 | exact t_264 | exact t_254 | exact t_255 | exact t_256 | exact t_257 | exact t_266 | exact t_267 | exact t_268 | exact t_269 | exact t_270 | exact t_252 | exact t_240 | exact t_246 | exact t_2 | exact t_4 | exact t_5 | exact t_13 | exact t_14 | exact t_15 | exact t_16 | exact Or.inl t_39 | exact Or.inr t_7) only [z_CountryReader_readItems_60, z_CountryReader_readItems_62, z_CountryReader_readItems_64, z_CountryReader_readItems_67, z_CountryReader_readItems_69, z_CountryReader_readItems_71, z_CountryReader_readItems_74, z_CountryReader_readItems_75, false_and, and_false, if_true, if_false, Decidable.not_not, sd_ci, sd_cr, sd_cl9, sd_cu, sd_cat0, sd_cat1, sd_rfS, sd_n01, sd_n11, sd_n1, sd_n10, sd_n00, sd_b01, sd_b0, true_and, and_true, and_self, not_true_eq_false, not_false_eq_true, false_implies, true_implies, implies_true, or_true, true_or, or_false, false_or, Option.toList_some, Option.toList_none, List.cons_append, List.nil_append, Nat.reduceAdd, Nat.reduceLeDiff, nz_sub, nz_lt0, nz_ge0, nz_le0, nz_gt0, nz_eq0, nz_eq1, nz_lt, nz_le, nz_eq, nz_cl, nz_in, nz_add, nz_mul, nz_m1, nz_m1', Nat.reduceMul, Nat.reduceSub, Nat.reduceLT, Nat.reduceEqDiff, not_false_eq_true, false_implies, true_implies, true_and, and_true, rw_fv, m1]
          exact hq
      · intro σ t o k2 fr h hf k1 k2' k3 k4 k5 k6
        refine ⟨σ, fun _ _ _ _ => rfl, rfl, fun q => (by cases q), fun v' q => (by cases q; exact ⟨h, hf, k6⟩), fun D Q hD hq => ?_⟩
        simp (disch := first | exact sd_cr | exact sd_ci | exact sd_cu | exact sd_cl9 | assumption | omega | exact t_285 | exact t_283 | exact t_278 | exact t_281 | exact t_276 | exact t_274 | exact t_275 | exact t_277 | exact t_279 | exact t_280 | exact t_282 | exact t_284 | exact t_286 | exact t_287 | exact t_288 | exact t_289 | exact t_290 | exact t_291 | exact t_292 | exact t_293 | exact t_294 | exact t_295 | exact t_296 | exact t_297 | exact t_298 | exact t_299 | exact t_300) only [z_M_readItems_45, z_M_readItems_47, z_M_readItems_48, z_M_readItems_127, false_and, and_false, if_true, if_false, Decidable.not_not, sd_ci, sd_cr, sd_cl9, sd_cu, sd_cat0, sd_cat1, sd_rfS, sd_n01, sd_n11, sd_n1, sd_n10, sd_n00, sd_b01, sd_b0, true_and, and_true, and_self, not_true_eq_false, not_false_eq_true, false_implies, true_implies, implies_true, or_true, true_or, or_false, false_or, Option.toList_some, Option.toList_none, List.cons_append, List.nil_append, Nat.reduceAdd, Nat.reduceLeDiff, nz_sub, nz_lt0, nz_ge0, nz_le0, nz_gt0, nz_eq0, nz_eq1, nz_lt, nz_le, nz_eq, nz_cl, nz_in, nz_add, nz_mul, nz_m1, nz_m1', Nat.reduceMul, Nat.reduceSub, Nat.reduceLT, Nat.reduceEqDiff, not_false_eq_true, false_implies, true_implies, true_and, and_true, rw_fv]
        exact hq
      · cases q
        exact hv
    | some k =>
      have hpn : tp_ps b n a < n := by
        by_cases q : tp_ps b n a < n
        · exact q
        · have ea : tp_at b n a = -1 := if_neg q
          rw [ea, ct_xm s hs] at hx
          cases hx
      have ea : tp_at b n a = nI (b (tp_ps b n a)) := if_pos hpn
      have hk : k < tx_n (1 + s) := by
        rw [ea] at hx
        exact ct_xk s hs _ (hb _ hpn) k hx
      have hk6 : k < 6 := by omega
      have c6k : ¬ k < 0 := by omega
      have hcb := ct_b s hs k hk6
      have b1 := ct_b1 m hm k hk6
      have hmk : m / 2 ^ k < 2147483648 := Nat.lt_of_le_of_lt (Nat.div_le_self _ _) (by omega)
      have hmm : m / 2 ^ k % 2 < 2147483648 := Nat.lt_of_le_of_lt (Nat.mod_le _ _) hmk
      by_cases hbit : m.testBit k = true
      · have hbn : ¬ m / 2 ^ k % 2 = 0 := fun q => (b1.mp q) hbit
        refine ⟨tp_ps b n a, none, ?_, ?_, hp.1, hp.2, fun v' q => by cases q⟩
        · intro σ l5 l6 l7 h h4
          refine ⟨sd_wI σ 1 2 (nI (tp_ps b n a)), fun e' j h1 _ => wI_1.trans (if_neg h1), rfl, h.at hp.2, fun v' q => (by cases q), fun D Q hD hq => hXg σ l5 l6 l7 h D Q hD ?_⟩
          rw [hx]
          simp (disch := first | exact sd_cr | exact sd_ci | exact sd_cu | exact sd_cl9 | assumption | omega | exact t_259 | exact t_260 | exact t_261 | exact t_262 | exact t_263 | exact t_264 | exact t_254 | exact t_255 | exact t_256 | exact t_257 | exact t_266 | exact t_267 | exact t_268 | exact t_269 | exact t_270 | exact t_252 | exact t_240 | exact t_246 | exact t_2 | exact t_4 | exact t_5 | exact t_13 | exact t_14 | exact t_15 | exact t_16 | exact Or.inl t_39 | exact Or.inr t_7) only [z_CountryReader_readItems_60, z_CountryReader_readItems_62, z_CountryReader_readItems_64, z_CountryReader_readItems_67, z_CountryReader_readItems_69, z_CountryReader_readItems_71, z_CountryReader_readItems_74, z_CountryReader_readItems_75, z_CountryReader_readItems_76, z_CountryReader_readItems_77, z_CountryReader_readItems_79, z_CountryReader_readItems_80, z_CountryReader_readItems_81, z_CountryReader_readItems_82, z_CountryReader_readItems_85, z_CountryReader_readItems_86, false_and, and_false, if_true, if_false, Decidable.not_not, sd_ci, sd_cr, sd_cl9, sd_cu, sd_cat0, sd_cat1, sd_rfS, sd_n01, sd_n11, sd_n1, sd_n10, sd_n00, sd_b01, sd_b0, true_and, and_true, and_self, not_true_eq_false, not_false_eq_true, false_implies, true_implies, implies_true, or_true, true_or, or_false, false_or, Option.toList_some, Option.toList_none, List.cons_append, List.nil_append, Nat.reduceAdd, Nat.reduceLeDiff, nz_sub, nz_lt0, nz_ge0, nz_le0, nz_gt0, nz_eq0, nz_eq1, nz_lt, nz_le, nz_eq, nz_cl, nz_in, nz_add, nz_mul, nz_m1, nz_m1', Nat.reduceMul, Nat.reduceSub, Nat.reduceLT, Nat.reduceEqDiff, not_false_eq_true, false_implies, true_implies, true_and, and_true, rw_fv, hk6, nz_shr, nz_and1, hbn]
          exact hq
        · intro σ t o k2 fr h hf k1 k2' k3 k4 k5 k6
          refine ⟨sd_wI σ 271 11 (nI (tp_ps b n a)), fun e' j h1 _ => wI_1.trans (if_neg (fun q => h1 ⟨q.1, Or.inr q.2⟩)), rfl, fun _ => wI_k, fun v' q => (by cases q), fun D Q hD hq => ?_⟩
          have cf := fun Q => k_fails (L := L) (xs := xs) (fm := fm) (D := D) (Q := Q) hf (by omega)
          rw [h.2.2.2.1] at cf
          have ch := fun (σ : sd_Mem) Q => k_has (L := L) (xs := xs) (fm := fm) (σ := σ) (D := D) (Q := Q) hm hk6 (by omega)
          simp (disch := first | exact sd_cr | exact sd_ci | exact sd_cu | exact sd_cl9 | assumption | omega | exact t_285 | exact t_283 | exact t_278 | exact t_281 | exact t_276 | exact t_274 | exact t_275 | exact t_277 | exact t_279 | exact t_280 | exact t_282 | exact t_284 | exact t_286 | exact t_287 | exact t_288 | exact t_289 | exact t_290 | exact t_291 | exact t_292 | exact t_293 | exact t_294 | exact t_295 | exact t_296 | exact t_297 | exact t_298 | exact t_299 | exact t_300) only [z_M_readItems_45, z_M_readItems_47, z_M_readItems_48, z_M_readItems_51, z_M_readItems_52, z_M_readItems_55, z_M_readItems_56, z_M_readItems_59, z_M_readItems_61, z_M_readItems_63, z_M_readItems_66, z_M_readItems_69, z_M_readItems_70, z_M_readItems_73, z_M_readItems_74, false_and, and_false, if_true, if_false, Decidable.not_not, sd_ci, sd_cr, sd_cl9, sd_cu, sd_cat0, sd_cat1, sd_rfS, sd_n01, sd_n11, sd_n1, sd_n10, sd_n00, sd_b01, sd_b0, true_and, and_true, and_self, not_true_eq_false, not_false_eq_true, false_implies, true_implies, implies_true, or_true, true_or, or_false, false_or, Option.toList_some, Option.toList_none, List.cons_append, List.nil_append, Nat.reduceAdd, Nat.reduceLeDiff, nz_sub, nz_lt0, nz_ge0, nz_le0, nz_gt0, nz_eq0, nz_eq1, nz_lt, nz_le, nz_eq, nz_cl, nz_in, nz_add, nz_mul, nz_m1, nz_m1', Nat.reduceMul, Nat.reduceSub, Nat.reduceLT, Nat.reduceEqDiff, not_false_eq_true, false_implies, true_implies, true_and, and_true, h_271, t_272, n_272, t_273, n_273, t_274, n_274, t_275, n_275, t_276, n_276, t_277, n_277, t_278, n_278, t_279, n_279, t_280, n_280, t_281, n_281, t_282, n_282, t_283, n_283, t_284, n_284, t_285, n_285, t_286, n_286, t_287, n_287, t_288, n_288, t_289, n_289, t_290, n_290, t_291, n_291, t_292, n_292, t_293, n_293, t_294, n_294, t_295, n_295, t_296, n_296, t_297, n_297, t_298, n_298, t_299, n_299, t_300, n_300, t_301, n_301, r_271_1, r_271_2, r_271_3, r_271_4, r_271_15, r_271_16, r_271_18, r_271_19, r_271_20, r_271_21, r_271_22, r_271_23, r_271_24, r_271_25, r_271_26, r_271_34, r_271_35, r_271_38, r_271_39, r_271_40, r_271_42, r_271_45, r_271_46, r_271_47, r_271_48, r_271_49, r_271_50, r_271_53, r_271_54, r_271_55, r_271_57, rw_fv, hf, ch, sd_bT hbit, cf]
          exact hq
      · have hbn : m / 2 ^ k % 2 = 0 := b1.mpr hbit
        obtain ⟨hpp, hm2⟩ := ct_b2 m hm k hk6 hbit
        have hle := nb_e_le (b := b) (dg := 2) (lo := ct_lo s k) (hi := ct_hi s k) (show tp_ps b n a + 1 ≤ n by omega) (by decide)
        have hXn : ∀ (σ : sd_Mem) (l5 l6 l7 : Value), tp_X σ b n a → ∀ D Q, 6 ≤ D → sd_Go (sd_E1 L xs fm) D y_CountryReader_readItems 137 [.ref 3, .int (nI s), .ref (410 + (1 + s)), .int (nI (m ||| 2 ^ k)), .int (nI (ct_pop m)), .int (tp_at b n a), .int (nI k), l7] [.int (rw_fv (nb_e b n 2 (ct_lo s k) (ct_hi s k) (tp_ps b n a + 1)).2)] (sd_wI σ 1 2 (nI (nb_e b n 2 (ct_lo s k) (ct_hi s k) (tp_ps b n a + 1)).1)) Q → sd_Go (sd_E1 L xs fm) D y_CountryReader_readItems 27 [.ref 3, .int (nI s), .ref (410 + (1 + s)), .int (nI m), .int (nI (ct_pop m)), l5, l6, l7] [] σ Q := by
          intro σ l5 l6 l7 h D Q hD hq
          refine hXg σ l5 l6 l7 h D Q hD ?_
          rw [hx]
          have cn := fun Q => k_readNumber (L := L) (xs := xs) (fm := fm) (D := D) (Q := Q) (lo := ct_lo s k) (hi := ct_hi s k) (dg := 2) (by omega) (by omega) (by decide) (by decide) (h.at (a' := tp_ps b n a + 1) (by omega)) (by omega)
          rw [wI_wI] at cn
          have u3 := ct_t3
          have u4 := ct_t4
          have c24 : 6 * s + k < 24 := by omega
          have eL := ct_e2 s hs k hk6
          have eM := ct_e3 s hs k hk6
          simp (disch := first | exact sd_cr | exact sd_ci | exact sd_cu | exact sd_cl9 | assumption | omega | exact t_259 | exact t_260 | exact t_261 | exact t_262 | exact t_263 | exact t_264 | exact t_254 | exact t_255 | exact t_256 | exact t_257 | exact t_266 | exact t_267 | exact t_268 | exact t_269 | exact t_270 | exact t_252 | exact t_240 | exact t_246 | exact t_2 | exact t_4 | exact t_5 | exact t_13 | exact t_14 | exact t_15 | exact t_16 | exact Or.inl t_39 | exact Or.inr t_7) only [z_CountryReader_readItems_60, z_CountryReader_readItems_62, z_CountryReader_readItems_64, z_CountryReader_readItems_67, z_CountryReader_readItems_69, z_CountryReader_readItems_71, z_CountryReader_readItems_74, z_CountryReader_readItems_75, z_CountryReader_readItems_76, z_CountryReader_readItems_77, z_CountryReader_readItems_79, z_CountryReader_readItems_80, z_CountryReader_readItems_81, z_CountryReader_readItems_82, z_CountryReader_readItems_85, z_CountryReader_readItems_86, z_CountryReader_readItems_87, z_CountryReader_readItems_88, z_CountryReader_readItems_89, z_CountryReader_readItems_91, z_CountryReader_readItems_92, z_CountryReader_readItems_93, z_CountryReader_readItems_94, z_CountryReader_readItems_95, z_CountryReader_readItems_98, z_CountryReader_readItems_99, z_CountryReader_readItems_102, z_CountryReader_readItems_103, z_CountryReader_readItems_104, z_CountryReader_readItems_107, z_CountryReader_readItems_108, z_CountryReader_readItems_111, z_CountryReader_readItems_112, z_CountryReader_readItems_115, z_CountryReader_readItems_116, z_CountryReader_readItems_118, z_CountryReader_readItems_119, z_CountryReader_readItems_121, z_CountryReader_readItems_122, zx_CountryReader_readItems_122, z_CountryReader_readItems_123, z_CountryReader_readItems_126, z_CountryReader_readItems_127, z_CountryReader_readItems_129, z_CountryReader_readItems_130, z_CountryReader_readItems_132, z_CountryReader_readItems_133, zx_CountryReader_readItems_133, z_CountryReader_readItems_134, false_and, and_false, if_true, if_false, Decidable.not_not, sd_ci, sd_cr, sd_cl9, sd_cu, sd_cat0, sd_cat1, sd_rfS, sd_n01, sd_n11, sd_n1, sd_n10, sd_n00, sd_b01, sd_b0, true_and, and_true, and_self, not_true_eq_false, not_false_eq_true, false_implies, true_implies, implies_true, or_true, true_or, or_false, false_or, Option.toList_some, Option.toList_none, List.cons_append, List.nil_append, Nat.reduceAdd, Nat.reduceLeDiff, nz_sub, nz_lt0, nz_ge0, nz_le0, nz_gt0, nz_eq0, nz_eq1, nz_lt, nz_le, nz_eq, nz_cl, nz_in, nz_add, nz_mul, nz_m1, nz_m1', Nat.reduceMul, Nat.reduceSub, Nat.reduceLT, Nat.reduceEqDiff, not_false_eq_true, false_implies, true_implies, true_and, and_true, h_0, h_1, t_2, n_2, h_3, t_4, n_4, t_5, n_5, h_6, t_7, n_7, t_8, n_8, t_9, n_9, t_10, n_10, t_11, n_11, t_12, n_12, t_13, n_13, t_14, n_14, t_15, n_15, t_16, n_16, h_17, h_18, t_19, n_19, t_20, n_20, t_21, n_21, t_22, n_22, h_28, t_29, n_29, t_30, n_30, t_31, n_31, t_32, n_32, h_38, t_39, n_39, t_240, n_240, t_246, n_246, t_252, n_252, h_253, t_254, n_254, t_255, n_255, t_256, n_256, t_257, n_257, h_258, t_259, n_259, t_260, n_260, t_261, n_261, t_262, n_262, t_263, n_263, t_264, n_264, h_265, t_266, n_266, t_267, n_267, t_268, n_268, t_269, n_269, t_270, n_270, r_0_0, r_0_1, r_0_2, r_0_3, r_0_6, r_0_7, r_0_8, r_0_9, r_0_11, r_0_12, r_0_13, r_0_14, r_0_15, r_1_0, r_3_0, r_3_1, r_3_2, r_6_0, r_6_1, r_6_4, r_6_5, r_6_7, r_7_0, r_7_1, r_7_2, r_7_3, r_7_4, r_17_0, r_17_1, r_18_1, r_18_2, r_18_3, r_18_4, r_18_6, r_28_1, r_28_2, r_28_3, r_28_4, r_28_6, r_38_0, r_253_0, r_253_1, r_253_2, r_253_3, r_258_0, r_258_1, r_258_3, r_258_4, r_258_6, r_258_8, r_265_0, r_265_1, r_265_3, r_265_4, r_265_5, r_0_4, r_0_5, r_3_0, rw_fv, hk6, nz_shr, nz_and1, hbn, nz_shl1, nz_bor, wI_k, wI_wI, ct_q2, ct_q3, ct_E2, ct_E3, Nat.mul_comm s 6, c24, eL, eM, cn]
          exact hq
        have hMn : ∀ (σ : sd_Mem) t o k2 fr, tp_M σ t o b n (tp_ps b n a) → σ.1 271 11 = -1 → sd_tg k2 = 0 → fr + tx_n (1 + s) ≤ sd_ln k2 → fr ≤ 500 → k2 ≠ 271 → ∀ D Q, 6 ≤ D → sd_Go (sd_E1 L xs fm) D y_M_readItems 105 [.ref 271, .int (nI (tx_b 0 s)), .ref k2, .int (nI fr), .ref (410 + (1 + s)), .int (nI (m ||| 2 ^ k)), .int (nI k)] [] (ct_st σ k2 (fr + k) (nb_e b n 2 (ct_lo s k) (ct_hi s k) (tp_ps b n a + 1))) Q → sd_Go (sd_E1 L xs fm) D y_M_readItems 45 [.ref 271, .int (nI (tx_b 0 s)), .ref k2, .int (nI fr), .ref (410 + (1 + s)), .int (nI m), .int (nI k)] [] σ Q := by
          intro σ t o k2 fr h hf k1 k2' k3 k4 D Q hD hq
          have ch := fun (σ : sd_Mem) Q => k_has (L := L) (xs := xs) (fm := fm) (σ := σ) (D := D) (Q := Q) hm hk6 (by omega)
          have cl := fun (σ : sd_Mem) Q => k_leastOf (L := L) (xs := xs) (fm := fm) (σ := σ) (D := D) (Q := Q) hs hk (by omega)
          have cm := fun (σ : sd_Mem) Q => k_mostOf (L := L) (xs := xs) (fm := fm) (σ := σ) (D := D) (Q := Q) hs hk (by omega)
          have cr := fun Q => k_readItem (L := L) (xs := xs) (fm := fm) (D := D) (Q := Q) (k2 := k2) (sp := fr + k) (lo := ct_lo s k) (hi := ct_hi s k) h hf hpn hn k1 (by omega) (by omega) k4 (by omega) (by omega) (by omega)
          rw [z_M_readItems_45]
          simp (disch := first | exact sd_cr | exact sd_ci | exact sd_cu | exact sd_cl9 | assumption | omega | exact t_285 | exact t_283 | exact t_278 | exact t_281 | exact t_276 | exact t_274 | exact t_275 | exact t_277 | exact t_279 | exact t_280 | exact t_282 | exact t_284 | exact t_286 | exact t_287 | exact t_288 | exact t_289 | exact t_290 | exact t_291 | exact t_292 | exact t_293 | exact t_294 | exact t_295 | exact t_296 | exact t_297 | exact t_298 | exact t_299 | exact t_300) only [z_M_readItems_47, z_M_readItems_48, z_M_readItems_51, z_M_readItems_52, z_M_readItems_55, z_M_readItems_56, z_M_readItems_59, z_M_readItems_61, z_M_readItems_63, z_M_readItems_66, z_M_readItems_69, z_M_readItems_70, z_M_readItems_73, z_M_readItems_74, z_M_readItems_75, z_M_readItems_77, z_M_readItems_78, z_M_readItems_80, z_M_readItems_81, z_M_readItems_82, z_M_readItems_84, z_M_readItems_85, z_M_readItems_86, z_M_readItems_87, z_M_readItems_89, z_M_readItems_90, z_M_readItems_91, z_M_readItems_93, z_M_readItems_96, z_M_readItems_97, z_M_readItems_99, z_M_readItems_102, false_and, and_false, if_true, if_false, Decidable.not_not, sd_ci, sd_cr, sd_cl9, sd_cu, sd_cat0, sd_cat1, sd_rfS, sd_n01, sd_n11, sd_n1, sd_n10, sd_n00, sd_b01, sd_b0, true_and, and_true, and_self, not_true_eq_false, not_false_eq_true, false_implies, true_implies, implies_true, or_true, true_or, or_false, false_or, Option.toList_some, Option.toList_none, List.cons_append, List.nil_append, Nat.reduceAdd, Nat.reduceLeDiff, nz_sub, nz_lt0, nz_ge0, nz_le0, nz_gt0, nz_eq0, nz_eq1, nz_lt, nz_le, nz_eq, nz_cl, nz_in, nz_add, nz_mul, nz_m1, nz_m1', Nat.reduceMul, Nat.reduceSub, Nat.reduceLT, Nat.reduceEqDiff, not_false_eq_true, false_implies, true_implies, true_and, and_true, h_271, t_272, n_272, t_273, n_273, t_274, n_274, t_275, n_275, t_276, n_276, t_277, n_277, t_278, n_278, t_279, n_279, t_280, n_280, t_281, n_281, t_282, n_282, t_283, n_283, t_284, n_284, t_285, n_285, t_286, n_286, t_287, n_287, t_288, n_288, t_289, n_289, t_290, n_290, t_291, n_291, t_292, n_292, t_293, n_293, t_294, n_294, t_295, n_295, t_296, n_296, t_297, n_297, t_298, n_298, t_299, n_299, t_300, n_300, t_301, n_301, r_271_1, r_271_2, r_271_3, r_271_4, r_271_15, r_271_16, r_271_18, r_271_19, r_271_20, r_271_21, r_271_22, r_271_23, r_271_24, r_271_25, r_271_26, r_271_34, r_271_35, r_271_38, r_271_39, r_271_40, r_271_42, r_271_45, r_271_46, r_271_47, r_271_48, r_271_49, r_271_50, r_271_53, r_271_54, r_271_55, r_271_57, hf, ch, sd_bF hbit, nz_shl1, nz_bor, cl, cm, cr]
          exact hq
        cases hr : (nb_e b n 2 (ct_lo s k) (ct_hi s k) (tp_ps b n a + 1)).2 with
        | none =>
          refine ⟨(nb_e b n 2 (ct_lo s k) (ct_hi s k) (tp_ps b n a + 1)).1, none, ?_, ?_, by omega, hle.2.1, fun v' q => by cases q⟩
          · intro σ l5 l6 l7 h h4
            refine ⟨_, fun e' j h1 _ => wI_1.trans (if_neg h1), rfl, h.at hle.2.1, fun v' q => (by cases q), fun D Q hD hq => hXn σ l5 l6 l7 h D Q hD ?_⟩
            rw [hr]
            simp (disch := first | exact sd_cr | exact sd_ci | exact sd_cu | exact sd_cl9 | assumption | omega | exact t_259 | exact t_260 | exact t_261 | exact t_262 | exact t_263 | exact t_264 | exact t_254 | exact t_255 | exact t_256 | exact t_257 | exact t_266 | exact t_267 | exact t_268 | exact t_269 | exact t_270 | exact t_252 | exact t_240 | exact t_246 | exact t_2 | exact t_4 | exact t_5 | exact t_13 | exact t_14 | exact t_15 | exact t_16 | exact Or.inl t_39 | exact Or.inr t_7) only [z_CountryReader_readItems_137, z_CountryReader_readItems_139, z_CountryReader_readItems_141, z_CountryReader_readItems_142, z_CountryReader_readItems_145, z_CountryReader_readItems_146, false_and, and_false, if_true, if_false, Decidable.not_not, sd_ci, sd_cr, sd_cl9, sd_cu, sd_cat0, sd_cat1, sd_rfS, sd_n01, sd_n11, sd_n1, sd_n10, sd_n00, sd_b01, sd_b0, true_and, and_true, and_self, not_true_eq_false, not_false_eq_true, false_implies, true_implies, implies_true, or_true, true_or, or_false, false_or, Option.toList_some, Option.toList_none, List.cons_append, List.nil_append, Nat.reduceAdd, Nat.reduceLeDiff, nz_sub, nz_lt0, nz_ge0, nz_le0, nz_gt0, nz_eq0, nz_eq1, nz_lt, nz_le, nz_eq, nz_cl, nz_in, nz_add, nz_mul, nz_m1, nz_m1', Nat.reduceMul, Nat.reduceSub, Nat.reduceLT, Nat.reduceEqDiff, not_false_eq_true, false_implies, true_implies, true_and, and_true, rw_fv]
            exact hq
          · intro σ t o k2 fr h hf k1 k2' k3 k4 k5 k6
            refine ⟨sd_wI (sd_wI σ 271 10 (nI (nb_e b n 2 (ct_lo s k) (ct_hi s k) (tp_ps b n a + 1)).1)) 271 11 (nI (nb_e b n 2 (ct_lo s k) (ct_hi s k) (tp_ps b n a + 1)).1), fun e' j h1 _ => ?_, rfl, fun _ => wI_k, fun v' q => (by cases q), fun D Q hD hq => hMn σ t o k2 fr h hf k1 k2' k3 k4 D Q hD ?_⟩
            · rw [wI_1, if_neg (fun q => h1 ⟨q.1, Or.inr q.2⟩), wI_1, if_neg (fun q => h1 ⟨q.1, Or.inl q.2⟩)]
            · have e0 : ct_st σ k2 (fr + k) (nb_e b n 2 (ct_lo s k) (ct_hi s k) (tp_ps b n a + 1)) = sd_wI (sd_wI σ 271 10 (nI (nb_e b n 2 (ct_lo s k) (ct_hi s k) (tp_ps b n a + 1)).1)) 271 11 (nI (nb_e b n 2 (ct_lo s k) (ct_hi s k) (tp_ps b n a + 1)).1) := by
                unfold ct_st
                rw [hr]
              rw [e0]
              generalize (nb_e b n 2 (ct_lo s k) (ct_hi s k) (tp_ps b n a + 1)).1 = e1 at *
              have e11 : (sd_wI (sd_wI σ 271 10 (nI e1)) 271 11 (nI e1)).1 271 11 = nI e1 := wI_k
              have he1 : e1 < 1000 := by omega
              simp (disch := first | exact sd_cr | exact sd_ci | exact sd_cu | exact sd_cl9 | assumption | omega | exact t_285 | exact t_283 | exact t_278 | exact t_281 | exact t_276 | exact t_274 | exact t_275 | exact t_277 | exact t_279 | exact t_280 | exact t_282 | exact t_284 | exact t_286 | exact t_287 | exact t_288 | exact t_289 | exact t_290 | exact t_291 | exact t_292 | exact t_293 | exact t_294 | exact t_295 | exact t_296 | exact t_297 | exact t_298 | exact t_299 | exact t_300) only [z_M_readItems_45, z_M_readItems_47, z_M_readItems_48, z_M_readItems_51, z_M_readItems_52, z_M_readItems_55, z_M_readItems_56, z_M_readItems_105, z_M_readItems_106, z_M_readItems_109, z_M_readItems_110, z_M_readItems_127, false_and, and_false, if_true, if_false, Decidable.not_not, sd_ci, sd_cr, sd_cl9, sd_cu, sd_cat0, sd_cat1, sd_rfS, sd_n01, sd_n11, sd_n1, sd_n10, sd_n00, sd_b01, sd_b0, true_and, and_true, and_self, not_true_eq_false, not_false_eq_true, false_implies, true_implies, implies_true, or_true, true_or, or_false, false_or, Option.toList_some, Option.toList_none, List.cons_append, List.nil_append, Nat.reduceAdd, Nat.reduceLeDiff, nz_sub, nz_lt0, nz_ge0, nz_le0, nz_gt0, nz_eq0, nz_eq1, nz_lt, nz_le, nz_eq, nz_cl, nz_in, nz_add, nz_mul, nz_m1, nz_m1', Nat.reduceMul, Nat.reduceSub, Nat.reduceLT, Nat.reduceEqDiff, not_false_eq_true, false_implies, true_implies, true_and, and_true, h_271, t_272, n_272, t_273, n_273, t_274, n_274, t_275, n_275, t_276, n_276, t_277, n_277, t_278, n_278, t_279, n_279, t_280, n_280, t_281, n_281, t_282, n_282, t_283, n_283, t_284, n_284, t_285, n_285, t_286, n_286, t_287, n_287, t_288, n_288, t_289, n_289, t_290, n_290, t_291, n_291, t_292, n_292, t_293, n_293, t_294, n_294, t_295, n_295, t_296, n_296, t_297, n_297, t_298, n_298, t_299, n_299, t_300, n_300, t_301, n_301, r_271_1, r_271_2, r_271_3, r_271_4, r_271_15, r_271_16, r_271_18, r_271_19, r_271_20, r_271_21, r_271_22, r_271_23, r_271_24, r_271_25, r_271_26, r_271_34, r_271_35, r_271_38, r_271_39, r_271_40, r_271_42, r_271_45, r_271_46, r_271_47, r_271_48, r_271_49, r_271_50, r_271_53, r_271_54, r_271_55, r_271_57, e11]
              exact hq
        | some w =>
          have hlt := hle.2.2 (by rw [hr]; rfl)
          have hw : w ≤ ct_hi s k := by
            unfold nb_e nb_r at hr
            split at hr
            · split at hr
              · cases hr
              · split at hr
                · cases hr
                · rename_i q
                  cases hr
                  omega
            · cases hr
          generalize he1 : (nb_e b n 2 (ct_lo s k) (ct_hi s k) (tp_ps b n a + 1)).1 = e1 at *
          have hp1 := tp_ps_le (b := b) hle.2.1
          obtain ⟨e2, r2, x2, m2, p1, p2, p3⟩ := ih (m ||| 2 ^ k) e1 (fun j => if j = k then w else v j) (by omega) hm2 hle.2.1 (fun j hj => by
            show (if j = k then w else v j) ≤ ct_hi s j
            split
            · rename_i q; rw [q]; exact hw
            · exact hv j hj)
          refine ⟨e2, r2, ?_, ?_, by omega, p2, p3⟩
          · intro σ l5 l6 l7 h h4
            have hX := (h.at (a' := e1) hle.2.1)
            have hX2 : tp_X (sd_wI (sd_wI σ 1 2 (nI e1)) 4 k (nI w)) b n e1 := by
              obtain ⟨g1, g2, g3, g4, g5, g6⟩ := hX
              exact ⟨by rw [wI_c (by decide)]; exact g1, fun i hi => by rw [wI_c (by decide)]; exact g2 i hi, by rw [wI_c (by decide)]; exact g3, g4, g5, g6⟩
            obtain ⟨σ2, y1, y2, y3, y4, y5⟩ := x2 _ (.int (tp_at b n a)) (.int (nI k)) (.int (nI w)) hX2 (fun j hj => by
              rw [wI_1]
              by_cases q : j = k
              · rw [if_pos ⟨rfl, q⟩, if_pos q]
              · rw [if_neg (fun r => q r.2), if_neg q, wI_c (by decide)]
                exact h4 j hj)
            refine ⟨σ2, fun e' j q1 q2 => ?_, y2, y3, y4, fun D Q hD hq => hXn σ l5 l6 l7 h D Q hD ?_⟩
            · rw [y1 e' j q1 q2, wI_c q2, wI_1, if_neg q1]
            · have nx := y5 D Q hD hq
              rw [hpp] at nx
              rw [hr]
              have hw9 : w < 1000 := by omega
              simp (disch := first | exact sd_cr | exact sd_ci | exact sd_cu | exact sd_cl9 | assumption | omega | exact t_259 | exact t_260 | exact t_261 | exact t_262 | exact t_263 | exact t_264 | exact t_254 | exact t_255 | exact t_256 | exact t_257 | exact t_266 | exact t_267 | exact t_268 | exact t_269 | exact t_270 | exact t_252 | exact t_240 | exact t_246 | exact t_2 | exact t_4 | exact t_5 | exact t_13 | exact t_14 | exact t_15 | exact t_16 | exact Or.inl t_39 | exact Or.inr t_7) only [z_CountryReader_readItems_137, z_CountryReader_readItems_139, z_CountryReader_readItems_141, z_CountryReader_readItems_142, z_CountryReader_readItems_145, z_CountryReader_readItems_146, z_CountryReader_readItems_147, z_CountryReader_readItems_148, z_CountryReader_readItems_151, z_CountryReader_readItems_153, z_CountryReader_readItems_155, z_CountryReader_readItems_156, z_CountryReader_readItems_159, false_and, and_false, if_true, if_false, Decidable.not_not, sd_ci, sd_cr, sd_cl9, sd_cu, sd_cat0, sd_cat1, sd_rfS, sd_n01, sd_n11, sd_n1, sd_n10, sd_n00, sd_b01, sd_b0, true_and, and_true, and_self, not_true_eq_false, not_false_eq_true, false_implies, true_implies, implies_true, or_true, true_or, or_false, false_or, Option.toList_some, Option.toList_none, List.cons_append, List.nil_append, Nat.reduceAdd, Nat.reduceLeDiff, nz_sub, nz_lt0, nz_ge0, nz_le0, nz_gt0, nz_eq0, nz_eq1, nz_lt, nz_le, nz_eq, nz_cl, nz_in, nz_add, nz_mul, nz_m1, nz_m1', Nat.reduceMul, Nat.reduceSub, Nat.reduceLT, Nat.reduceEqDiff, not_false_eq_true, false_implies, true_implies, true_and, and_true, h_0, h_1, t_2, n_2, h_3, t_4, n_4, t_5, n_5, h_6, t_7, n_7, t_8, n_8, t_9, n_9, t_10, n_10, t_11, n_11, t_12, n_12, t_13, n_13, t_14, n_14, t_15, n_15, t_16, n_16, h_17, h_18, t_19, n_19, t_20, n_20, t_21, n_21, t_22, n_22, h_28, t_29, n_29, t_30, n_30, t_31, n_31, t_32, n_32, h_38, t_39, n_39, t_240, n_240, t_246, n_246, t_252, n_252, h_253, t_254, n_254, t_255, n_255, t_256, n_256, t_257, n_257, h_258, t_259, n_259, t_260, n_260, t_261, n_261, t_262, n_262, t_263, n_263, t_264, n_264, h_265, t_266, n_266, t_267, n_267, t_268, n_268, t_269, n_269, t_270, n_270, r_0_0, r_0_1, r_0_2, r_0_3, r_0_6, r_0_7, r_0_8, r_0_9, r_0_11, r_0_12, r_0_13, r_0_14, r_0_15, r_1_0, r_3_0, r_3_1, r_3_2, r_6_0, r_6_1, r_6_4, r_6_5, r_6_7, r_7_0, r_7_1, r_7_2, r_7_3, r_7_4, r_17_0, r_17_1, r_18_1, r_18_2, r_18_3, r_18_4, r_18_6, r_28_1, r_28_2, r_28_3, r_28_4, r_28_6, r_38_0, r_253_0, r_253_1, r_253_2, r_253_3, r_258_0, r_258_1, r_258_3, r_258_4, r_258_6, r_258_8, r_265_0, r_265_1, r_265_3, r_265_4, r_265_5, r_0_4, r_0_5, r_3_1, rw_fv, hk6]
              exact nx
          · intro σ t o k2 fr h hf k1 k2' k3 k4 k5 k6
            have hM1 : tp_M (sd_wI (sd_wI σ 271 10 (nI e1)) k2 (fr + k) (nI w)) t o b n e1 := (h.at hle.2.1).wk k4 k5
            have hM2 := hM1.at (a' := tp_ps b n e1) hp1.2
            obtain ⟨σ2, y1, y2, y3, y4, y5⟩ := m2 _ t o k2 fr hM2 (by rw [wI_o (by decide), wI_c k4.symm, wI_o (by decide)]; exact hf) k1 k2' k3 k4 k5 (fun j hj => by
              rw [wI_c k4, wI_1]
              by_cases q : j = k
              · rw [if_pos ⟨rfl, by omega⟩, if_pos q]
              · rw [if_neg (fun r => q (by omega)), if_neg q, wI_c k4]
                exact k6 j hj)
            refine ⟨σ2, fun e' j q1 q2 => ?_, y2, y3, y4, fun D Q hD hq => hMn σ t o k2 fr h hf k1 k2' k3 k4 D Q hD ?_⟩
            · rw [y1 e' j q1 q2, wI_1, if_neg (fun r => q1 ⟨r.1, Or.inl r.2⟩), wI_1, if_neg (fun r => q2 ⟨r.1, by omega, by omega⟩), wI_1, if_neg (fun r => q1 ⟨r.1, Or.inl r.2⟩)]
            · have nx := y5 D Q hD hq
              have e0 : ct_st σ k2 (fr + k) (nb_e b n 2 (ct_lo s k) (ct_hi s k) (tp_ps b n a + 1)) = sd_wI (sd_wI σ 271 10 (nI e1)) k2 (fr + k) (nI w) := by
                unfold ct_st
                rw [hr, he1]
              rw [e0]
              have hf2 : (sd_wI (sd_wI σ 271 10 (nI e1)) k2 (fr + k) (nI w)).1 271 11 = -1 := by rw [wI_c k4.symm, wI_o (by decide)]; exact hf
              have cl := fun Q => k_look (L := L) (xs := xs) (fm := fm) (D := D) (Q := Q) hM1 (by omega)
              have csp := fun (σ : sd_Mem) (v : Int32) Q => k_spotOf (L := L) (xs := xs) (fm := fm) (σ := σ) (Q := Q) (v := v) (i := 1 + s) (D := D) hs7 (by omega)
              simp (disch := first | exact sd_cr | exact sd_ci | exact sd_cu | exact sd_cl9 | assumption | omega | exact t_285 | exact t_283 | exact t_278 | exact t_281 | exact t_276 | exact t_274 | exact t_275 | exact t_277 | exact t_279 | exact t_280 | exact t_282 | exact t_284 | exact t_286 | exact t_287 | exact t_288 | exact t_289 | exact t_290 | exact t_291 | exact t_292 | exact t_293 | exact t_294 | exact t_295 | exact t_296 | exact t_297 | exact t_298 | exact t_299 | exact t_300) only [z_M_readItems_105, z_M_readItems_106, z_M_readItems_109, z_M_readItems_110, z_M_readItems_113, z_M_readItems_115, z_M_readItems_116, z_M_readItems_119, z_M_readItems_122, z_M_readItems_124, false_and, and_false, if_true, if_false, Decidable.not_not, sd_ci, sd_cr, sd_cl9, sd_cu, sd_cat0, sd_cat1, sd_rfS, sd_n01, sd_n11, sd_n1, sd_n10, sd_n00, sd_b01, sd_b0, true_and, and_true, and_self, not_true_eq_false, not_false_eq_true, false_implies, true_implies, implies_true, or_true, true_or, or_false, false_or, Option.toList_some, Option.toList_none, List.cons_append, List.nil_append, Nat.reduceAdd, Nat.reduceLeDiff, nz_sub, nz_lt0, nz_ge0, nz_le0, nz_gt0, nz_eq0, nz_eq1, nz_lt, nz_le, nz_eq, nz_cl, nz_in, nz_add, nz_mul, nz_m1, nz_m1', Nat.reduceMul, Nat.reduceSub, Nat.reduceLT, Nat.reduceEqDiff, not_false_eq_true, false_implies, true_implies, true_and, and_true, h_271, t_272, n_272, t_273, n_273, t_274, n_274, t_275, n_275, t_276, n_276, t_277, n_277, t_278, n_278, t_279, n_279, t_280, n_280, t_281, n_281, t_282, n_282, t_283, n_283, t_284, n_284, t_285, n_285, t_286, n_286, t_287, n_287, t_288, n_288, t_289, n_289, t_290, n_290, t_291, n_291, t_292, n_292, t_293, n_293, t_294, n_294, t_295, n_295, t_296, n_296, t_297, n_297, t_298, n_298, t_299, n_299, t_300, n_300, t_301, n_301, r_271_1, r_271_2, r_271_3, r_271_4, r_271_15, r_271_16, r_271_18, r_271_19, r_271_20, r_271_21, r_271_22, r_271_23, r_271_24, r_271_25, r_271_26, r_271_34, r_271_35, r_271_38, r_271_39, r_271_40, r_271_42, r_271_45, r_271_46, r_271_47, r_271_48, r_271_49, r_271_50, r_271_53, r_271_54, r_271_55, r_271_57, hf2, cl, csp]
              exact nx
end SDBW
