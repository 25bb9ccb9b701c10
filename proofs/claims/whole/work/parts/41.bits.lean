/-! bits; the vows that bind a person -/
theorem nz_bor {a b : Nat} : nI a ||| nI b = nI (a ||| b) := Int32.toBitVec_inj.mp (by
  show BitVec.ofNat 32 a ||| BitVec.ofNat 32 b = BitVec.ofNat 32 (a ||| b)
  apply BitVec.eq_of_toNat_eq
  rw [BitVec.toNat_or, BitVec.toNat_ofNat, BitVec.toNat_ofNat, BitVec.toNat_ofNat, Nat.or_mod_two_pow])
theorem nz_shl1 {v : Nat} (h : v < 31) : nI 1 <<< (nI v &&& 31) = nI (2 ^ v) := by
  have : ∀ v, v < 31 → nI 1 <<< (nI v &&& 31) = nI (2 ^ v) := by decide +kernel
  exact this v h
theorem nz_shr {S k : Nat} (hS : S < 2147483648) (hk : k < 32) : nI S >>> (nI k &&& 31) = nI (S / 2 ^ k) := by
  have : ∀ k, k < 32 → ((nI k &&& 31).toBitVec.smod 32).toNat = k := by decide +kernel
  exact pk_shrN hS _ k (this k hk)
theorem nz_and1 {S : Nat} (hS : S < 2147483648) : nI S &&& nI 1 = nI (S % 2) := by
  have := pk_andN (n := S) (Nat.lt_trans hS (by decide)) (m := nI 1) 1 (by decide)
  exact this
theorem sw_tb {S k : Nat} : (S / 2 ^ k % 2 = 1) ↔ S.testBit k = true := by
  rw [Nat.testBit_eq_decide_div_mod_eq, decide_eq_true_iff]
section SD41
variable {L : Nat} {xs : Nat → Int32} {fm : Option Nat} {σ : sd_Mem} {d : Nat} {Q : Option Value → sd_Mem → Prop} {A W : sw_T}
theorem c_M_has {S k : Nat} (hS : S < 2147483648) (hk : k < 32) : sd_Call (sd_E1 L xs fm) (d + 1) y_M_has [.int (nI S), .int (nI k)] σ Q ↔ Q (some (.int (sd_b (S.testBit k = true)))) σ := by
  refine sd_Call.iff (fun Q hq => ?_) Q
  have h2 : S / 2 ^ k < 2147483648 := Nat.lt_of_le_of_lt (Nat.div_le_self _ _) hS
  have h3 : S / 2 ^ k % 2 < 2147483648 := by omega
  rw [sd_Call.start (ls := [.int (nI S), .int (nI k)]) m_M_has (by decide) (Nat.le_of_ble_eq_true rfl) rfl]
  simp (disch := first | exact sd_cr | exact sd_ci | exact sd_cu | exact sd_cl9 | assumption | omega) only [z_M_has_0, z_M_has_1, z_M_has_2, z_M_has_3, z_M_has_4, z_M_has_5, z_M_has_6, z_M_has_9, z_M_has_10, z_M_has_13, z_M_has_14, false_and, and_false, if_true, if_false, Decidable.not_not, sd_ci, sd_cr, sd_cl9, sd_cu, sd_cat0, sd_cat1, sd_rfS, sd_n01, sd_n11, sd_n1, sd_n10, sd_n00, sd_b01, sd_b0, true_and, and_true, and_self, not_true_eq_false, not_false_eq_true, false_implies, true_implies, implies_true, or_true, true_or, or_false, false_or, Option.toList_some, Option.toList_none, List.cons_append, List.nil_append, Nat.reduceAdd, Nat.reduceLeDiff, nz_sub, nz_lt0, nz_ge0, nz_le0, nz_gt0, nz_eq0, nz_eq1, nz_lt, nz_le, nz_eq, nz_cl, nz_in, nz_add, nz_mul, nz_m1, nz_m1', Nat.reduceMul, Nat.reduceSub, Nat.reduceLT, Nat.reduceEqDiff, not_false_eq_true, false_implies, true_implies, true_and, and_true, nz_shr, nz_and1, sw_tb]
  ((repeat' first | (refine And.intro ?_ ?_) | (intro _)) <;> first | (rw [sd_bT (by assumption)] at hq; exact hq) | (rw [sd_bF (by assumption)] at hq; exact hq))
/-- v binds p's row -/
abbrev sw_bn (W : sw_T) (p v : Nat) : Prop := 0 < W 1 v 5 ∧ W 1 v 0 = p ∧ W 1 v 1 ≤ 5
/-- where v is broken by the row f of m deeds -/
abbrev sw_br (W : sw_T) (v : Nat) (f : Nat → Nat) (m : Nat) : Option Nat := sw_pb f m (W 1 v 1) (W 1 v 2) (W 1 v 3) (W 1 v 4)
theorem c_M_vowBreaks {c s e g m v : Nat} {f : Nat → Nat} (hV : sd_VM σ c s (W 1)) (hv : v < s) (hk : W 1 v 1 ≤ 5) (he : sd_tg e = 0) (hm : g + m ≤ sd_ln e) (hm1 : 0 < m) (hel : sd_ln e < 100000) (hf : ∀ i, i < m → σ.1 e (g + i) = nI (f i)) (hfb : ∀ i, f i < 1000) :
    sd_Call (sd_E1 L xs fm) (d + 2) y_M_vowBreaks [.ref 271, .ref c, .int (nI v), .ref e, .int (nI g), .int (nI m)] σ Q ↔ Q (some (.int (sd_o (sw_br W v f m)))) σ := by
  refine sd_Call.iff (fun Q hq => ?_) Q
  obtain ⟨t1, t2, h1, h2, h3, h4⟩ := hV
  rw [sd_Call.start (ls := [.ref 271, .ref c, .int (nI v), .ref e, .int (nI g), .int (nI m), sd_un]) m_M_vowBreaks (by decide) (Nat.le_of_ble_eq_true rfl) rfl]
  simp (disch := first | exact sd_cr | exact sd_ci | exact sd_cu | exact sd_cl9 | assumption | omega | (apply nz_k; apply h4)) only [z_M_vowBreaks_0, z_M_vowBreaks_2, z_M_vowBreaks_4, z_M_vowBreaks_5, z_M_vowBreaks_6, z_M_vowBreaks_7, z_M_vowBreaks_9, z_M_vowBreaks_10, z_M_vowBreaks_12, z_M_vowBreaks_14, z_M_vowBreaks_15, z_M_vowBreaks_17, z_M_vowBreaks_18, z_M_vowBreaks_19, z_M_vowBreaks_20, z_M_vowBreaks_21, z_M_vowBreaks_23, z_M_vowBreaks_24, z_M_vowBreaks_25, z_M_vowBreaks_26, z_M_vowBreaks_27, z_M_vowBreaks_29, z_M_vowBreaks_30, z_M_vowBreaks_31, z_M_vowBreaks_32, z_M_vowBreaks_33, z_M_vowBreaks_35, z_M_vowBreaks_36, z_M_vowBreaks_37, z_M_vowBreaks_38, z_M_vowBreaks_41, false_and, and_false, if_true, if_false, Decidable.not_not, sd_ci, sd_cr, sd_cl9, sd_cu, sd_cat0, sd_cat1, sd_rfS, sd_n01, sd_n11, sd_n1, sd_n10, sd_n00, sd_b01, sd_b0, true_and, and_true, and_self, not_true_eq_false, not_false_eq_true, false_implies, true_implies, implies_true, or_true, true_or, or_false, false_or, Option.toList_some, Option.toList_none, List.cons_append, List.nil_append, Nat.reduceAdd, Nat.reduceLeDiff, nz_sub, nz_lt0, nz_ge0, nz_le0, nz_gt0, nz_eq0, nz_eq1, nz_lt, nz_le, nz_eq, nz_cl, nz_in, nz_add, nz_mul, nz_m1, nz_m1', Nat.reduceMul, Nat.reduceSub, Nat.reduceLT, Nat.reduceEqDiff, not_false_eq_true, false_implies, true_implies, true_and, and_true, t1, t2, h3 v hv, c_M_breaksAt hk (h4 v 2) (h4 v 3) (h4 v 4) he hm hm1 hel hf hfb]
  ((repeat' first | (refine And.intro ?_ ?_) | (intro _)) <;> first | omega | exact hq)
theorem c_M_ownBreaks {c P v : Nat} (hM : sw_M σ c P W) (hW : sw_OK P W) (hv : v < W 0 0 0) (hk : W 1 v 1 ≤ 5) :
    sd_Call (sd_E1 L xs fm) (d + 3) y_M_ownBreaks [.ref 271, .ref c, .int (nI v)] σ Q ↔ Q (some (.int (sd_o (sw_br W v (W 4 (W 1 v 0)) (W 2 (W 1 v 0) 0))))) σ := by
  refine sd_Call.iff (fun Q hq => ?_) Q
  obtain ⟨hV, w5, w6⟩ := hM
  obtain ⟨t1, t2, h1, h2, h3, h4⟩ := id hV
  obtain ⟨bP2, bW, bz, bf, bs, bv, bu⟩ := hW
  have hp := (bv v hv).1
  have hz := bz _ hp
  obtain ⟨z1, z2, z3⟩ := w5 _ hp
  have e0 := h3 v hv 0 (by decide)
  rw [Nat.add_zero] at e0
  rw [sd_Call.start (ls := [.ref 271, .ref c, .int (nI v), sd_un]) m_M_ownBreaks (by decide) (Nat.le_of_ble_eq_true rfl) rfl]
  simp (disch := first | exact sd_cr | exact sd_ci | exact sd_cu | exact sd_cl9 | assumption | omega | (apply nz_m; apply bW) | (apply nz_k; apply bW)) only [z_M_ownBreaks_0, z_M_ownBreaks_1, z_M_ownBreaks_3, z_M_ownBreaks_5, z_M_ownBreaks_6, z_M_ownBreaks_7, z_M_ownBreaks_8, z_M_ownBreaks_9, z_M_ownBreaks_10, z_M_ownBreaks_11, z_M_ownBreaks_12, z_M_ownBreaks_13, z_M_ownBreaks_14, z_M_ownBreaks_16, z_M_ownBreaks_17, z_M_ownBreaks_18, z_M_ownBreaks_19, z_M_ownBreaks_20, z_M_ownBreaks_21, z_M_ownBreaks_23, z_M_ownBreaks_24, z_M_ownBreaks_25, z_M_ownBreaks_26, z_M_ownBreaks_27, z_M_ownBreaks_28, z_M_ownBreaks_31, false_and, and_false, if_true, if_false, Decidable.not_not, sd_ci, sd_cr, sd_cl9, sd_cu, sd_cat0, sd_cat1, sd_rfS, sd_n01, sd_n11, sd_n1, sd_n10, sd_n00, sd_b01, sd_b0, true_and, and_true, and_self, not_true_eq_false, not_false_eq_true, false_implies, true_implies, implies_true, or_true, true_or, or_false, false_or, Option.toList_some, Option.toList_none, List.cons_append, List.nil_append, Nat.reduceAdd, Nat.reduceLeDiff, nz_sub, nz_lt0, nz_ge0, nz_le0, nz_gt0, nz_eq0, nz_eq1, nz_lt, nz_le, nz_eq, nz_cl, nz_in, nz_add, nz_mul, nz_m1, nz_m1', Nat.reduceMul, Nat.reduceSub, Nat.reduceLT, Nat.reduceEqDiff, not_false_eq_true, false_implies, true_implies, true_and, and_true, h_271, t1, t2, e0, z2, c_M_vowBreaks (f := W 4 (W 1 v 0)) hV hv hk t1 (show 14 * W 1 v 0 + 2 + W 2 (W 1 v 0) 0 ≤ sd_ln c by omega) hz.1 (show sd_ln c < 100000 by omega) z3 (fun i => Nat.lt_trans (bf _ i) (by decide))]
  ((repeat' first | (refine And.intro ?_ ?_) | (intro _)) <;> first | omega | exact hq)
/-- the vows that bind p, as bits -/
def sw_vb (W : sw_T) (p : Nat) : Nat := sd_fold (fun v b => if sw_bn W p v then b ||| 2 ^ v else b) (W 0 0 0) 0 0
theorem sw_vb_inv (W : sw_T) (p n : Nat) : sd_fold (fun v b => if sw_bn W p v then b ||| 2 ^ v else b) n 0 0 < 2 ^ n ∧ ∀ v, (sd_fold (fun v b => if sw_bn W p v then b ||| 2 ^ v else b) n 0 0).testBit v = decide (v < n ∧ sw_bn W p v) := by
  induction n with
  | zero => exact ⟨Nat.one_pos, fun v => by simp [sd_fold]⟩
  | succ n ih =>
    rw [sd_fold_succ, Nat.zero_add]
    obtain ⟨ih1, ih2⟩ := ih
    have hlt : (2 : Nat) ^ n < 2 ^ (n + 1) := Nat.pow_lt_pow_right (by decide) (by omega)
    split
    · rename_i hc
      refine ⟨Nat.or_lt_two_pow (Nat.lt_trans ih1 hlt) hlt, fun v => ?_⟩
      rw [Nat.testBit_or, ih2, Nat.testBit_two_pow]
      by_cases hv : v = n
      · subst hv; simp [hc]
      · have : (v < n + 1) ↔ v < n := by omega
        simp [this, Ne.symm hv]
    · rename_i hc
      refine ⟨Nat.lt_trans ih1 hlt, fun v => ?_⟩
      rw [ih2]
      by_cases hv : v = n
      · subst hv; simp [hc]
      · have : (v < n + 1) ↔ v < n := by omega
        simp [this]
theorem sw_vb_tb (W : sw_T) (p v : Nat) : ((sw_vb W p).testBit v = true) ↔ (v < W 0 0 0 ∧ sw_bn W p v) := by
  unfold sw_vb
  rw [(sw_vb_inv W p (W 0 0 0)).2 v, decide_eq_true_iff]
theorem sw_vb_lt (W : sw_T) (p : Nat) (h : W 0 0 0 ≤ 12) : sw_vb W p < 4096 := Nat.lt_of_lt_of_le (sw_vb_inv W p (W 0 0 0)).1 (Nat.pow_le_pow_right (n := 2) (by decide) h)
theorem c_M_vowsOf {p : Nat} (h : sw_RM σ A W) (hp : p < 1000) : sd_Call (sd_E1 L xs fm) (d + 2) y_M_vowsOf [.ref 271, .int (nI p)] σ Q ↔ Q (some (.int (nI (sw_vb W p)))) σ := by
  refine sd_Call.iff (fun Q hq => ?_) Q
  obtain ⟨⟨a1, a2, a3, a4, a5, a6⟩, ⟨b1, b2, b3, b4, b5, b6, b7⟩, hS, hA, hW⟩ := id h
  obtain ⟨⟨t1, t2, w1, w2, w3, w4⟩, w5, w6⟩ := id hS
  have w30 : ∀ v, v < W 0 0 0 → σ.1 285 (70 + 6 * v) = nI (W 1 v 0) := fun v hv => w3 v hv 0 (by decide)
  have bW := hW.2.1
  rw [sd_Call.start (ls := [.ref 271, .int (nI p), sd_un, sd_un]) m_M_vowsOf (by decide) (Nat.le_of_ble_eq_true rfl) rfl]
  simp (disch := first | exact sd_cr | exact sd_ci | exact sd_cu | exact sd_cl9 | assumption | omega) only [z_M_vowsOf_0, z_M_vowsOf_1, z_M_vowsOf_2, z_M_vowsOf_3, false_and, and_false, if_true, if_false, Decidable.not_not, sd_ci, sd_cr, sd_cl9, sd_cu, sd_cat0, sd_cat1, sd_rfS, sd_n01, sd_n11, sd_n1, sd_n10, sd_n00, sd_b01, sd_b0, true_and, and_true, and_self, not_true_eq_false, not_false_eq_true, false_implies, true_implies, implies_true, or_true, true_or, or_false, false_or, Option.toList_some, Option.toList_none, List.cons_append, List.nil_append, Nat.reduceAdd, Nat.reduceLeDiff]
  refine sd_loopF (fun i b => sd_Go (sd_E1 L xs fm) (d + 1) y_M_vowsOf 4 [.ref 271, .int (nI p), .int (nI b), .int (nI i)] [] σ Q) (fun v b => if sw_bn W p v then b ||| 2 ^ v else b) (W 0 0 0) 0 ?_ ?_
  · intro i b hi hh
    rw [z_M_vowsOf_4]
    simp (disch := first | exact sd_cr | exact sd_ci | exact sd_cu | exact sd_cl9 | assumption | omega | (apply nz_m; apply bW) | (apply nz_k; apply bW) | (apply nz_m; apply w4) | (apply nz_k; apply w4) | exact t_285 | exact t_283 | exact t_278 | exact t_281 | exact t_276 | exact t_274 | exact t_275 | exact t_277 | exact t_279 | exact t_280 | exact t_282 | exact t_284 | exact t_286 | exact t_287 | exact t_288 | exact t_289 | exact t_290 | exact t_291 | exact t_292 | exact t_293 | exact t_294 | exact t_295 | exact t_296 | exact t_297 | exact t_298 | exact t_299 | exact t_300) only [z_M_vowsOf_0, z_M_vowsOf_1, z_M_vowsOf_2, z_M_vowsOf_3, z_M_vowsOf_5, z_M_vowsOf_6, z_M_vowsOf_9, z_M_vowsOf_12, z_M_vowsOf_13, z_M_vowsOf_16, z_M_vowsOf_17, z_M_vowsOf_18, z_M_vowsOf_19, z_M_vowsOf_22, z_M_vowsOf_23, z_M_vowsOf_26, z_M_vowsOf_29, z_M_vowsOf_30, z_M_vowsOf_33, z_M_vowsOf_34, z_M_vowsOf_37, z_M_vowsOf_40, z_M_vowsOf_41, z_M_vowsOf_44, z_M_vowsOf_46, z_M_vowsOf_48, z_M_vowsOf_49, z_M_vowsOf_50, z_M_vowsOf_51, z_M_vowsOf_52, z_M_vowsOf_53, z_M_vowsOf_56, z_M_vowsOf_57, z_M_vowsOf_58, z_M_vowsOf_59, z_M_vowsOf_62, z_M_vowsOf_63, z_M_vowsOf_64, z_M_vowsOf_65, z_M_vowsOf_68, z_M_vowsOf_71, z_M_vowsOf_72, false_and, and_false, if_true, if_false, Decidable.not_not, sd_ci, sd_cr, sd_cl9, sd_cu, sd_cat0, sd_cat1, sd_rfS, sd_n01, sd_n11, sd_n1, sd_n10, sd_n00, sd_b01, sd_b0, true_and, and_true, and_self, not_true_eq_false, not_false_eq_true, false_implies, true_implies, implies_true, or_true, true_or, or_false, false_or, Option.toList_some, Option.toList_none, List.cons_append, List.nil_append, Nat.reduceAdd, Nat.reduceLeDiff, nz_sub, nz_lt0, nz_ge0, nz_le0, nz_gt0, nz_eq0, nz_eq1, nz_lt, nz_le, nz_eq, nz_cl, nz_in, nz_add, nz_mul, nz_m1, nz_m1', Nat.reduceMul, Nat.reduceSub, Nat.reduceLT, Nat.reduceEqDiff, not_false_eq_true, false_implies, true_implies, true_and, and_true, h_271, t_272, n_272, t_273, n_273, t_274, n_274, t_275, n_275, t_276, n_276, t_277, n_277, t_278, n_278, t_279, n_279, t_280, n_280, t_281, n_281, t_282, n_282, t_283, n_283, t_284, n_284, t_285, n_285, t_286, n_286, t_287, n_287, t_288, n_288, t_289, n_289, t_290, n_290, t_291, n_291, t_292, n_292, t_293, n_293, t_294, n_294, t_295, n_295, t_296, n_296, t_297, n_297, t_298, n_298, t_299, n_299, t_300, n_300, t_301, n_301, r_271_1, r_271_2, r_271_3, r_271_4, r_271_15, r_271_16, r_271_18, r_271_19, r_271_20, r_271_21, r_271_22, r_271_23, r_271_24, r_271_25, r_271_26, r_271_34, r_271_35, r_271_38, r_271_39, r_271_40, r_271_42, r_271_45, r_271_46, r_271_47, r_271_48, r_271_49, r_271_50, r_271_53, r_271_54, r_271_55, r_271_57, w1, w30, c_M_isForce hS.1, c_M_isPlain hS.1 hi, nz_shl1, nz_bor, Nat.or_zero]
    ((repeat' first | (refine And.intro ?_ ?_) | (intro _)) <;> first | omega | (rw [if_neg (by omega)] at hh; exact hh) | (rw [if_pos (by omega)] at hh; exact hh))
  · rw [z_M_vowsOf_4]
    simp (disch := first | exact sd_cr | exact sd_ci | exact sd_cu | exact sd_cl9 | assumption | omega | (apply nz_m; apply bW) | (apply nz_k; apply bW) | (apply nz_m; apply w4) | (apply nz_k; apply w4) | exact t_285 | exact t_283 | exact t_278 | exact t_281 | exact t_276 | exact t_274 | exact t_275 | exact t_277 | exact t_279 | exact t_280 | exact t_282 | exact t_284 | exact t_286 | exact t_287 | exact t_288 | exact t_289 | exact t_290 | exact t_291 | exact t_292 | exact t_293 | exact t_294 | exact t_295 | exact t_296 | exact t_297 | exact t_298 | exact t_299 | exact t_300) only [z_M_vowsOf_0, z_M_vowsOf_1, z_M_vowsOf_2, z_M_vowsOf_3, z_M_vowsOf_5, z_M_vowsOf_6, z_M_vowsOf_9, z_M_vowsOf_12, z_M_vowsOf_13, z_M_vowsOf_16, z_M_vowsOf_17, z_M_vowsOf_18, z_M_vowsOf_19, z_M_vowsOf_22, z_M_vowsOf_23, z_M_vowsOf_26, z_M_vowsOf_29, z_M_vowsOf_30, z_M_vowsOf_33, z_M_vowsOf_34, z_M_vowsOf_37, z_M_vowsOf_40, z_M_vowsOf_41, z_M_vowsOf_44, z_M_vowsOf_46, z_M_vowsOf_48, z_M_vowsOf_49, z_M_vowsOf_50, z_M_vowsOf_51, z_M_vowsOf_52, z_M_vowsOf_53, z_M_vowsOf_56, z_M_vowsOf_57, z_M_vowsOf_58, z_M_vowsOf_59, z_M_vowsOf_62, z_M_vowsOf_63, z_M_vowsOf_64, z_M_vowsOf_65, z_M_vowsOf_68, z_M_vowsOf_71, z_M_vowsOf_72, false_and, and_false, if_true, if_false, Decidable.not_not, sd_ci, sd_cr, sd_cl9, sd_cu, sd_cat0, sd_cat1, sd_rfS, sd_n01, sd_n11, sd_n1, sd_n10, sd_n00, sd_b01, sd_b0, true_and, and_true, and_self, not_true_eq_false, not_false_eq_true, false_implies, true_implies, implies_true, or_true, true_or, or_false, false_or, Option.toList_some, Option.toList_none, List.cons_append, List.nil_append, Nat.reduceAdd, Nat.reduceLeDiff, nz_sub, nz_lt0, nz_ge0, nz_le0, nz_gt0, nz_eq0, nz_eq1, nz_lt, nz_le, nz_eq, nz_cl, nz_in, nz_add, nz_mul, nz_m1, nz_m1', Nat.reduceMul, Nat.reduceSub, Nat.reduceLT, Nat.reduceEqDiff, not_false_eq_true, false_implies, true_implies, true_and, and_true, h_271, t_272, n_272, t_273, n_273, t_274, n_274, t_275, n_275, t_276, n_276, t_277, n_277, t_278, n_278, t_279, n_279, t_280, n_280, t_281, n_281, t_282, n_282, t_283, n_283, t_284, n_284, t_285, n_285, t_286, n_286, t_287, n_287, t_288, n_288, t_289, n_289, t_290, n_290, t_291, n_291, t_292, n_292, t_293, n_293, t_294, n_294, t_295, n_295, t_296, n_296, t_297, n_297, t_298, n_298, t_299, n_299, t_300, n_300, t_301, n_301, r_271_1, r_271_2, r_271_3, r_271_4, r_271_15, r_271_16, r_271_18, r_271_19, r_271_20, r_271_21, r_271_22, r_271_23, r_271_24, r_271_25, r_271_26, r_271_34, r_271_35, r_271_38, r_271_39, r_271_40, r_271_42, r_271_45, r_271_46, r_271_47, r_271_48, r_271_49, r_271_50, r_271_53, r_271_54, r_271_55, r_271_57, w1]
    exact ⟨fun _ => hq, fun q => by omega⟩
end SD41
