/-! what was promised -/
/-- a row told breaks the vow of this number -/
def sw_rb (A : sw_T) (r w : Nat) : Bool := (sw_pb (A 8 r) (A 7 r 0) (w / 1000) (w / 100 % 10) (w / 10 % 10) (w % 10)).isSome
/-- all seen days of p keep it -/
def sw_ks (A : sw_T) (p w : Nat) : Bool := !sw_any (fun i => decide (A 10 i 0 = p) && sw_rb A (A 11 i 0) w) (A 9 0 0) 0
def sw_ip (w : Nat) : Bool := decide (w / 100 % 10 < 8 ∧ w / 10 % 10 < 8 ∧ w % 10 ≤ 3 ∧ ((w / 1000 = 0 ∧ w / 10 % 10 = 0 ∧ w % 10 = 0) ∨ ((w / 1000 = 1 ∨ w / 1000 = 4) ∧ w / 10 % 10 = 0) ∨ (¬ w / 1000 = 0 ∧ ¬ w / 1000 = 1 ∧ ¬ w / 1000 = 4 ∧ w % 10 = 0 ∧ ¬ w / 100 % 10 = w / 10 % 10)))
theorem sw_gD {l : List Nat} {j : Nat} (h : j < l.length) : l.getD j 0 = l[j] := by
  rw [List.getD_eq_getElem?_getD, List.getElem?_eq_getElem h]; rfl
theorem sw_gA {l : List Nat} {x j : Nat} (h : j < l.length) : (l ++ [x]).getD j 0 = l.getD j 0 := by
  rw [List.getD_eq_getElem?_getD, List.getD_eq_getElem?_getD, List.getElem?_append_left h]
/-- the promises below w -/
def sw_PL (A : sw_T) (p w : Nat) : List Nat := (List.range w).filter (fun x => sw_ip x && sw_ks A p x)
section SD94
variable {A : sw_T} {p : Nat}
theorem sw_PL_s (w : Nat) : sw_PL A p (w + 1) = if sw_ip w && sw_ks A p w then sw_PL A p w ++ [w] else sw_PL A p w := by
  unfold sw_PL
  rw [List.range_succ, List.filter_append]
  cases h : (sw_ip w && sw_ks A p w)
  · rw [List.filter_cons_of_neg (by rw [h]; decide), List.filter_nil, List.append_nil]; rfl
  · rw [List.filter_cons_of_pos (p := fun x => sw_ip x && sw_ks A p x) h, List.filter_nil]; rfl
theorem sw_PL_k {w : Nat} : ∀ n, (∀ x, w ≤ x → x < w + n → sw_ip x = false) → sw_PL A p (w + n) = sw_PL A p w
  | 0, _ => rfl
  | n + 1, h => by
    rw [show w + (n + 1) = w + n + 1 by omega, sw_PL_s, h (w + n) (by omega) (by omega), Bool.false_and]
    exact sw_PL_k n (fun x h1 h2 => h x h1 (by omega))
theorem sw_PL_j {w w' : Nat} (hw : w ≤ w') (h : ∀ x, w ≤ x → x < w' → sw_ip x = false) : sw_PL A p w' = sw_PL A p w := by
  obtain ⟨n, rfl⟩ : ∃ n, w' = w + n := ⟨w' - w, by omega⟩
  exact sw_PL_k n h
theorem sw_ip_240 : ((List.range 6000).filter sw_ip).length = 240 := by decide +kernel
theorem sw_PL_len (w : Nat) : (sw_PL A p w).length ≤ ((List.range w).filter sw_ip).length := by
  unfold sw_PL
  rw [← List.filter_filter]
  rw [List.filter_filter, show (fun x => sw_ip x && sw_ks A p x) = (fun x => sw_ks A p x && sw_ip x) from funext fun x => Bool.and_comm _ _, ← List.filter_filter]
  exact List.length_filter_le _ _
theorem sw_PL_240 {w : Nat} (h : w < 6000) (hi : sw_ip w = true) : (sw_PL A p w).length < 240 := by
  have h1 := sw_PL_len (A := A) (p := p) w
  have h2 : ((List.range (w + 1)).filter sw_ip).length = ((List.range w).filter sw_ip).length + 1 := by
    rw [List.range_succ, List.filter_append, List.filter_cons_of_pos hi, List.filter_nil, List.length_append]; rfl
  have h3 : ((List.range (w + 1)).filter sw_ip).length ≤ ((List.range 6000).filter sw_ip).length :=
    ((List.range_sublist.mpr (by omega)).filter _).length_le
  rw [sw_ip_240] at h3
  omega
theorem sw_PL_le : (sw_PL A p 6000).length ≤ 240 := by
  have := sw_PL_len (A := A) (p := p) 6000
  rw [sw_ip_240] at this
  exact this
theorem sw_PL_mem {w x : Nat} (h : x ∈ sw_PL A p w) : x < w := List.mem_range.mp (List.mem_filter.mp h).1
theorem sw_PL_get {w j : Nat} (h : j < (sw_PL A p w).length) : (sw_PL A p w).getD j 0 < w := by
  rw [sw_gD h]
  exact sw_PL_mem (List.getElem_mem h)
/-- the j-th promise is the one that has j ahead of it -/
theorem sw_PL_at : ∀ W w, w < W → (sw_ip w && sw_ks A p w) = true → (sw_PL A p w).length < (sw_PL A p W).length ∧ (sw_PL A p W).getD (sw_PL A p w).length 0 = w
  | 0, _, h, _ => by omega
  | W + 1, w, h, hp => by
    rw [sw_PL_s]
    by_cases hw : w = W
    · subst hw
      rw [if_pos hp]
      refine ⟨by rw [List.length_append]; exact Nat.lt_succ_self _, ?_⟩
      simp
    · obtain ⟨a, b⟩ := sw_PL_at W w (by omega) hp
      split
      · refine ⟨by rw [List.length_append]; omega, ?_⟩
        rw [sw_gA a]
        exact b
      · exact ⟨a, b⟩
theorem sw_rb_lt (A : sw_T) (r w : Nat) : True := trivial
end SD94
section SD94b
variable {L : Nat} {xs : Nat → Int32} {fm : Option Nat} {A W : sw_T} {σ : sd_Mem} {c d p : Nat} {Q : Option Value → sd_Mem → Prop}
/-- the vow's cells as putVow leaves them -/
def sw_pvw (σ : sd_Mem) (w : Nat) : sd_Mem := sd_wI (sd_wI (sd_wI (sd_wI σ 264 1 (nI (w / 1000))) 264 2 (nI (w / 100 % 10))) 264 3 (nI (w / 10 % 10))) 264 4 (nI (w % 10))
theorem sw_pvw_c {w e : Nat} (h : e ≠ 264) : (sw_pvw σ w).1 e = σ.1 e := by
  unfold sw_pvw
  rw [wI_c h, wI_c h, wI_c h, wI_c h]
theorem c_Told_isBroken {r w : Nat} (hT : sw_XT σ A) (hA : sw_AK A) (hr : r < A 6 0 0) (hw : w < 6000) : sd_Call (sd_E1 L xs fm) (d + 3) y_Told_isBroken [.ref 258, .int (nI r), .int (nI w)] σ Q ↔ Q (some (.int (sd_b (sw_rb A r w = true)))) (sw_pvw σ w) := by
  refine sd_Call.iff (fun Q hq => ?_) Q
  have hz := hA.2.2.2.2.2.2.2.2.1 r hr
  have hf := hA.2.2.2.2.2.2.2.2.2.1
  have r6 := hA.2.2.2.2.2.2.2.1
  have b2 : (sw_pvw σ w).1 260 r = nI (A 7 r 0) := by rw [sw_pvw_c (by decide)]; exact hT.2.1 r hr
  have cp : ∀ Q, sd_Call (sd_E1 L xs fm) (d + 1 + 1) y_X_putVow [.ref 264, .int (nI 0), .int (nI w)] σ Q ↔ Q none (sw_pvw σ w) := fun Q => c_X_putVow (L := L) (xs := xs) (fm := fm) (σ := σ) (d := d + 1) (e := 264) (t := 0) (w := w) (Q := Q) t_264 (by decide) (by decide) (by omega)
  have cb := fun Q => c_X_placeBroken (L := L) (xs := xs) (fm := fm) (σ := sw_pvw σ w) (d := d) (c := 264) (t := 0) (e := 259) (g := r * 12) (m := A 7 r 0) (v := fun j => if j = 1 then w / 1000 else if j = 2 then w / 100 % 10 else if j = 3 then w / 10 % 10 else w % 10) (f := A 8 r) (Q := Q) t_264 (by decide) (by decide) (fun j h1 h2 => by
    have : j = 1 ∨ j = 2 ∨ j = 3 ∨ j = 4 := by omega
    rcases this with rfl | rfl | rfl | rfl <;> rfl) (by show w / 1000 ≤ 5; omega) (fun j => by split; omega; split; omega; split <;> omega) t_259 (by rw [n_259]; omega) (by decide) (fun i hi => by rw [sw_pvw_c (by decide)]; exact hT.2.2.1 r hr i hi) (fun i => Nat.lt_trans (hf r i) (by decide))
  have e1 : sw_pb (A 8 r) (A 7 r 0) ((fun j => if j = 1 then w / 1000 else if j = 2 then w / 100 % 10 else if j = 3 then w / 10 % 10 else w % 10) 1) ((fun j => if j = 1 then w / 1000 else if j = 2 then w / 100 % 10 else if j = 3 then w / 10 % 10 else w % 10) 2) ((fun j => if j = 1 then w / 1000 else if j = 2 then w / 100 % 10 else if j = 3 then w / 10 % 10 else w % 10) 3) ((fun j => if j = 1 then w / 1000 else if j = 2 then w / 100 % 10 else if j = 3 then w / 10 % 10 else w % 10) 4) = sw_pb (A 8 r) (A 7 r 0) (w / 1000) (w / 100 % 10) (w / 10 % 10) (w % 10) := rfl
  rw [e1] at cb
  unfold sw_rb at hq
  cases ho : sw_pb (A 8 r) (A 7 r 0) (w / 1000) (w / 100 % 10) (w / 10 % 10) (w % 10) with
  | none =>
    rw [ho] at cb hq
    rw [sd_bF (by decide)] at hq
    have hm1 : sd_o none = -1 := rfl
    rw [hm1] at cb
    rw [sd_Call.start (ls := [.ref 258, .int (nI r), .int (nI w)]) m_Told_isBroken (by decide) (Nat.le_of_ble_eq_true rfl) rfl]
    simp (disch := first | exact sd_cr | exact sd_ci | exact sd_cu | exact sd_cl9 | assumption | omega | exact t_259 | exact t_260 | exact t_261 | exact t_262 | exact t_263 | exact t_264 | exact t_254 | exact t_255 | exact t_256 | exact t_257 | exact t_266 | exact t_267 | exact t_268 | exact t_269 | exact t_270 | exact t_252 | exact t_240 | exact t_246 | exact t_2 | exact t_4 | exact t_5 | exact t_13 | exact t_14 | exact t_15 | exact t_16 | exact Or.inl t_39 | exact Or.inr t_7) only [z_Told_isBroken_0, z_Told_isBroken_1, z_Told_isBroken_4, z_Told_isBroken_5, z_Told_isBroken_6, z_Told_isBroken_9, z_Told_isBroken_10, z_Told_isBroken_13, z_Told_isBroken_14, z_Told_isBroken_15, z_Told_isBroken_18, z_Told_isBroken_19, z_Told_isBroken_21, z_Told_isBroken_22, z_Told_isBroken_23, z_Told_isBroken_26, z_Told_isBroken_27, z_Told_isBroken_28, z_Told_isBroken_31, z_Told_isBroken_32, z_Told_isBroken_35, z_Told_isBroken_36, z_Told_isBroken_39, z_Told_isBroken_40, false_and, and_false, if_true, if_false, Decidable.not_not, sd_ci, sd_cr, sd_cl9, sd_cu, sd_cat0, sd_cat1, sd_rfS, sd_n01, sd_n11, sd_n1, sd_n10, sd_n00, sd_b01, sd_b0, true_and, and_true, and_self, not_true_eq_false, not_false_eq_true, false_implies, true_implies, implies_true, or_true, true_or, or_false, false_or, Option.toList_some, Option.toList_none, List.cons_append, List.nil_append, Nat.reduceAdd, Nat.reduceLeDiff, nz_sub, nz_lt0, nz_ge0, nz_le0, nz_gt0, nz_eq0, nz_eq1, nz_lt, nz_le, nz_eq, nz_cl, nz_in, nz_add, nz_mul, nz_m1, nz_m1', Nat.reduceMul, Nat.reduceSub, Nat.reduceLT, Nat.reduceEqDiff, not_false_eq_true, false_implies, true_implies, true_and, and_true, h_0, h_1, t_2, n_2, h_3, t_4, n_4, t_5, n_5, h_6, t_7, n_7, t_8, n_8, t_9, n_9, t_10, n_10, t_11, n_11, t_12, n_12, t_13, n_13, t_14, n_14, t_15, n_15, t_16, n_16, h_17, h_18, t_19, n_19, t_20, n_20, t_21, n_21, t_22, n_22, h_28, t_29, n_29, t_30, n_30, t_31, n_31, t_32, n_32, h_38, t_39, n_39, t_240, n_240, t_246, n_246, t_252, n_252, h_253, t_254, n_254, t_255, n_255, t_256, n_256, t_257, n_257, h_258, t_259, n_259, t_260, n_260, t_261, n_261, t_262, n_262, t_263, n_263, t_264, n_264, h_265, t_266, n_266, t_267, n_267, t_268, n_268, t_269, n_269, t_270, n_270, r_0_0, r_0_1, r_0_2, r_0_3, r_0_6, r_0_7, r_0_8, r_0_9, r_0_11, r_0_12, r_0_13, r_0_14, r_0_15, r_1_0, r_3_0, r_3_1, r_3_2, r_6_0, r_6_1, r_6_4, r_6_5, r_6_7, r_7_0, r_7_1, r_7_2, r_7_3, r_7_4, r_17_0, r_17_1, r_18_1, r_18_2, r_18_3, r_18_4, r_18_6, r_28_1, r_28_2, r_28_3, r_28_4, r_28_6, r_38_0, r_253_0, r_253_1, r_253_2, r_253_3, r_258_0, r_258_1, r_258_3, r_258_4, r_258_6, r_258_8, r_265_0, r_265_1, r_265_3, r_265_4, r_265_5, r_0_4, r_0_5, cp, cb, b2]
    ((repeat' first | (refine And.intro ?_ ?_) | (intro _)) <;> first | omega | exact hq)
  | some q =>
    have hql := sw_pb_lt ho
    rw [ho] at cb hq
    rw [sd_bT (show (some q).isSome = true from rfl)] at hq
    rw [sd_oS] at cb
    rw [sd_Call.start (ls := [.ref 258, .int (nI r), .int (nI w)]) m_Told_isBroken (by decide) (Nat.le_of_ble_eq_true rfl) rfl]
    simp (disch := first | exact sd_cr | exact sd_ci | exact sd_cu | exact sd_cl9 | assumption | omega | exact t_259 | exact t_260 | exact t_261 | exact t_262 | exact t_263 | exact t_264 | exact t_254 | exact t_255 | exact t_256 | exact t_257 | exact t_266 | exact t_267 | exact t_268 | exact t_269 | exact t_270 | exact t_252 | exact t_240 | exact t_246 | exact t_2 | exact t_4 | exact t_5 | exact t_13 | exact t_14 | exact t_15 | exact t_16 | exact Or.inl t_39 | exact Or.inr t_7) only [z_Told_isBroken_0, z_Told_isBroken_1, z_Told_isBroken_4, z_Told_isBroken_5, z_Told_isBroken_6, z_Told_isBroken_9, z_Told_isBroken_10, z_Told_isBroken_13, z_Told_isBroken_14, z_Told_isBroken_15, z_Told_isBroken_18, z_Told_isBroken_19, z_Told_isBroken_21, z_Told_isBroken_22, z_Told_isBroken_23, z_Told_isBroken_26, z_Told_isBroken_27, z_Told_isBroken_28, z_Told_isBroken_31, z_Told_isBroken_32, z_Told_isBroken_35, z_Told_isBroken_36, z_Told_isBroken_39, z_Told_isBroken_40, false_and, and_false, if_true, if_false, Decidable.not_not, sd_ci, sd_cr, sd_cl9, sd_cu, sd_cat0, sd_cat1, sd_rfS, sd_n01, sd_n11, sd_n1, sd_n10, sd_n00, sd_b01, sd_b0, true_and, and_true, and_self, not_true_eq_false, not_false_eq_true, false_implies, true_implies, implies_true, or_true, true_or, or_false, false_or, Option.toList_some, Option.toList_none, List.cons_append, List.nil_append, Nat.reduceAdd, Nat.reduceLeDiff, nz_sub, nz_lt0, nz_ge0, nz_le0, nz_gt0, nz_eq0, nz_eq1, nz_lt, nz_le, nz_eq, nz_cl, nz_in, nz_add, nz_mul, nz_m1, nz_m1', Nat.reduceMul, Nat.reduceSub, Nat.reduceLT, Nat.reduceEqDiff, not_false_eq_true, false_implies, true_implies, true_and, and_true, h_0, h_1, t_2, n_2, h_3, t_4, n_4, t_5, n_5, h_6, t_7, n_7, t_8, n_8, t_9, n_9, t_10, n_10, t_11, n_11, t_12, n_12, t_13, n_13, t_14, n_14, t_15, n_15, t_16, n_16, h_17, h_18, t_19, n_19, t_20, n_20, t_21, n_21, t_22, n_22, h_28, t_29, n_29, t_30, n_30, t_31, n_31, t_32, n_32, h_38, t_39, n_39, t_240, n_240, t_246, n_246, t_252, n_252, h_253, t_254, n_254, t_255, n_255, t_256, n_256, t_257, n_257, h_258, t_259, n_259, t_260, n_260, t_261, n_261, t_262, n_262, t_263, n_263, t_264, n_264, h_265, t_266, n_266, t_267, n_267, t_268, n_268, t_269, n_269, t_270, n_270, r_0_0, r_0_1, r_0_2, r_0_3, r_0_6, r_0_7, r_0_8, r_0_9, r_0_11, r_0_12, r_0_13, r_0_14, r_0_15, r_1_0, r_3_0, r_3_1, r_3_2, r_6_0, r_6_1, r_6_4, r_6_5, r_6_7, r_7_0, r_7_1, r_7_2, r_7_3, r_7_4, r_17_0, r_17_1, r_18_1, r_18_2, r_18_3, r_18_4, r_18_6, r_28_1, r_28_2, r_28_3, r_28_4, r_28_6, r_38_0, r_253_0, r_253_1, r_253_2, r_253_3, r_258_0, r_258_1, r_258_3, r_258_4, r_258_6, r_258_8, r_265_0, r_265_1, r_265_3, r_265_4, r_265_5, r_0_4, r_0_5, cp, cb, b2]
    ((repeat' first | (refine And.intro ?_ ?_) | (intro _)) <;> first | omega | exact hq)
/-- what gather may change -/
def sw_fg (σ σ' : sd_Mem) : Prop := (∀ e, e ≠ 258 → e ≠ 263 → e ≠ 264 → σ'.1 e = σ.1 e) ∧ (∀ j, j ≠ 7 → σ'.1 258 j = σ.1 258 j) ∧ σ'.2 = σ.2
theorem sw_fg.rf : sw_fg σ σ := ⟨fun _ _ _ _ => rfl, fun _ _ => rfl, rfl⟩
theorem sw_fg.tr {σ1 σ2 : sd_Mem} (h1 : sw_fg σ σ1) (h2 : sw_fg σ1 σ2) : sw_fg σ σ2 := ⟨fun e a b c => (h2.1 e a b c).trans (h1.1 e a b c), fun j a => (h2.2.1 j a).trans (h1.2.1 j a), h2.2.2.trans h1.2.2⟩
theorem sw_fg.pv {w : Nat} : sw_fg σ (sw_pvw σ w) := ⟨fun e _ _ h => sw_pvw_c h, fun j _ => by rw [sw_pvw_c (by decide)], rfl⟩
theorem sw_fg.XT {σ1 : sd_Mem} (h : sw_fg σ σ1) (hT : sw_XT σ A) : sw_XT σ1 A := hT.fr (h.2.1 2 (by decide)) (h.2.1 5 (by decide)) (by rw [h.1 0 (by decide) (by decide) (by decide)]) (h.1 _ (by decide) (by decide) (by decide)) (h.1 _ (by decide) (by decide) (by decide)) (h.1 _ (by decide) (by decide) (by decide)) (h.1 _ (by decide) (by decide) (by decide))
theorem c_Told_kept {w : Nat} (hT : sw_XT σ A) (hA : sw_AK A) (hp : p < 1000) (hw : w < 6000) : ∃ σ', sw_fg σ σ' ∧ σ'.1 258 = σ.1 258 ∧ σ'.1 263 = σ.1 263 ∧ ∀ (d : Nat) Q, sd_Call (sd_E1 L xs fm) (d + 4) y_Told_isKeptBySeenDays [.ref 258, .int (nI p), .int (nI w)] σ Q ↔ Q (some (.int (sd_b (sw_ks A p w = true)))) σ' := by
  obtain ⟨bA, bP, bE, bw, bj, bh, be, bT, btz, btf, bS, bs2, btp⟩ := id hA
  have key : ∀ n i σ', i + n = A 9 0 0 → sw_fg σ σ' → σ'.1 258 = σ.1 258 → σ'.1 263 = σ.1 263 → ∃ σ2, sw_fg σ σ2 ∧ σ2.1 258 = σ.1 258 ∧ σ2.1 263 = σ.1 263 ∧ ∀ (d : Nat) Q, Q (some (.int (sd_b ((!sw_any (fun i => decide (A 10 i 0 = p) && sw_rb A (A 11 i 0) w) n i) = true)))) σ2 → sd_Go (sd_E1 L xs fm) (d + 3) y_Told_isKeptBySeenDays 2 [.ref 258, .int (nI p), .int (nI w), .int (nI i)] [] σ' Q := by
    intro n
    induction n with
    | zero =>
      intro i σ' hi f1 f2 f3
      refine ⟨σ', f1, f2, f3, fun d Q hq => ?_⟩
      obtain ⟨b1, b2, b3, b4, b5, b6, b7⟩ := f1.XT hT
      have hq : Q (some (.int (nI 1))) σ' := hq
      rw [z_Told_isKeptBySeenDays_2]
      simp (disch := first | exact sd_cr | exact sd_ci | exact sd_cu | exact sd_cl9 | assumption | omega | (apply nz_m; apply bA) | (apply nz_k; apply bA) | exact t_259 | exact t_260 | exact t_261 | exact t_262 | exact t_263 | exact t_264 | exact t_254 | exact t_255 | exact t_256 | exact t_257 | exact t_266 | exact t_267 | exact t_268 | exact t_269 | exact t_270 | exact t_252 | exact t_240 | exact t_246 | exact t_2 | exact t_4 | exact t_5 | exact t_13 | exact t_14 | exact t_15 | exact t_16 | exact Or.inl t_39 | exact Or.inr t_7) only [z_Told_isKeptBySeenDays_0, z_Told_isKeptBySeenDays_1, z_Told_isKeptBySeenDays_3, z_Told_isKeptBySeenDays_4, z_Told_isKeptBySeenDays_7, z_Told_isKeptBySeenDays_10, z_Told_isKeptBySeenDays_11, z_Told_isKeptBySeenDays_14, z_Told_isKeptBySeenDays_15, z_Told_isKeptBySeenDays_16, z_Told_isKeptBySeenDays_17, z_Told_isKeptBySeenDays_20, z_Told_isKeptBySeenDays_21, z_Told_isKeptBySeenDays_22, z_Told_isKeptBySeenDays_25, z_Told_isKeptBySeenDays_26, z_Told_isKeptBySeenDays_27, z_Told_isKeptBySeenDays_28, z_Told_isKeptBySeenDays_31, z_Told_isKeptBySeenDays_34, z_Told_isKeptBySeenDays_35, z_Told_isKeptBySeenDays_36, z_Told_isKeptBySeenDays_39, z_Told_isKeptBySeenDays_42, z_Told_isKeptBySeenDays_43, false_and, and_false, if_true, if_false, Decidable.not_not, sd_ci, sd_cr, sd_cl9, sd_cu, sd_cat0, sd_cat1, sd_rfS, sd_n01, sd_n11, sd_n1, sd_n10, sd_n00, sd_b01, sd_b0, true_and, and_true, and_self, not_true_eq_false, not_false_eq_true, false_implies, true_implies, implies_true, or_true, true_or, or_false, false_or, Option.toList_some, Option.toList_none, List.cons_append, List.nil_append, Nat.reduceAdd, Nat.reduceLeDiff, nz_sub, nz_lt0, nz_ge0, nz_le0, nz_gt0, nz_eq0, nz_eq1, nz_lt, nz_le, nz_eq, nz_cl, nz_in, nz_add, nz_mul, nz_m1, nz_m1', Nat.reduceMul, Nat.reduceSub, Nat.reduceLT, Nat.reduceEqDiff, not_false_eq_true, false_implies, true_implies, true_and, and_true, h_0, h_1, t_2, n_2, h_3, t_4, n_4, t_5, n_5, h_6, t_7, n_7, t_8, n_8, t_9, n_9, t_10, n_10, t_11, n_11, t_12, n_12, t_13, n_13, t_14, n_14, t_15, n_15, t_16, n_16, h_17, h_18, t_19, n_19, t_20, n_20, t_21, n_21, t_22, n_22, h_28, t_29, n_29, t_30, n_30, t_31, n_31, t_32, n_32, h_38, t_39, n_39, t_240, n_240, t_246, n_246, t_252, n_252, h_253, t_254, n_254, t_255, n_255, t_256, n_256, t_257, n_257, h_258, t_259, n_259, t_260, n_260, t_261, n_261, t_262, n_262, t_263, n_263, t_264, n_264, h_265, t_266, n_266, t_267, n_267, t_268, n_268, t_269, n_269, t_270, n_270, r_0_0, r_0_1, r_0_2, r_0_3, r_0_6, r_0_7, r_0_8, r_0_9, r_0_11, r_0_12, r_0_13, r_0_14, r_0_15, r_1_0, r_3_0, r_3_1, r_3_2, r_6_0, r_6_1, r_6_4, r_6_5, r_6_7, r_7_0, r_7_1, r_7_2, r_7_3, r_7_4, r_17_0, r_17_1, r_18_1, r_18_2, r_18_3, r_18_4, r_18_6, r_28_1, r_28_2, r_28_3, r_28_4, r_28_6, r_38_0, r_253_0, r_253_1, r_253_2, r_253_3, r_258_0, r_258_1, r_258_3, r_258_4, r_258_6, r_258_8, r_265_0, r_265_1, r_265_3, r_265_4, r_265_5, r_0_4, r_0_5, b4]
      ((repeat' first | (refine And.intro ?_ ?_) | (intro _)) <;> first | omega | exact hq)
    | succ n ih =>
      intro i σ' hi f1 f2 f3
      obtain ⟨b1, b2, b3, b4, b5, b6, b7⟩ := f1.XT hT
      have c5 := b5 i (by omega)
      have c6 := b6 i (by omega)
      have hs := bs2 i (by omega)
      by_cases hpi : A 10 i 0 = p
      · have cb := fun (d : Nat) Q => c_Told_isBroken (L := L) (xs := xs) (fm := fm) (d := d) (Q := Q) (f1.XT hT) hA hs.2 hw
        by_cases hbr : sw_rb A (A 11 i 0) w = true
        · refine ⟨sw_pvw σ' w, f1.tr sw_fg.pv, by rw [sw_pvw_c (by decide)]; exact f2, by rw [sw_pvw_c (by decide)]; exact f3, fun d Q hq => ?_⟩
          have e : (!sw_any (fun i => decide (A 10 i 0 = p) && sw_rb A (A 11 i 0) w) (n + 1) i) = false := by
            unfold sw_any
            simp [hpi, hbr]
          rw [e, sd_bF (by decide)] at hq
          have cb' := cb d
          rw [z_Told_isKeptBySeenDays_2]
          simp (disch := first | exact sd_cr | exact sd_ci | exact sd_cu | exact sd_cl9 | assumption | omega | (apply nz_m; apply bA) | (apply nz_k; apply bA) | exact t_259 | exact t_260 | exact t_261 | exact t_262 | exact t_263 | exact t_264 | exact t_254 | exact t_255 | exact t_256 | exact t_257 | exact t_266 | exact t_267 | exact t_268 | exact t_269 | exact t_270 | exact t_252 | exact t_240 | exact t_246 | exact t_2 | exact t_4 | exact t_5 | exact t_13 | exact t_14 | exact t_15 | exact t_16 | exact Or.inl t_39 | exact Or.inr t_7) only [z_Told_isKeptBySeenDays_0, z_Told_isKeptBySeenDays_1, z_Told_isKeptBySeenDays_3, z_Told_isKeptBySeenDays_4, z_Told_isKeptBySeenDays_7, z_Told_isKeptBySeenDays_10, z_Told_isKeptBySeenDays_11, z_Told_isKeptBySeenDays_14, z_Told_isKeptBySeenDays_15, z_Told_isKeptBySeenDays_16, z_Told_isKeptBySeenDays_17, z_Told_isKeptBySeenDays_20, z_Told_isKeptBySeenDays_21, z_Told_isKeptBySeenDays_22, z_Told_isKeptBySeenDays_25, z_Told_isKeptBySeenDays_26, z_Told_isKeptBySeenDays_27, z_Told_isKeptBySeenDays_28, z_Told_isKeptBySeenDays_31, z_Told_isKeptBySeenDays_34, z_Told_isKeptBySeenDays_35, z_Told_isKeptBySeenDays_36, z_Told_isKeptBySeenDays_39, z_Told_isKeptBySeenDays_42, z_Told_isKeptBySeenDays_43, false_and, and_false, if_true, if_false, Decidable.not_not, sd_ci, sd_cr, sd_cl9, sd_cu, sd_cat0, sd_cat1, sd_rfS, sd_n01, sd_n11, sd_n1, sd_n10, sd_n00, sd_b01, sd_b0, true_and, and_true, and_self, not_true_eq_false, not_false_eq_true, false_implies, true_implies, implies_true, or_true, true_or, or_false, false_or, Option.toList_some, Option.toList_none, List.cons_append, List.nil_append, Nat.reduceAdd, Nat.reduceLeDiff, nz_sub, nz_lt0, nz_ge0, nz_le0, nz_gt0, nz_eq0, nz_eq1, nz_lt, nz_le, nz_eq, nz_cl, nz_in, nz_add, nz_mul, nz_m1, nz_m1', Nat.reduceMul, Nat.reduceSub, Nat.reduceLT, Nat.reduceEqDiff, not_false_eq_true, false_implies, true_implies, true_and, and_true, h_0, h_1, t_2, n_2, h_3, t_4, n_4, t_5, n_5, h_6, t_7, n_7, t_8, n_8, t_9, n_9, t_10, n_10, t_11, n_11, t_12, n_12, t_13, n_13, t_14, n_14, t_15, n_15, t_16, n_16, h_17, h_18, t_19, n_19, t_20, n_20, t_21, n_21, t_22, n_22, h_28, t_29, n_29, t_30, n_30, t_31, n_31, t_32, n_32, h_38, t_39, n_39, t_240, n_240, t_246, n_246, t_252, n_252, h_253, t_254, n_254, t_255, n_255, t_256, n_256, t_257, n_257, h_258, t_259, n_259, t_260, n_260, t_261, n_261, t_262, n_262, t_263, n_263, t_264, n_264, h_265, t_266, n_266, t_267, n_267, t_268, n_268, t_269, n_269, t_270, n_270, r_0_0, r_0_1, r_0_2, r_0_3, r_0_6, r_0_7, r_0_8, r_0_9, r_0_11, r_0_12, r_0_13, r_0_14, r_0_15, r_1_0, r_3_0, r_3_1, r_3_2, r_6_0, r_6_1, r_6_4, r_6_5, r_6_7, r_7_0, r_7_1, r_7_2, r_7_3, r_7_4, r_17_0, r_17_1, r_18_1, r_18_2, r_18_3, r_18_4, r_18_6, r_28_1, r_28_2, r_28_3, r_28_4, r_28_6, r_38_0, r_253_0, r_253_1, r_253_2, r_253_3, r_258_0, r_258_1, r_258_3, r_258_4, r_258_6, r_258_8, r_265_0, r_265_1, r_265_3, r_265_4, r_265_5, r_0_4, r_0_5, b4, c5, c6, hpi, cb', hbr, Bool.false_eq_true]
          ((repeat' first | (refine And.intro ?_ ?_) | (intro _)) <;> first | omega | exact hq)
        · obtain ⟨σ2, g1, g2, g3, g4⟩ := ih (i + 1) (sw_pvw σ' w) (by omega) (f1.tr sw_fg.pv) (by rw [sw_pvw_c (by decide)]; exact f2) (by rw [sw_pvw_c (by decide)]; exact f3)
          refine ⟨σ2, g1, g2, g3, fun d Q hq => ?_⟩
          have e : sw_any (fun i => decide (A 10 i 0 = p) && sw_rb A (A 11 i 0) w) (n + 1) i = sw_any (fun i => decide (A 10 i 0 = p) && sw_rb A (A 11 i 0) w) n (i + 1) := by
            show ((decide (A 10 i 0 = p) && sw_rb A (A 11 i 0) w) || _) = _
            rw [show (decide (A 10 i 0 = p) && sw_rb A (A 11 i 0) w) = false by simp [hbr], Bool.false_or]
          rw [e] at hq
          have g5 := g4 d Q hq
          have cb' := cb d
          rw [z_Told_isKeptBySeenDays_2]
          simp (disch := first | exact sd_cr | exact sd_ci | exact sd_cu | exact sd_cl9 | assumption | omega | (apply nz_m; apply bA) | (apply nz_k; apply bA) | exact t_259 | exact t_260 | exact t_261 | exact t_262 | exact t_263 | exact t_264 | exact t_254 | exact t_255 | exact t_256 | exact t_257 | exact t_266 | exact t_267 | exact t_268 | exact t_269 | exact t_270 | exact t_252 | exact t_240 | exact t_246 | exact t_2 | exact t_4 | exact t_5 | exact t_13 | exact t_14 | exact t_15 | exact t_16 | exact Or.inl t_39 | exact Or.inr t_7) only [z_Told_isKeptBySeenDays_0, z_Told_isKeptBySeenDays_1, z_Told_isKeptBySeenDays_3, z_Told_isKeptBySeenDays_4, z_Told_isKeptBySeenDays_7, z_Told_isKeptBySeenDays_10, z_Told_isKeptBySeenDays_11, z_Told_isKeptBySeenDays_14, z_Told_isKeptBySeenDays_15, z_Told_isKeptBySeenDays_16, z_Told_isKeptBySeenDays_17, z_Told_isKeptBySeenDays_20, z_Told_isKeptBySeenDays_21, z_Told_isKeptBySeenDays_22, z_Told_isKeptBySeenDays_25, z_Told_isKeptBySeenDays_26, z_Told_isKeptBySeenDays_27, z_Told_isKeptBySeenDays_28, z_Told_isKeptBySeenDays_31, z_Told_isKeptBySeenDays_34, z_Told_isKeptBySeenDays_35, z_Told_isKeptBySeenDays_36, z_Told_isKeptBySeenDays_39, z_Told_isKeptBySeenDays_42, z_Told_isKeptBySeenDays_43, false_and, and_false, if_true, if_false, Decidable.not_not, sd_ci, sd_cr, sd_cl9, sd_cu, sd_cat0, sd_cat1, sd_rfS, sd_n01, sd_n11, sd_n1, sd_n10, sd_n00, sd_b01, sd_b0, true_and, and_true, and_self, not_true_eq_false, not_false_eq_true, false_implies, true_implies, implies_true, or_true, true_or, or_false, false_or, Option.toList_some, Option.toList_none, List.cons_append, List.nil_append, Nat.reduceAdd, Nat.reduceLeDiff, nz_sub, nz_lt0, nz_ge0, nz_le0, nz_gt0, nz_eq0, nz_eq1, nz_lt, nz_le, nz_eq, nz_cl, nz_in, nz_add, nz_mul, nz_m1, nz_m1', Nat.reduceMul, Nat.reduceSub, Nat.reduceLT, Nat.reduceEqDiff, not_false_eq_true, false_implies, true_implies, true_and, and_true, h_0, h_1, t_2, n_2, h_3, t_4, n_4, t_5, n_5, h_6, t_7, n_7, t_8, n_8, t_9, n_9, t_10, n_10, t_11, n_11, t_12, n_12, t_13, n_13, t_14, n_14, t_15, n_15, t_16, n_16, h_17, h_18, t_19, n_19, t_20, n_20, t_21, n_21, t_22, n_22, h_28, t_29, n_29, t_30, n_30, t_31, n_31, t_32, n_32, h_38, t_39, n_39, t_240, n_240, t_246, n_246, t_252, n_252, h_253, t_254, n_254, t_255, n_255, t_256, n_256, t_257, n_257, h_258, t_259, n_259, t_260, n_260, t_261, n_261, t_262, n_262, t_263, n_263, t_264, n_264, h_265, t_266, n_266, t_267, n_267, t_268, n_268, t_269, n_269, t_270, n_270, r_0_0, r_0_1, r_0_2, r_0_3, r_0_6, r_0_7, r_0_8, r_0_9, r_0_11, r_0_12, r_0_13, r_0_14, r_0_15, r_1_0, r_3_0, r_3_1, r_3_2, r_6_0, r_6_1, r_6_4, r_6_5, r_6_7, r_7_0, r_7_1, r_7_2, r_7_3, r_7_4, r_17_0, r_17_1, r_18_1, r_18_2, r_18_3, r_18_4, r_18_6, r_28_1, r_28_2, r_28_3, r_28_4, r_28_6, r_38_0, r_253_0, r_253_1, r_253_2, r_253_3, r_258_0, r_258_1, r_258_3, r_258_4, r_258_6, r_258_8, r_265_0, r_265_1, r_265_3, r_265_4, r_265_5, r_0_4, r_0_5, b4, c5, c6, hpi, cb', hbr, Bool.false_eq_true]
          ((repeat' first | (refine And.intro ?_ ?_) | (intro _)) <;> first | omega | exact g5)
      · obtain ⟨σ2, g1, g2, g3, g4⟩ := ih (i + 1) σ' (by omega) f1 f2 f3
        refine ⟨σ2, g1, g2, g3, fun d Q hq => ?_⟩
        have e : sw_any (fun i => decide (A 10 i 0 = p) && sw_rb A (A 11 i 0) w) (n + 1) i = sw_any (fun i => decide (A 10 i 0 = p) && sw_rb A (A 11 i 0) w) n (i + 1) := by
          show ((decide (A 10 i 0 = p) && sw_rb A (A 11 i 0) w) || _) = _
          rw [show (decide (A 10 i 0 = p) && sw_rb A (A 11 i 0) w) = false by simp [hpi], Bool.false_or]
        rw [e] at hq
        have g5 := g4 d Q hq
        rw [z_Told_isKeptBySeenDays_2]
        simp (disch := first | exact sd_cr | exact sd_ci | exact sd_cu | exact sd_cl9 | assumption | omega | (apply nz_m; apply bA) | (apply nz_k; apply bA) | exact t_259 | exact t_260 | exact t_261 | exact t_262 | exact t_263 | exact t_264 | exact t_254 | exact t_255 | exact t_256 | exact t_257 | exact t_266 | exact t_267 | exact t_268 | exact t_269 | exact t_270 | exact t_252 | exact t_240 | exact t_246 | exact t_2 | exact t_4 | exact t_5 | exact t_13 | exact t_14 | exact t_15 | exact t_16 | exact Or.inl t_39 | exact Or.inr t_7) only [z_Told_isKeptBySeenDays_0, z_Told_isKeptBySeenDays_1, z_Told_isKeptBySeenDays_3, z_Told_isKeptBySeenDays_4, z_Told_isKeptBySeenDays_7, z_Told_isKeptBySeenDays_10, z_Told_isKeptBySeenDays_11, z_Told_isKeptBySeenDays_14, z_Told_isKeptBySeenDays_15, z_Told_isKeptBySeenDays_16, z_Told_isKeptBySeenDays_17, z_Told_isKeptBySeenDays_20, z_Told_isKeptBySeenDays_21, z_Told_isKeptBySeenDays_22, z_Told_isKeptBySeenDays_25, z_Told_isKeptBySeenDays_26, z_Told_isKeptBySeenDays_27, z_Told_isKeptBySeenDays_28, z_Told_isKeptBySeenDays_31, z_Told_isKeptBySeenDays_34, z_Told_isKeptBySeenDays_35, z_Told_isKeptBySeenDays_36, z_Told_isKeptBySeenDays_39, z_Told_isKeptBySeenDays_42, z_Told_isKeptBySeenDays_43, false_and, and_false, if_true, if_false, Decidable.not_not, sd_ci, sd_cr, sd_cl9, sd_cu, sd_cat0, sd_cat1, sd_rfS, sd_n01, sd_n11, sd_n1, sd_n10, sd_n00, sd_b01, sd_b0, true_and, and_true, and_self, not_true_eq_false, not_false_eq_true, false_implies, true_implies, implies_true, or_true, true_or, or_false, false_or, Option.toList_some, Option.toList_none, List.cons_append, List.nil_append, Nat.reduceAdd, Nat.reduceLeDiff, nz_sub, nz_lt0, nz_ge0, nz_le0, nz_gt0, nz_eq0, nz_eq1, nz_lt, nz_le, nz_eq, nz_cl, nz_in, nz_add, nz_mul, nz_m1, nz_m1', Nat.reduceMul, Nat.reduceSub, Nat.reduceLT, Nat.reduceEqDiff, not_false_eq_true, false_implies, true_implies, true_and, and_true, h_0, h_1, t_2, n_2, h_3, t_4, n_4, t_5, n_5, h_6, t_7, n_7, t_8, n_8, t_9, n_9, t_10, n_10, t_11, n_11, t_12, n_12, t_13, n_13, t_14, n_14, t_15, n_15, t_16, n_16, h_17, h_18, t_19, n_19, t_20, n_20, t_21, n_21, t_22, n_22, h_28, t_29, n_29, t_30, n_30, t_31, n_31, t_32, n_32, h_38, t_39, n_39, t_240, n_240, t_246, n_246, t_252, n_252, h_253, t_254, n_254, t_255, n_255, t_256, n_256, t_257, n_257, h_258, t_259, n_259, t_260, n_260, t_261, n_261, t_262, n_262, t_263, n_263, t_264, n_264, h_265, t_266, n_266, t_267, n_267, t_268, n_268, t_269, n_269, t_270, n_270, r_0_0, r_0_1, r_0_2, r_0_3, r_0_6, r_0_7, r_0_8, r_0_9, r_0_11, r_0_12, r_0_13, r_0_14, r_0_15, r_1_0, r_3_0, r_3_1, r_3_2, r_6_0, r_6_1, r_6_4, r_6_5, r_6_7, r_7_0, r_7_1, r_7_2, r_7_3, r_7_4, r_17_0, r_17_1, r_18_1, r_18_2, r_18_3, r_18_4, r_18_6, r_28_1, r_28_2, r_28_3, r_28_4, r_28_6, r_38_0, r_253_0, r_253_1, r_253_2, r_253_3, r_258_0, r_258_1, r_258_3, r_258_4, r_258_6, r_258_8, r_265_0, r_265_1, r_265_3, r_265_4, r_265_5, r_0_4, r_0_5, b4, c5, c6, hpi]
        ((repeat' first | (refine And.intro ?_ ?_) | (intro _)) <;> first | omega | exact g5)
  obtain ⟨σ2, g1, g2, g3, g4⟩ := key (A 9 0 0) 0 σ (by omega) sw_fg.rf rfl rfl
  refine ⟨σ2, g1, g2, g3, fun d Q => sd_Call.iff (fun Q hq => ?_) Q⟩
  rw [sd_Call.start (ls := [.ref 258, .int (nI p), .int (nI w), sd_un]) m_Told_isKeptBySeenDays (by decide) (Nat.le_of_ble_eq_true rfl) rfl]
  simp (disch := first | exact sd_cr | exact sd_ci | exact sd_cu | exact sd_cl9 | assumption | omega | exact t_259 | exact t_260 | exact t_261 | exact t_262 | exact t_263 | exact t_264 | exact t_254 | exact t_255 | exact t_256 | exact t_257 | exact t_266 | exact t_267 | exact t_268 | exact t_269 | exact t_270 | exact t_252 | exact t_240 | exact t_246 | exact t_2 | exact t_4 | exact t_5 | exact t_13 | exact t_14 | exact t_15 | exact t_16 | exact Or.inl t_39 | exact Or.inr t_7) only [z_Told_isKeptBySeenDays_0, z_Told_isKeptBySeenDays_1, false_and, and_false, if_true, if_false, Decidable.not_not, sd_ci, sd_cr, sd_cl9, sd_cu, sd_cat0, sd_cat1, sd_rfS, sd_n01, sd_n11, sd_n1, sd_n10, sd_n00, sd_b01, sd_b0, true_and, and_true, and_self, not_true_eq_false, not_false_eq_true, false_implies, true_implies, implies_true, or_true, true_or, or_false, false_or, Option.toList_some, Option.toList_none, List.cons_append, List.nil_append, Nat.reduceAdd, Nat.reduceLeDiff]
  exact g4 d Q hq
/-- the list that gather has -/
def sw_gl (σ : sd_Mem) (l : List Nat) : Prop := σ.1 258 7 = nI l.length ∧ ∀ j, j < l.length → σ.1 263 j = nI (l.getD j 0)
/-- one number of gather -/
theorem l_Told_one {k a b n w : Nat} (hT : sw_XT σ A) (hA : sw_AK A) (hp : p < 1000) (hw : w = 1000 * k + 100 * a + 10 * b + n) (hw6 : w < 6000) (hb : k < 6 ∧ a < 8 ∧ b < 8 ∧ n < 4) (hi : sw_ip w = true) (hl : sw_gl σ (sw_PL A p w)) : ∃ σ', sw_fg σ σ' ∧ sw_gl σ' (sw_PL A p (w + 1)) ∧ ∀ (d : Nat) Q l4 l5, (∀ l8, sd_Go (sd_E1 L xs fm) (d + 4) y_Told_gatherOf 75 [.ref 258, .int (nI p), .int (nI k), .int (nI a), l4, l5, .int (nI b), .int (nI (n + 1)), l8] [] σ' Q) → l4.category = 1 → l5.category = 1 → ∀ l8, sd_Go (sd_E1 L xs fm) (d + 4) y_Told_gatherOf 90 [.ref 258, .int (nI p), .int (nI k), .int (nI a), l4, l5, .int (nI b), .int (nI n), l8] [] σ Q := by
  subst hw
  obtain ⟨h1, h2⟩ := hl
  have h240 := sw_PL_240 (A := A) (p := p) hw6 hi
  obtain ⟨σ1, g1, g2, g3, g4⟩ := c_Told_kept (L := L) (xs := xs) (fm := fm) hT hA hp hw6
  have e7 : σ1.1 258 7 = nI (sw_PL A p (1000 * k + 100 * a + 10 * b + n)).length := by rw [g2]; exact h1
  rw [sw_PL_s, hi, Bool.true_and]
  by_cases hk : sw_ks A p (1000 * k + 100 * a + 10 * b + n) = true
  · rw [if_pos hk]
    refine ⟨sd_wI (sd_wI σ1 263 (sw_PL A p (1000 * k + 100 * a + 10 * b + n)).length (nI (1000 * k + 100 * a + 10 * b + n))) 258 7 (nI ((sw_PL A p (1000 * k + 100 * a + 10 * b + n)).length + 1)), g1.tr ⟨fun e a b c => by rw [wI_c a, wI_c b], fun j hj => by rw [wI_o hj, wI_c (by decide)], rfl⟩, ⟨by rw [wI_k, List.length_append]; rfl, fun j hj => ?_⟩, fun d Q l4 l5 hq c4 c5 l8 => ?_⟩
    · rw [List.length_append] at hj
      rw [wI_c (by decide), wI_1]
      by_cases hj2 : j = (sw_PL A p (1000 * k + 100 * a + 10 * b + n)).length
      · rw [if_pos ⟨rfl, hj2⟩, hj2]
        simp
      · have hj3 : j < (sw_PL A p (1000 * k + 100 * a + 10 * b + n)).length := by
          have : j < (sw_PL A p (1000 * k + 100 * a + 10 * b + n)).length + 1 := hj
          omega
        rw [if_neg (by omega), sw_gA hj3, g3]
        exact h2 j hj3
    · have g4' := fun Q => g4 d Q
      simp (disch := first | exact sd_cr | exact sd_ci | exact sd_cu | exact sd_cl9 | exact c4 | exact c5 | assumption | omega | exact t_263) only [z_Told_gatherOf_90, z_Told_gatherOf_93, z_Told_gatherOf_94, z_Told_gatherOf_95, z_Told_gatherOf_97, z_Told_gatherOf_98, z_Told_gatherOf_99, z_Told_gatherOf_100, z_Told_gatherOf_102, z_Told_gatherOf_104, z_Told_gatherOf_105, z_Told_gatherOf_106, z_Told_gatherOf_108, z_Told_gatherOf_109, z_Told_gatherOf_111, z_Told_gatherOf_112, z_Told_gatherOf_113, z_Told_gatherOf_115, z_Told_gatherOf_118, z_Told_gatherOf_121, z_Told_gatherOf_122, z_Told_gatherOf_125, z_Told_gatherOf_128, z_Told_gatherOf_131, z_Told_gatherOf_132, z_Told_gatherOf_135, z_Told_gatherOf_136, z_Told_gatherOf_139, z_Told_gatherOf_141, z_Told_gatherOf_142, z_Told_gatherOf_143, z_Told_gatherOf_144, z_Told_gatherOf_147, z_Told_gatherOf_148, z_Told_gatherOf_149, z_Told_gatherOf_152, z_Told_gatherOf_155, false_and, and_false, if_true, if_false, Decidable.not_not, sd_ci, sd_cr, sd_cl9, sd_cu, sd_cat0, sd_cat1, sd_rfS, sd_n01, sd_n11, sd_n1, sd_n10, sd_n00, sd_b01, sd_b0, true_and, and_true, and_self, not_true_eq_false, not_false_eq_true, false_implies, true_implies, implies_true, or_true, true_or, or_false, false_or, Option.toList_some, Option.toList_none, List.cons_append, List.nil_append, Nat.reduceAdd, Nat.reduceLeDiff, nz_sub, nz_lt0, nz_ge0, nz_le0, nz_gt0, nz_eq0, nz_eq1, nz_lt, nz_le, nz_eq, nz_cl, nz_in, nz_add, nz_mul, nz_m1, nz_m1', Nat.reduceMul, Nat.reduceSub, Nat.reduceLT, Nat.reduceEqDiff, not_false_eq_true, false_implies, true_implies, true_and, and_true, h_0, h_1, t_2, n_2, h_3, t_4, n_4, t_5, n_5, h_6, t_7, n_7, t_8, n_8, t_9, n_9, t_10, n_10, t_11, n_11, t_12, n_12, t_13, n_13, t_14, n_14, t_15, n_15, t_16, n_16, h_17, h_18, t_19, n_19, t_20, n_20, t_21, n_21, t_22, n_22, h_28, t_29, n_29, t_30, n_30, t_31, n_31, t_32, n_32, h_38, t_39, n_39, t_240, n_240, t_246, n_246, t_252, n_252, h_253, t_254, n_254, t_255, n_255, t_256, n_256, t_257, n_257, h_258, t_259, n_259, t_260, n_260, t_261, n_261, t_262, n_262, t_263, n_263, t_264, n_264, h_265, t_266, n_266, t_267, n_267, t_268, n_268, t_269, n_269, t_270, n_270, r_0_0, r_0_1, r_0_2, r_0_3, r_0_6, r_0_7, r_0_8, r_0_9, r_0_11, r_0_12, r_0_13, r_0_14, r_0_15, r_1_0, r_3_0, r_3_1, r_3_2, r_6_0, r_6_1, r_6_4, r_6_5, r_6_7, r_7_0, r_7_1, r_7_2, r_7_3, r_7_4, r_17_0, r_17_1, r_18_1, r_18_2, r_18_3, r_18_4, r_18_6, r_28_1, r_28_2, r_28_3, r_28_4, r_28_6, r_38_0, r_253_0, r_253_1, r_253_2, r_253_3, r_258_0, r_258_1, r_258_3, r_258_4, r_258_6, r_258_8, r_265_0, r_265_1, r_265_3, r_265_4, r_265_5, r_0_4, r_0_5, g4', hk, e7, wI_c]
      ((repeat' first | (refine And.intro ?_ ?_) | (intro _)) <;> first | omega | exact hq _)
  · rw [if_neg hk]
    refine ⟨σ1, g1, ⟨e7, fun j hj => by rw [g3]; exact h2 j hj⟩, fun d Q l4 l5 hq c4 c5 l8 => ?_⟩
    have g4' := fun Q => g4 d Q
    simp (disch := first | exact sd_cr | exact sd_ci | exact sd_cu | exact sd_cl9 | exact c4 | exact c5 | assumption | omega | exact t_263) only [z_Told_gatherOf_90, z_Told_gatherOf_93, z_Told_gatherOf_94, z_Told_gatherOf_95, z_Told_gatherOf_97, z_Told_gatherOf_98, z_Told_gatherOf_99, z_Told_gatherOf_100, z_Told_gatherOf_102, z_Told_gatherOf_104, z_Told_gatherOf_105, z_Told_gatherOf_106, z_Told_gatherOf_108, z_Told_gatherOf_109, z_Told_gatherOf_111, z_Told_gatherOf_112, z_Told_gatherOf_113, z_Told_gatherOf_115, z_Told_gatherOf_118, z_Told_gatherOf_121, z_Told_gatherOf_122, z_Told_gatherOf_125, z_Told_gatherOf_128, z_Told_gatherOf_131, z_Told_gatherOf_132, z_Told_gatherOf_135, z_Told_gatherOf_136, z_Told_gatherOf_139, z_Told_gatherOf_141, z_Told_gatherOf_142, z_Told_gatherOf_143, z_Told_gatherOf_144, z_Told_gatherOf_147, z_Told_gatherOf_148, z_Told_gatherOf_149, z_Told_gatherOf_152, z_Told_gatherOf_155, false_and, and_false, if_true, if_false, Decidable.not_not, sd_ci, sd_cr, sd_cl9, sd_cu, sd_cat0, sd_cat1, sd_rfS, sd_n01, sd_n11, sd_n1, sd_n10, sd_n00, sd_b01, sd_b0, true_and, and_true, and_self, not_true_eq_false, not_false_eq_true, false_implies, true_implies, implies_true, or_true, true_or, or_false, false_or, Option.toList_some, Option.toList_none, List.cons_append, List.nil_append, Nat.reduceAdd, Nat.reduceLeDiff, nz_sub, nz_lt0, nz_ge0, nz_le0, nz_gt0, nz_eq0, nz_eq1, nz_lt, nz_le, nz_eq, nz_cl, nz_in, nz_add, nz_mul, nz_m1, nz_m1', Nat.reduceMul, Nat.reduceSub, Nat.reduceLT, Nat.reduceEqDiff, not_false_eq_true, false_implies, true_implies, true_and, and_true, h_0, h_1, t_2, n_2, h_3, t_4, n_4, t_5, n_5, h_6, t_7, n_7, t_8, n_8, t_9, n_9, t_10, n_10, t_11, n_11, t_12, n_12, t_13, n_13, t_14, n_14, t_15, n_15, t_16, n_16, h_17, h_18, t_19, n_19, t_20, n_20, t_21, n_21, t_22, n_22, h_28, t_29, n_29, t_30, n_30, t_31, n_31, t_32, n_32, h_38, t_39, n_39, t_240, n_240, t_246, n_246, t_252, n_252, h_253, t_254, n_254, t_255, n_255, t_256, n_256, t_257, n_257, h_258, t_259, n_259, t_260, n_260, t_261, n_261, t_262, n_262, t_263, n_263, t_264, n_264, h_265, t_266, n_266, t_267, n_267, t_268, n_268, t_269, n_269, t_270, n_270, r_0_0, r_0_1, r_0_2, r_0_3, r_0_6, r_0_7, r_0_8, r_0_9, r_0_11, r_0_12, r_0_13, r_0_14, r_0_15, r_1_0, r_3_0, r_3_1, r_3_2, r_6_0, r_6_1, r_6_4, r_6_5, r_6_7, r_7_0, r_7_1, r_7_2, r_7_3, r_7_4, r_17_0, r_17_1, r_18_1, r_18_2, r_18_3, r_18_4, r_18_6, r_28_1, r_28_2, r_28_3, r_28_4, r_28_6, r_38_0, r_253_0, r_253_1, r_253_2, r_253_3, r_258_0, r_258_1, r_258_3, r_258_4, r_258_6, r_258_8, r_265_0, r_265_1, r_265_3, r_265_4, r_265_5, r_0_4, r_0_5, g4', hk, Bool.false_eq_true]
    ((repeat' first | (refine And.intro ?_ ?_) | (intro _)) <;> first | omega | exact hq _)
end SD94b
