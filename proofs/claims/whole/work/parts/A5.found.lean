/-! how many rows, the i-th -/
def sw_ct (P : Nat → Bool) : Nat → Nat
  | 0 => 0
  | n + 1 => if P n = true then sw_ct P n + 1 else sw_ct P n
theorem sw_ct_le {P : Nat → Bool} : ∀ n, sw_ct P n ≤ n
  | 0 => Nat.le_refl _
  | n + 1 => by
    have := sw_ct_le (P := P) n
    unfold sw_ct
    split <;> omega
theorem sw_ct_m {P : Nat → Bool} {x : Nat} : ∀ n, sw_ct P x ≤ sw_ct P (x + n)
  | 0 => Nat.le_refl _
  | n + 1 => by
    have := sw_ct_m (P := P) (x := x) n
    show sw_ct P x ≤ if P (x + n) = true then sw_ct P (x + n) + 1 else sw_ct P (x + n)
    split <;> omega
theorem sw_ct_lt {P : Nat → Bool} {x y : Nat} (hx : P x = true) (h : x < y) : sw_ct P x < sw_ct P y := by
  have := sw_ct_m (P := P) (x := x + 1) (y - (x + 1))
  rw [show x + 1 + (y - (x + 1)) = y by omega] at this
  have e : sw_ct P (x + 1) = sw_ct P x + 1 := if_pos hx
  omega
/-- the i-th below n -/
def sw_ith (P : Nat → Bool) (n i : Nat) : Option Nat := sd_fst (fun x => P x = true ∧ sw_ct P x = i) n 0
theorem sw_ith_y {P : Nat → Bool} {n i x : Nat} (hx : x < n) (hp : P x = true) (hc : sw_ct P x = i) : sw_ith P n i = some x :=
  sd_fst_eq (Nat.zero_le _) (by omega) ⟨hp, hc⟩ (fun k _ hk q => by have := sw_ct_lt q.1 hk; omega)
theorem sw_ith_n {P : Nat → Bool} {n i : Nat} (h : sw_ct P n ≤ i) : sw_ith P n i = none :=
  (sd_fst_none n 0).mpr (fun k _ hk q => by have := sw_ct_lt (y := n) q.1 (by omega); omega)
/-- what is answered: how many, or the i-th -/
def sw_fa (P : Nat → Bool) (l : Nat) (y : Int32) : Int32 := if y = -1 then nI (sw_ct P (8 ^ l)) else sd_o ((sw_ith P (8 ^ l) y.toNatClampNeg).map (sw_dc l))
def sw_fi (P : Nat → Bool) (l h : Nat) (w : Int32) (n : Nat) (s : Nat → Int32) : Prop := s 7 = nI h ∧ s 8 = w ∧ s 9 = nI 0 ∧ ((s 10 = nI 0 ∧ s 12 = nI (sw_ct P n) ∧ s 13 = -1 ∧ ∀ i, i < 2147483648 → w = nI i → sw_ct P n ≤ i) ∨ (s 10 = nI 1 ∧ ∃ i x, i < 2147483648 ∧ w = nI i ∧ x < n ∧ P x = true ∧ sw_ct P x = i ∧ s 13 = nI (sw_dc l x)))
theorem sw_run_fi {br : Nat → Nat → Nat → Nat} {wo : Nat → Int32} {H : Nat → Nat} {P : Nat → Bool} {l h : Nat} {w : Int32} (hh : h < 1000) (hH : ∀ d, H d ≤ 9) (hl : l ≤ 5) (hP : ∀ x, P x = true ↔ (sw_st br l x = 0 ∧ h ≤ sw_hm H l x)) {s : Nat → Int32} (hs : sw_fi P l h w 0 s) : ∀ n, n ≤ 100000 → sw_fi P l h w n (sd_fold (sw_g br sw_hp (sw_ar wo H l) sw_en l) n 0 s)
  | 0, _ => hs
  | n + 1, hn => by
    have ih := sw_run_fi hh hH hl hP (wo := wo) hs n (by omega)
    rw [sd_fold_succ, Nat.zero_add]
    generalize sd_fold (sw_g br sw_hp (sw_ar wo H l) sw_en l) n 0 s = s at ih
    obtain ⟨h7, h8, h9, ih⟩ := ih
    have hml := sw_hm_le hH l n
    have hcn := sw_ct_le (P := P) n
    unfold sw_g
    rcases ih with ⟨h10, h12, h13, hi⟩ | ⟨h10, i, x, hi, hw, hx, hp, hc, h13⟩
    · have he : sw_en s = false := by unfold sw_en; rw [h10]; decide
      have hhp : sw_hp s (sw_st br l n) = decide (¬ sw_st br l n = 0) := by unfold sw_hp; rw [h9]; exact if_pos (by decide)
      rw [he, if_neg (by decide), hhp]
      have hsame : P n = false → sw_fi P l h w (n + 1) s := fun hp => by
        have e : sw_ct P (n + 1) = sw_ct P n := if_neg (by rw [hp]; decide)
        exact ⟨h7, h8, h9, Or.inl ⟨h10, by rw [e]; exact h12, h13, by rw [e]; exact hi⟩⟩
      have hpf : ¬ (sw_st br l n = 0 ∧ h ≤ sw_hm H l n) → P n = false := fun q => by
        rw [← hP n, Bool.not_eq_true] at q; exact q
      by_cases h0 : sw_st br l n = 0
      · rw [if_neg (by rw [decide_eq_true_eq]; exact fun q => q h0)]
        unfold sw_ar
        rw [h9, if_neg (by decide), h7]
        have hle := nz_le (a := h) (b := sw_hm H l n) (by omega) (by omega)
        by_cases hhm : h ≤ sw_hm H l n
        · rw [if_neg (fun q => q (hle.mpr hhm))]
          have hp : P n = true := (hP n).mpr ⟨h0, hhm⟩
          have e : sw_ct P (n + 1) = sw_ct P n + 1 := if_pos hp
          have g : sw_fi P l h w (n + 1) (sw_ar1 (nI (sw_dc l n)) s) := by
            unfold sw_ar1
            by_cases hcw : s 12 = s 8
            · rw [if_pos hcw]
              refine ⟨h7, h8, h9, Or.inr ⟨rfl, sw_ct P n, n, by omega, ?_, by omega, hp, rfl, rfl⟩⟩
              rw [← h8, ← hcw]; exact h12
            · rw [if_neg hcw]
              refine ⟨h7, h8, h9, Or.inl ⟨h10, ?_, h13, fun i hi2 hwi => ?_⟩⟩
              · show s 12 + nI 1 = _
                rw [h12, nz_add, e]
              · have := hi i hi2 hwi
                rw [e]
                refine Nat.lt_of_le_of_ne this (fun q => hcw ?_)
                rw [h12, h8, hwi, q]
          unfold sw_ar2
          split
          · exact g
          · exact g
        · rw [if_pos (fun q => hhm (hle.mp q))]
          exact hsame (hpf (fun q => hhm q.2))
      · rw [if_pos (by rw [decide_eq_true_eq]; exact h0)]
        exact hsame (hpf (fun q => h0 q.1))
    · have he : sw_en s = true := by unfold sw_en; rw [h10]; decide
      rw [he, if_pos rfl]
      exact ⟨h7, h8, h9, Or.inr ⟨h10, i, x, hi, hw, by omega, hp, hc, h13⟩⟩
/-- the class's answer -/
theorem sw_fi_ans {P : Nat → Bool} {l h : Nat} {w : Int32} {s : Nat → Int32} (hw : ¬ w < -1) (hs : sw_fi P l h w (8 ^ l) s) : (if w = -1 then s 12 else s 13) = sw_fa P l w := by
  unfold sw_fa
  obtain ⟨h7, h8, h9, hs⟩ := hs
  rcases nz_or3 w with h1 | rfl | ⟨i, hi, rfl⟩
  · exact absurd h1 hw
  · rw [if_pos rfl, if_pos rfl]
    rcases hs with ⟨_, h12, _, _⟩ | ⟨_, i, x, hi, hw2, _⟩
    · exact h12
    · exact absurd hw2 (fun q => (nz_m1' hi).mp q)
  · rw [if_neg (fun q => (nz_m1 hi).mp q), if_neg (fun q => (nz_m1 hi).mp q), nz_cl hi]
    rcases hs with ⟨_, h12, h13, h4⟩ | ⟨_, i2, x, hi2, hw2, hx, hp, hc, h13⟩
    · rw [sw_ith_n (h4 i hi rfl), h13]; rfl
    · rw [(nz_eq hi hi2).mp hw2, sw_ith_y hx hp hc, h13]; rfl
/-! the reference's rows -/
theorem nz_and7 {S : Nat} : nI S &&& nI 7 = nI (S % 8) := by
  rw [nz_band, show 7 = 2 ^ 3 - 1 from rfl, Nat.and_two_pow_sub_one_eq_mod]
theorem sw_p8 (j : Nat) : 2 ^ (3 * j) = 8 ^ j := by rw [Nat.pow_mul]
theorem sw_8l {l : Nat} (h : l ≤ 5) : 8 ^ l ≤ 32768 := Nat.le_trans (Nat.pow_le_pow_right (by decide) h) (by decide)
def sw_tr (f : Nat → Int32) (l x : Nat) : Nat → Int32 := fun k => if k < l then nI (sw_dg l x k) else f k
def sw_ka (W : sw_T) (b l x : Nat) : Bool := !sw_any (fun v => b.testBit v && !sw_kv W l x v) (W 0 0 0) 0
section SDA5
variable {L : Nat} {xs : Nat → Int32} {fm : Option Nat} {A W : sw_T} {σ : sd_Mem} {d l x : Nat} {Q : Option Value → sd_Mem → Prop}
theorem c_M_size (hl : l ≤ 5) : sd_Call (sd_E1 L xs fm) (d + 1) y_M_size [.int (nI l)] σ Q ↔ Q (some (.int (nI (8 ^ l)))) σ := by
  refine sd_Call.iff (fun Q hq => ?_) Q
  rw [sd_Call.start (ls := [.int (nI l)]) m_M_size (by decide) (Nat.le_of_ble_eq_true rfl) rfl]
  simp (disch := first | exact sd_cr | exact sd_ci | exact sd_cu | exact sd_cl9 | assumption | omega) only [z_M_size_0, z_M_size_1, z_M_size_2, z_M_size_3, z_M_size_4, z_M_size_5, false_and, and_false, if_true, if_false, Decidable.not_not, sd_ci, sd_cr, sd_cl9, sd_cu, sd_cat0, sd_cat1, sd_rfS, sd_n01, sd_n11, sd_n1, sd_n10, sd_n00, sd_b01, sd_b0, true_and, and_true, and_self, not_true_eq_false, not_false_eq_true, false_implies, true_implies, implies_true, or_true, true_or, or_false, false_or, Option.toList_some, Option.toList_none, List.cons_append, List.nil_append, Nat.reduceAdd, Nat.reduceLeDiff, nz_mul, nz_shl1, sw_p8]
  exact hq
theorem c_M_lay {f : Nat → Int32} (hl : l ≤ 5) (hx : x < 8 ^ l) : sd_Call (sd_E1 L xs fm) (d + 1) y_M_lay [.ref 271, .int (nI x), .int (nI l)] (sd_wA σ 293 f) Q ↔ Q none (sd_wA σ 293 (sw_tr f l x)) := by
  refine sd_Call.iff (fun Q hq => ?_) Q
  have h8 := sw_8l hl
  rw [sd_Call.start (ls := [.ref 271, .int (nI x), .int (nI l), sd_un]) m_M_lay (by decide) (Nat.le_of_ble_eq_true rfl) rfl]
  simp (disch := first | exact sd_cr | exact sd_ci | exact sd_cu | exact sd_cl9 | assumption | omega) only [z_M_lay_0, z_M_lay_1, false_and, and_false, if_true, if_false, Decidable.not_not, sd_ci, sd_cr, sd_cl9, sd_cu, sd_cat0, sd_cat1, sd_rfS, sd_n01, sd_n11, sd_n1, sd_n10, sd_n00, sd_b01, sd_b0, true_and, and_true, and_self, not_true_eq_false, not_false_eq_true, false_implies, true_implies, implies_true, or_true, true_or, or_false, false_or, Option.toList_some, Option.toList_none, List.cons_append, List.nil_append, Nat.reduceAdd, Nat.reduceLeDiff]
  refine sd_loopF (fun i f => sd_Go (sd_E1 L xs fm) d y_M_lay 2 [.ref 271, .int (nI x), .int (nI l), .int (nI i)] [] (sd_wA σ 293 f) Q) (fun i f => fun j => if j = 0 + i then nI (sw_dg l x i) else f j) l f ?_ ?_
  · intro i f hi hh
    rw [z_M_lay_2]
    simp only [Nat.zero_add] at hh
    unfold sw_dg at hh
    simp (disch := first | exact sd_cr | exact sd_ci | exact sd_cu | exact sd_cl9 | assumption | omega | exact t_285 | exact t_283 | exact t_278 | exact t_281 | exact t_276 | exact t_274 | exact t_275 | exact t_277 | exact t_279 | exact t_280 | exact t_282 | exact t_284 | exact t_286 | exact t_287 | exact t_288 | exact t_289 | exact t_290 | exact t_291 | exact t_292 | exact t_293 | exact t_294 | exact t_295 | exact t_296 | exact t_297 | exact t_298 | exact t_299 | exact t_300) only [z_M_lay_3, z_M_lay_4, z_M_lay_7, z_M_lay_8, z_M_lay_11, z_M_lay_12, z_M_lay_13, z_M_lay_14, z_M_lay_15, z_M_lay_16, z_M_lay_17, z_M_lay_18, z_M_lay_19, z_M_lay_20, z_M_lay_21, z_M_lay_23, z_M_lay_24, z_M_lay_25, z_M_lay_28, false_and, and_false, if_true, if_false, Decidable.not_not, sd_ci, sd_cr, sd_cl9, sd_cu, sd_cat0, sd_cat1, sd_rfS, sd_n01, sd_n11, sd_n1, sd_n10, sd_n00, sd_b01, sd_b0, true_and, and_true, and_self, not_true_eq_false, not_false_eq_true, false_implies, true_implies, implies_true, or_true, true_or, or_false, false_or, Option.toList_some, Option.toList_none, List.cons_append, List.nil_append, Nat.reduceAdd, Nat.reduceLeDiff, nz_sub, nz_mul, nz_add, nz_le, nz_lt, nz_cl, nz_in, nz_shr, nz_and7, sw_p8, h_271, t_272, n_272, t_273, n_273, t_274, n_274, t_275, n_275, t_276, n_276, t_277, n_277, t_278, n_278, t_279, n_279, t_280, n_280, t_281, n_281, t_282, n_282, t_283, n_283, t_284, n_284, t_285, n_285, t_286, n_286, t_287, n_287, t_288, n_288, t_289, n_289, t_290, n_290, t_291, n_291, t_292, n_292, t_293, n_293, t_294, n_294, t_295, n_295, t_296, n_296, t_297, n_297, t_298, n_298, t_299, n_299, t_300, n_300, t_301, n_301, r_271_1, r_271_2, r_271_3, r_271_4, r_271_15, r_271_16, r_271_18, r_271_19, r_271_20, r_271_21, r_271_22, r_271_23, r_271_24, r_271_25, r_271_26, r_271_34, r_271_35, r_271_38, r_271_39, r_271_40, r_271_42, r_271_45, r_271_46, r_271_47, r_271_48, r_271_49, r_271_50, r_271_53, r_271_54, r_271_55, r_271_57, wA_wI]
    ((repeat' first | (refine And.intro ?_ ?_) | (intro _)) <;> first | omega | exact hh)
  · rw [z_M_lay_2]
    have e : (sd_fold (fun i f => fun j => if j = 0 + i then nI (sw_dg l x i) else f j) l 0 f) = sw_tr f l x := funext fun j => by
      rw [sw_fill (h := fun i => nI (sw_dg l x i))]
      unfold sw_tr
      by_cases hj : j < l
      · rw [if_pos (by omega), if_pos hj, Nat.sub_zero]
      · rw [if_neg (by omega), if_neg hj]
    rw [e]
    simp (disch := first | exact sd_cr | exact sd_ci | exact sd_cu | exact sd_cl9 | assumption | omega | exact t_285 | exact t_283 | exact t_278 | exact t_281 | exact t_276 | exact t_274 | exact t_275 | exact t_277 | exact t_279 | exact t_280 | exact t_282 | exact t_284 | exact t_286 | exact t_287 | exact t_288 | exact t_289 | exact t_290 | exact t_291 | exact t_292 | exact t_293 | exact t_294 | exact t_295 | exact t_296 | exact t_297 | exact t_298 | exact t_299 | exact t_300) only [z_M_lay_3, z_M_lay_4, z_M_lay_7, z_M_lay_31, false_and, and_false, if_true, if_false, Decidable.not_not, sd_ci, sd_cr, sd_cl9, sd_cu, sd_cat0, sd_cat1, sd_rfS, sd_n01, sd_n11, sd_n1, sd_n10, sd_n00, sd_b01, sd_b0, true_and, and_true, and_self, not_true_eq_false, not_false_eq_true, false_implies, true_implies, implies_true, or_true, true_or, or_false, false_or, Option.toList_some, Option.toList_none, List.cons_append, List.nil_append, Nat.reduceAdd, Nat.reduceLeDiff, nz_sub, nz_lt0, nz_ge0, nz_le0, nz_gt0, nz_eq0, nz_eq1, nz_lt, nz_le, nz_eq, nz_cl, nz_in, nz_add, nz_mul, nz_m1, nz_m1', Nat.reduceMul, Nat.reduceSub, Nat.reduceLT, Nat.reduceEqDiff, not_false_eq_true, false_implies, true_implies, true_and, and_true]
    ((repeat' first | (refine And.intro ?_ ?_) | (intro _)) <;> first | omega | exact hq)
theorem sw_dg_k {k : Nat} (hk : k < l) : x / 8 ^ (l - (k + 1)) / 8 = x / 8 ^ (l - k) ∧ x / 8 ^ (l - (k + 1)) % 8 = sw_dg l x k := by
  refine ⟨?_, ?_⟩
  · rw [Nat.div_div_eq_div_mul, ← Nat.pow_succ, show (l - (k + 1)).succ = l - k by omega]
  · unfold sw_dg
    rw [show l - (k + 1) = l - 1 - k by omega]
theorem c_M_digits (hl : l ≤ 5) (h3 : ∀ k, k < l → σ.1 293 k = nI (sw_dg l x k)) : sd_Call (sd_E1 L xs fm) (d + 1) y_M_digits [.ref 271, .int (nI l)] σ Q ↔ Q (some (.int (nI (sw_dc l x)))) σ := by
  refine sd_Call.iff (fun Q hq => ?_) Q
  rw [sd_Call.start (ls := [.ref 271, .int (nI l), sd_un, sd_un]) m_M_digits (by decide) (Nat.le_of_ble_eq_true rfl) rfl]
  simp (disch := first | exact sd_cr | exact sd_ci | exact sd_cu | exact sd_cl9 | assumption | omega) only [z_M_digits_0, z_M_digits_1, z_M_digits_2, z_M_digits_3, false_and, and_false, if_true, if_false, Decidable.not_not, sd_ci, sd_cr, sd_cl9, sd_cu, sd_cat0, sd_cat1, sd_rfS, sd_n01, sd_n11, sd_n1, sd_n10, sd_n00, sd_b01, sd_b0, true_and, and_true, and_self, not_true_eq_false, not_false_eq_true, false_implies, true_implies, implies_true, or_true, true_or, or_false, false_or, Option.toList_some, Option.toList_none, List.cons_append, List.nil_append, Nat.reduceAdd, Nat.reduceLeDiff]
  obtain ⟨σ2, hσ, g3⟩ := sd_loopM (β := Unit) (fun i σ' => σ' = σ) (fun q i σ' => sd_Go (sd_E1 L xs fm) d y_M_digits 4 [.ref 271, .int (nI l), .int (nI (sw_dc i (x / 8 ^ (l - i)))), .int (nI i)] [] σ' Q) l (by
    intro i σ' hi hσ
    subst hσ
    refine ⟨σ', rfl, fun _ hq => ?_⟩
    have e3 := h3 i hi
    have hd := sw_dg_lt l x i
    have hc := sw_dc_5 (m := i) (N := x / 8 ^ (l - i)) (by omega)
    have es : sw_dc (i + 1) (x / 8 ^ (l - (i + 1))) = 10 * sw_dc i (x / 8 ^ (l - i)) + sw_dg l x i := by
      show 10 * sw_dc i (x / 8 ^ (l - (i + 1)) / 8) + x / 8 ^ (l - (i + 1)) % 8 = _
      rw [(sw_dg_k hi).1, (sw_dg_k hi).2]
    rw [es] at hq
    rw [z_M_digits_4]
    simp (disch := first | exact sd_cr | exact sd_ci | exact sd_cu | exact sd_cl9 | assumption | omega | exact t_285 | exact t_283 | exact t_278 | exact t_281 | exact t_276 | exact t_274 | exact t_275 | exact t_277 | exact t_279 | exact t_280 | exact t_282 | exact t_284 | exact t_286 | exact t_287 | exact t_288 | exact t_289 | exact t_290 | exact t_291 | exact t_292 | exact t_293 | exact t_294 | exact t_295 | exact t_296 | exact t_297 | exact t_298 | exact t_299 | exact t_300) only [z_M_digits_5, z_M_digits_6, z_M_digits_9, z_M_digits_11, z_M_digits_12, z_M_digits_13, z_M_digits_14, z_M_digits_17, z_M_digits_18, z_M_digits_19, z_M_digits_20, z_M_digits_21, z_M_digits_24, false_and, and_false, if_true, if_false, Decidable.not_not, sd_ci, sd_cr, sd_cl9, sd_cu, sd_cat0, sd_cat1, sd_rfS, sd_n01, sd_n11, sd_n1, sd_n10, sd_n00, sd_b01, sd_b0, true_and, and_true, and_self, not_true_eq_false, not_false_eq_true, false_implies, true_implies, implies_true, or_true, true_or, or_false, false_or, Option.toList_some, Option.toList_none, List.cons_append, List.nil_append, Nat.reduceAdd, Nat.reduceLeDiff, nz_sub, nz_lt0, nz_ge0, nz_le0, nz_gt0, nz_eq0, nz_eq1, nz_lt, nz_le, nz_eq, nz_cl, nz_in, nz_add, nz_mul, nz_m1, nz_m1', Nat.reduceMul, Nat.reduceSub, Nat.reduceLT, Nat.reduceEqDiff, not_false_eq_true, false_implies, true_implies, true_and, and_true, h_271, t_272, n_272, t_273, n_273, t_274, n_274, t_275, n_275, t_276, n_276, t_277, n_277, t_278, n_278, t_279, n_279, t_280, n_280, t_281, n_281, t_282, n_282, t_283, n_283, t_284, n_284, t_285, n_285, t_286, n_286, t_287, n_287, t_288, n_288, t_289, n_289, t_290, n_290, t_291, n_291, t_292, n_292, t_293, n_293, t_294, n_294, t_295, n_295, t_296, n_296, t_297, n_297, t_298, n_298, t_299, n_299, t_300, n_300, t_301, n_301, r_271_1, r_271_2, r_271_3, r_271_4, r_271_15, r_271_16, r_271_18, r_271_19, r_271_20, r_271_21, r_271_22, r_271_23, r_271_24, r_271_25, r_271_26, r_271_34, r_271_35, r_271_38, r_271_39, r_271_40, r_271_42, r_271_45, r_271_46, r_271_47, r_271_48, r_271_49, r_271_50, r_271_53, r_271_54, r_271_55, r_271_57, e3]
    ((repeat' first | (refine And.intro ?_ ?_) | (intro _)) <;> first | omega | exact hq)) l 0 σ (by omega) rfl
  subst hσ
  refine g3 () ?_
  show sd_Go (sd_E1 L xs fm) d y_M_digits 4 [.ref 271, .int (nI l), .int (nI (sw_dc l (x / 8 ^ (l - l)))), .int (nI l)] [] σ2 Q
  rw [Nat.sub_self, Nat.pow_zero, Nat.div_one, z_M_digits_4]
  simp (disch := first | exact sd_cr | exact sd_ci | exact sd_cu | exact sd_cl9 | assumption | omega | exact t_285 | exact t_283 | exact t_278 | exact t_281 | exact t_276 | exact t_274 | exact t_275 | exact t_277 | exact t_279 | exact t_280 | exact t_282 | exact t_284 | exact t_286 | exact t_287 | exact t_288 | exact t_289 | exact t_290 | exact t_291 | exact t_292 | exact t_293 | exact t_294 | exact t_295 | exact t_296 | exact t_297 | exact t_298 | exact t_299 | exact t_300) only [z_M_digits_5, z_M_digits_6, z_M_digits_27, z_M_digits_28, false_and, and_false, if_true, if_false, Decidable.not_not, sd_ci, sd_cr, sd_cl9, sd_cu, sd_cat0, sd_cat1, sd_rfS, sd_n01, sd_n11, sd_n1, sd_n10, sd_n00, sd_b01, sd_b0, true_and, and_true, and_self, not_true_eq_false, not_false_eq_true, false_implies, true_implies, implies_true, or_true, true_or, or_false, false_or, Option.toList_some, Option.toList_none, List.cons_append, List.nil_append, Nat.reduceAdd, Nat.reduceLeDiff, nz_sub, nz_lt0, nz_ge0, nz_le0, nz_gt0, nz_eq0, nz_eq1, nz_lt, nz_le, nz_eq, nz_cl, nz_in, nz_add, nz_mul, nz_m1, nz_m1', Nat.reduceMul, Nat.reduceSub, Nat.reduceLT, Nat.reduceEqDiff, not_false_eq_true, false_implies, true_implies, true_and, and_true, h_271, t_272, n_272, t_273, n_273, t_274, n_274, t_275, n_275, t_276, n_276, t_277, n_277, t_278, n_278, t_279, n_279, t_280, n_280, t_281, n_281, t_282, n_282, t_283, n_283, t_284, n_284, t_285, n_285, t_286, n_286, t_287, n_287, t_288, n_288, t_289, n_289, t_290, n_290, t_291, n_291, t_292, n_292, t_293, n_293, t_294, n_294, t_295, n_295, t_296, n_296, t_297, n_297, t_298, n_298, t_299, n_299, t_300, n_300, t_301, n_301, r_271_1, r_271_2, r_271_3, r_271_4, r_271_15, r_271_16, r_271_18, r_271_19, r_271_20, r_271_21, r_271_22, r_271_23, r_271_24, r_271_25, r_271_26, r_271_34, r_271_35, r_271_38, r_271_39, r_271_40, r_271_42, r_271_45, r_271_46, r_271_47, r_271_48, r_271_49, r_271_50, r_271_53, r_271_54, r_271_55, r_271_57]
  ((repeat' first | (refine And.intro ?_ ?_) | (intro _)) <;> first | omega | exact hq)
theorem sw_sum_hm {H : Nat → Nat} : ∀ k, k ≤ l → sd_fold (fun i t => t + H (sw_dg l x i)) k 0 0 = sw_hm H k (x / 8 ^ (l - k))
  | 0, _ => rfl
  | k + 1, hk => by
    rw [sd_fold_succ, sw_sum_hm k (by omega), Nat.zero_add]
    show _ = sw_hm H k (x / 8 ^ (l - (k + 1)) / 8) + H (x / 8 ^ (l - (k + 1)) % 8)
    rw [(sw_dg_k (by omega)).1, (sw_dg_k (by omega)).2]
theorem c_M_keepsAll {b : Nat} (h : sw_RM σ A W) (hl : 0 < l ∧ l ≤ 5) (hb : b < 4096) (hbk : ∀ v, v < W 0 0 0 → b.testBit v = true → W 1 v 1 ≤ 5) (h3 : ∀ k, k < l → σ.1 293 k = nI (sw_dg l x k)) : sd_Call (sd_E1 L xs fm) (d + 3) y_M_keepsAll [.ref 271, .int (nI b), .int (nI l)] σ Q ↔ Q (some (.int (sd_b (sw_ka W b l x = true)))) σ := by
  refine sd_Call.iff (fun Q hq => ?_) Q
  obtain ⟨hY, hT, hS, hA, hW⟩ := id h
  obtain ⟨⟨t1, t2, w1, w2, w3, w4⟩, w5, w6⟩ := id hS
  rw [sd_Call.start (ls := [.ref 271, .int (nI b), .int (nI l), sd_un]) m_M_keepsAll (by decide) (Nat.le_of_ble_eq_true rfl) rfl]
  simp (disch := first | exact sd_cr | exact sd_ci | exact sd_cu | exact sd_cl9 | assumption | omega) only [z_M_keepsAll_0, z_M_keepsAll_1, false_and, and_false, if_true, if_false, Decidable.not_not, sd_ci, sd_cr, sd_cl9, sd_cu, sd_cat0, sd_cat1, sd_rfS, sd_n01, sd_n11, sd_n1, sd_n10, sd_n00, sd_b01, sd_b0, true_and, and_true, and_self, not_true_eq_false, not_false_eq_true, false_implies, true_implies, implies_true, or_true, true_or, or_false, false_or, Option.toList_some, Option.toList_none, List.cons_append, List.nil_append, Nat.reduceAdd, Nat.reduceLeDiff]
  refine sd_loopS (fun i => sd_Go (sd_E1 L xs fm) (d + 2) y_M_keepsAll 2 [.ref 271, .int (nI b), .int (nI l), .int (nI i)] [] σ Q) (fun v => b.testBit v && !sw_kv W l x v) (W 0 0 0) (fun b => Q (some (.int (sd_b ((!b) = true)))) σ) ?_ ?_ (W 0 0 0) 0 (by omega) hq
  · intro v hv hT hF
    rw [z_M_keepsAll_2]
    have ch := fun Q => c_M_has (L := L) (xs := xs) (fm := fm) (d := d + 1) (σ := σ) (Q := Q) (S := b) (k := v) (by omega) (by omega)
    by_cases hbv : b.testBit v = true
    · have cv := fun Q => c_M_vowBreaks (L := L) (xs := xs) (fm := fm) (d := d) (Q := Q) (W := W) (σ := σ) (c := 285) (e := 293) (g := 0) (m := l) (f := sw_dg l x) hS.1 hv (hbk v hv hbv) t_293 (by rw [n_293]; omega) hl.1 (by decide) (fun i hi => by rw [Nat.zero_add]; exact h3 i hi) (fun i => Nat.lt_trans (sw_dg_lt l x i) (by decide))
      have eb : sw_br W v (sw_dg l x) l = sw_pb (sw_dg l x) l (W 1 v 1) (W 1 v 2) (W 1 v 3) (W 1 v 4) := rfl
      rw [eb] at cv
      cases ho : sw_pb (sw_dg l x) l (W 1 v 1) (W 1 v 2) (W 1 v 3) (W 1 v 4) with
      | none =>
        have hF := hF (by unfold sw_kv; rw [ho]; simp)
        have hm1 : sd_o none = -1 := rfl
        rw [ho, hm1] at cv
        simp (disch := first | exact sd_cr | exact sd_ci | exact sd_cu | exact sd_cl9 | assumption | omega | exact t_285 | exact t_283 | exact t_278 | exact t_281 | exact t_276 | exact t_274 | exact t_275 | exact t_277 | exact t_279 | exact t_280 | exact t_282 | exact t_284 | exact t_286 | exact t_287 | exact t_288 | exact t_289 | exact t_290 | exact t_291 | exact t_292 | exact t_293 | exact t_294 | exact t_295 | exact t_296 | exact t_297 | exact t_298 | exact t_299 | exact t_300) only [z_M_keepsAll_0, z_M_keepsAll_1, z_M_keepsAll_3, z_M_keepsAll_4, z_M_keepsAll_7, z_M_keepsAll_10, z_M_keepsAll_11, z_M_keepsAll_14, z_M_keepsAll_15, z_M_keepsAll_16, z_M_keepsAll_19, z_M_keepsAll_22, z_M_keepsAll_23, z_M_keepsAll_24, z_M_keepsAll_27, z_M_keepsAll_28, z_M_keepsAll_29, z_M_keepsAll_32, z_M_keepsAll_33, z_M_keepsAll_34, z_M_keepsAll_37, z_M_keepsAll_38, z_M_keepsAll_41, z_M_keepsAll_42, z_M_keepsAll_43, z_M_keepsAll_46, z_M_keepsAll_49, z_M_keepsAll_50, false_and, and_false, if_true, if_false, Decidable.not_not, sd_ci, sd_cr, sd_cl9, sd_cu, sd_cat0, sd_cat1, sd_rfS, sd_n01, sd_n11, sd_n1, sd_n10, sd_n00, sd_b01, sd_b0, true_and, and_true, and_self, not_true_eq_false, not_false_eq_true, false_implies, true_implies, implies_true, or_true, true_or, or_false, false_or, Option.toList_some, Option.toList_none, List.cons_append, List.nil_append, Nat.reduceAdd, Nat.reduceLeDiff, nz_sub, nz_lt0, nz_ge0, nz_le0, nz_gt0, nz_eq0, nz_eq1, nz_lt, nz_le, nz_eq, nz_cl, nz_in, nz_add, nz_mul, nz_m1, nz_m1', Nat.reduceMul, Nat.reduceSub, Nat.reduceLT, Nat.reduceEqDiff, not_false_eq_true, false_implies, true_implies, true_and, and_true, h_271, t_272, n_272, t_273, n_273, t_274, n_274, t_275, n_275, t_276, n_276, t_277, n_277, t_278, n_278, t_279, n_279, t_280, n_280, t_281, n_281, t_282, n_282, t_283, n_283, t_284, n_284, t_285, n_285, t_286, n_286, t_287, n_287, t_288, n_288, t_289, n_289, t_290, n_290, t_291, n_291, t_292, n_292, t_293, n_293, t_294, n_294, t_295, n_295, t_296, n_296, t_297, n_297, t_298, n_298, t_299, n_299, t_300, n_300, t_301, n_301, r_271_1, r_271_2, r_271_3, r_271_4, r_271_15, r_271_16, r_271_18, r_271_19, r_271_20, r_271_21, r_271_22, r_271_23, r_271_24, r_271_25, r_271_26, r_271_34, r_271_35, r_271_38, r_271_39, r_271_40, r_271_42, r_271_45, r_271_46, r_271_47, r_271_48, r_271_49, r_271_50, r_271_53, r_271_54, r_271_55, r_271_57, w1, ch, hbv, cv]
        ((repeat' first | (refine And.intro ?_ ?_) | (intro _)) <;> first | omega | exact hF)
      | some q =>
        have hql := sw_pb_lt ho
        have hT := hT (by unfold sw_kv; rw [ho, hbv]; rfl)
        rw [sd_bF (by decide)] at hT
        rw [ho, sd_oS] at cv
        simp (disch := first | exact sd_cr | exact sd_ci | exact sd_cu | exact sd_cl9 | assumption | omega | exact t_285 | exact t_283 | exact t_278 | exact t_281 | exact t_276 | exact t_274 | exact t_275 | exact t_277 | exact t_279 | exact t_280 | exact t_282 | exact t_284 | exact t_286 | exact t_287 | exact t_288 | exact t_289 | exact t_290 | exact t_291 | exact t_292 | exact t_293 | exact t_294 | exact t_295 | exact t_296 | exact t_297 | exact t_298 | exact t_299 | exact t_300) only [z_M_keepsAll_0, z_M_keepsAll_1, z_M_keepsAll_3, z_M_keepsAll_4, z_M_keepsAll_7, z_M_keepsAll_10, z_M_keepsAll_11, z_M_keepsAll_14, z_M_keepsAll_15, z_M_keepsAll_16, z_M_keepsAll_19, z_M_keepsAll_22, z_M_keepsAll_23, z_M_keepsAll_24, z_M_keepsAll_27, z_M_keepsAll_28, z_M_keepsAll_29, z_M_keepsAll_32, z_M_keepsAll_33, z_M_keepsAll_34, z_M_keepsAll_37, z_M_keepsAll_38, z_M_keepsAll_41, z_M_keepsAll_42, z_M_keepsAll_43, z_M_keepsAll_46, z_M_keepsAll_49, z_M_keepsAll_50, false_and, and_false, if_true, if_false, Decidable.not_not, sd_ci, sd_cr, sd_cl9, sd_cu, sd_cat0, sd_cat1, sd_rfS, sd_n01, sd_n11, sd_n1, sd_n10, sd_n00, sd_b01, sd_b0, true_and, and_true, and_self, not_true_eq_false, not_false_eq_true, false_implies, true_implies, implies_true, or_true, true_or, or_false, false_or, Option.toList_some, Option.toList_none, List.cons_append, List.nil_append, Nat.reduceAdd, Nat.reduceLeDiff, nz_sub, nz_lt0, nz_ge0, nz_le0, nz_gt0, nz_eq0, nz_eq1, nz_lt, nz_le, nz_eq, nz_cl, nz_in, nz_add, nz_mul, nz_m1, nz_m1', Nat.reduceMul, Nat.reduceSub, Nat.reduceLT, Nat.reduceEqDiff, not_false_eq_true, false_implies, true_implies, true_and, and_true, h_271, t_272, n_272, t_273, n_273, t_274, n_274, t_275, n_275, t_276, n_276, t_277, n_277, t_278, n_278, t_279, n_279, t_280, n_280, t_281, n_281, t_282, n_282, t_283, n_283, t_284, n_284, t_285, n_285, t_286, n_286, t_287, n_287, t_288, n_288, t_289, n_289, t_290, n_290, t_291, n_291, t_292, n_292, t_293, n_293, t_294, n_294, t_295, n_295, t_296, n_296, t_297, n_297, t_298, n_298, t_299, n_299, t_300, n_300, t_301, n_301, r_271_1, r_271_2, r_271_3, r_271_4, r_271_15, r_271_16, r_271_18, r_271_19, r_271_20, r_271_21, r_271_22, r_271_23, r_271_24, r_271_25, r_271_26, r_271_34, r_271_35, r_271_38, r_271_39, r_271_40, r_271_42, r_271_45, r_271_46, r_271_47, r_271_48, r_271_49, r_271_50, r_271_53, r_271_54, r_271_55, r_271_57, w1, ch, hbv, cv]
        ((repeat' first | (refine And.intro ?_ ?_) | (intro _)) <;> first | omega | exact hT)
    · have hF := hF (by rw [Bool.not_eq_true] at hbv; rw [hbv]; rfl)
      simp (disch := first | exact sd_cr | exact sd_ci | exact sd_cu | exact sd_cl9 | assumption | omega | exact t_285 | exact t_283 | exact t_278 | exact t_281 | exact t_276 | exact t_274 | exact t_275 | exact t_277 | exact t_279 | exact t_280 | exact t_282 | exact t_284 | exact t_286 | exact t_287 | exact t_288 | exact t_289 | exact t_290 | exact t_291 | exact t_292 | exact t_293 | exact t_294 | exact t_295 | exact t_296 | exact t_297 | exact t_298 | exact t_299 | exact t_300) only [z_M_keepsAll_0, z_M_keepsAll_1, z_M_keepsAll_3, z_M_keepsAll_4, z_M_keepsAll_7, z_M_keepsAll_10, z_M_keepsAll_11, z_M_keepsAll_14, z_M_keepsAll_15, z_M_keepsAll_16, z_M_keepsAll_19, z_M_keepsAll_22, z_M_keepsAll_23, z_M_keepsAll_24, z_M_keepsAll_27, z_M_keepsAll_28, z_M_keepsAll_29, z_M_keepsAll_32, z_M_keepsAll_33, z_M_keepsAll_34, z_M_keepsAll_37, z_M_keepsAll_38, z_M_keepsAll_41, z_M_keepsAll_42, z_M_keepsAll_43, z_M_keepsAll_46, z_M_keepsAll_49, z_M_keepsAll_50, false_and, and_false, if_true, if_false, Decidable.not_not, sd_ci, sd_cr, sd_cl9, sd_cu, sd_cat0, sd_cat1, sd_rfS, sd_n01, sd_n11, sd_n1, sd_n10, sd_n00, sd_b01, sd_b0, true_and, and_true, and_self, not_true_eq_false, not_false_eq_true, false_implies, true_implies, implies_true, or_true, true_or, or_false, false_or, Option.toList_some, Option.toList_none, List.cons_append, List.nil_append, Nat.reduceAdd, Nat.reduceLeDiff, nz_sub, nz_lt0, nz_ge0, nz_le0, nz_gt0, nz_eq0, nz_eq1, nz_lt, nz_le, nz_eq, nz_cl, nz_in, nz_add, nz_mul, nz_m1, nz_m1', Nat.reduceMul, Nat.reduceSub, Nat.reduceLT, Nat.reduceEqDiff, not_false_eq_true, false_implies, true_implies, true_and, and_true, h_271, t_272, n_272, t_273, n_273, t_274, n_274, t_275, n_275, t_276, n_276, t_277, n_277, t_278, n_278, t_279, n_279, t_280, n_280, t_281, n_281, t_282, n_282, t_283, n_283, t_284, n_284, t_285, n_285, t_286, n_286, t_287, n_287, t_288, n_288, t_289, n_289, t_290, n_290, t_291, n_291, t_292, n_292, t_293, n_293, t_294, n_294, t_295, n_295, t_296, n_296, t_297, n_297, t_298, n_298, t_299, n_299, t_300, n_300, t_301, n_301, r_271_1, r_271_2, r_271_3, r_271_4, r_271_15, r_271_16, r_271_18, r_271_19, r_271_20, r_271_21, r_271_22, r_271_23, r_271_24, r_271_25, r_271_26, r_271_34, r_271_35, r_271_38, r_271_39, r_271_40, r_271_42, r_271_45, r_271_46, r_271_47, r_271_48, r_271_49, r_271_50, r_271_53, r_271_54, r_271_55, r_271_57, w1, ch, hbv, Bool.false_eq_true]
      ((repeat' first | (refine And.intro ?_ ?_) | (intro _)) <;> first | omega | exact hF)
  · intro hE
    rw [sd_bT (by decide)] at hE
    rw [z_M_keepsAll_2]
    simp (disch := first | exact sd_cr | exact sd_ci | exact sd_cu | exact sd_cl9 | assumption | omega | exact t_285 | exact t_283 | exact t_278 | exact t_281 | exact t_276 | exact t_274 | exact t_275 | exact t_277 | exact t_279 | exact t_280 | exact t_282 | exact t_284 | exact t_286 | exact t_287 | exact t_288 | exact t_289 | exact t_290 | exact t_291 | exact t_292 | exact t_293 | exact t_294 | exact t_295 | exact t_296 | exact t_297 | exact t_298 | exact t_299 | exact t_300) only [z_M_keepsAll_0, z_M_keepsAll_1, z_M_keepsAll_3, z_M_keepsAll_4, z_M_keepsAll_7, z_M_keepsAll_10, z_M_keepsAll_11, z_M_keepsAll_14, z_M_keepsAll_15, z_M_keepsAll_16, z_M_keepsAll_19, z_M_keepsAll_22, z_M_keepsAll_23, z_M_keepsAll_24, z_M_keepsAll_27, z_M_keepsAll_28, z_M_keepsAll_29, z_M_keepsAll_32, z_M_keepsAll_33, z_M_keepsAll_34, z_M_keepsAll_37, z_M_keepsAll_38, z_M_keepsAll_41, z_M_keepsAll_42, z_M_keepsAll_43, z_M_keepsAll_46, z_M_keepsAll_49, z_M_keepsAll_50, false_and, and_false, if_true, if_false, Decidable.not_not, sd_ci, sd_cr, sd_cl9, sd_cu, sd_cat0, sd_cat1, sd_rfS, sd_n01, sd_n11, sd_n1, sd_n10, sd_n00, sd_b01, sd_b0, true_and, and_true, and_self, not_true_eq_false, not_false_eq_true, false_implies, true_implies, implies_true, or_true, true_or, or_false, false_or, Option.toList_some, Option.toList_none, List.cons_append, List.nil_append, Nat.reduceAdd, Nat.reduceLeDiff, nz_sub, nz_lt0, nz_ge0, nz_le0, nz_gt0, nz_eq0, nz_eq1, nz_lt, nz_le, nz_eq, nz_cl, nz_in, nz_add, nz_mul, nz_m1, nz_m1', Nat.reduceMul, Nat.reduceSub, Nat.reduceLT, Nat.reduceEqDiff, not_false_eq_true, false_implies, true_implies, true_and, and_true, h_271, t_272, n_272, t_273, n_273, t_274, n_274, t_275, n_275, t_276, n_276, t_277, n_277, t_278, n_278, t_279, n_279, t_280, n_280, t_281, n_281, t_282, n_282, t_283, n_283, t_284, n_284, t_285, n_285, t_286, n_286, t_287, n_287, t_288, n_288, t_289, n_289, t_290, n_290, t_291, n_291, t_292, n_292, t_293, n_293, t_294, n_294, t_295, n_295, t_296, n_296, t_297, n_297, t_298, n_298, t_299, n_299, t_300, n_300, t_301, n_301, r_271_1, r_271_2, r_271_3, r_271_4, r_271_15, r_271_16, r_271_18, r_271_19, r_271_20, r_271_21, r_271_22, r_271_23, r_271_24, r_271_25, r_271_26, r_271_34, r_271_35, r_271_38, r_271_39, r_271_40, r_271_42, r_271_45, r_271_46, r_271_47, r_271_48, r_271_49, r_271_50, r_271_53, r_271_54, r_271_55, r_271_57, w1]
    ((repeat' first | (refine And.intro ?_ ?_) | (intro _)) <;> first | omega | exact hE)
end SDA5
