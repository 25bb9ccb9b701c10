/-! the class's search, from its begin on -/
section SDA3
variable {u : Nat → Nat → Nat} {bt : Nat → Nat} {vt l : Nat}
theorem sw_sb0 (hb : ∀ v, v < vt → ¬ bt v = 0) {m N : Nat} : ∀ n i, i + n = vt → (sd_fold (fun v b => if 0 = 0 ∧ ¬ b = 0 then b else if b &&& bt v = 0 ∧ sw_ba (sw_dg m N) l (u v 1) (u v 2) (u v 3) (u v 4) (m - 1) = true then b ||| bt v else b) n i 0 = 0 ↔ ∀ v, i ≤ v → v < vt → sw_ba (sw_dg m N) l (u v 1) (u v 2) (u v 3) (u v 4) (m - 1) = false)
  | 0, i, hi => ⟨fun _ v h1 h2 => by omega, fun _ => rfl⟩
  | n + 1, i, hi => by
    have ih := sw_sb0 hb (m := m) (N := N) n (i + 1) (by omega)
    show sd_fold _ n (i + 1) (if 0 = 0 ∧ ¬ 0 = 0 then 0 else if 0 &&& bt i = 0 ∧ sw_ba (sw_dg m N) l (u i 1) (u i 2) (u i 3) (u i 4) (m - 1) = true then 0 ||| bt i else 0) = 0 ↔ _
    rw [if_neg (fun q => q.2 rfl), Nat.zero_and, Nat.zero_or]
    cases hba : sw_ba (sw_dg m N) l (u i 1) (u i 2) (u i 3) (u i 4) (m - 1) with
    | true =>
      rw [if_pos ⟨rfl, rfl⟩]
      have hbi := hb i (by omega)
      rw [show sd_fold (fun v b => if 0 = 0 ∧ ¬ b = 0 then b else if b &&& bt v = 0 ∧ sw_ba (sw_dg m N) l (u v 1) (u v 2) (u v 3) (u v 4) (m - 1) = true then b ||| bt v else b) n (i + 1) (bt i) = bt i from sd_fold_id _ _ _ (fun x _ _ => if_pos ⟨rfl, hbi⟩)]
      refine ⟨fun q => absurd q hbi, fun q => ?_⟩
      have := q i (Nat.le_refl _) (by omega)
      rw [hba] at this
      cases this
    | false =>
      rw [if_neg (fun q => by cases q.2), ih]
      refine ⟨fun q v h1 h2 => ?_, fun q v h1 h2 => q v (by omega) h2⟩
      by_cases hv : v = i
      · rw [hv]; exact hba
      · exact q v (by omega) h2
theorem sw_st0 (hb : ∀ v, v < vt → ¬ bt v = 0) : ∀ m N, sw_st (sw_sb u bt vt l 0) m N = 0 ↔ ∀ v, v < vt → ∀ i, i < m → sw_ba (sw_dg m N) l (u v 1) (u v 2) (u v 3) (u v 4) i = false
  | 0, N => ⟨fun _ v _ i hi => by omega, fun _ => rfl⟩
  | m + 1, N => by
    have ih := sw_st0 hb m (N / 8)
    have hsup := sw_sb_sup (u := u) (bt := bt) (vt := vt) (l := l) (sk := 0) (m + 1) N (sw_st (sw_sb u bt vt l 0) m (N / 8))
    have hpre : ∀ v i, i < m → sw_ba (sw_dg (m + 1) N) l (u v 1) (u v 2) (u v 3) (u v 4) i = sw_ba (sw_dg m (N / 8)) l (u v 1) (u v 2) (u v 3) (u v 4) i := fun v i hi => sw_ba_c (fun k hk => sw_dg_p (j := 1) (by rw [Nat.pow_one]) (by omega))
    show sw_sb u bt vt l 0 (m + 1) N (sw_st (sw_sb u bt vt l 0) m (N / 8)) = 0 ↔ _
    constructor
    · intro h v hv i hi
      rw [h, Nat.or_zero] at hsup
      by_cases him : i < m
      · rw [hpre v i him]
        exact ih.mp hsup v hv i him
      · rw [show i = m by omega]
        rw [hsup] at h
        have := (sw_sb0 (u := u) (l := l) hb (m := m + 1) (N := N) vt 0 (by omega)).mp h v (Nat.zero_le _) hv
        rw [Nat.add_sub_cancel] at this
        exact this
    · intro h
      have h0 := ih.mpr (fun v hv i hi => by rw [← hpre v i hi]; exact h v hv i (by omega))
      rw [h0]
      refine (sw_sb0 (u := u) (l := l) hb (m := m + 1) (N := N) vt 0 (by omega)).mpr (fun v _ hv => ?_)
      rw [Nat.add_sub_cancel]
      exact h v hv m (by omega)
theorem sw_pb_none {f : Nat → Nat} {l kd a b n : Nat} : sw_pb f l kd a b n = none ↔ ∀ i, i < l → sw_ba f l kd a b n i = false := by
  unfold sw_pb
  rw [sd_fst_none]
  exact ⟨fun h i hi => by have := h i (Nat.zero_le _) (by omega); rw [Bool.not_eq_true] at this; exact this, fun h k _ hk q => by rw [h k (by omega)] at q; cases q⟩
end SDA3
/-! vows that a row keeps -/
def sw_kv (W : sw_T) (l x v : Nat) : Bool := (sw_pb (sw_dg l x) l (W 1 v 1) (W 1 v 2) (W 1 v 3) (W 1 v 4)).isNone
/-- the search holds the vows of this list -/
def sw_vl (σ : sd_Mem) (W : sw_T) (ix : List Nat) : Prop := σ.1 265 2 = nI ix.length ∧ ∀ k, k < ix.length → (∀ j, j < 6 → σ.1 266 (k * 6 + j) = nI (W 1 (ix.getD k 0) j)) ∧ σ.1 267 k = nI (2 ^ ix.getD k 0)
theorem sw_kst {W : sw_T} {ix : List Nat} {l x : Nat} : sw_st (sw_sb (fun k => W 1 (ix.getD k 0)) (fun k => 2 ^ ix.getD k 0) ix.length l 0) l x = 0 ↔ ∀ k, k < ix.length → sw_kv W l x (ix.getD k 0) = true := by
  rw [sw_st0 (fun v _ => Nat.ne_of_gt (Nat.two_pow_pos _))]
  constructor
  · intro h k hk
    unfold sw_kv
    rw [sw_pb_none.mpr (h k hk)]
    rfl
  · intro h k hk
    have := h k hk
    unfold sw_kv at this
    exact sw_pb_none.mp (Option.isNone_iff_eq_none.mp this)
section SDA3b
variable {L : Nat} {xs : Nat → Int32} {fm : Option Nat} {A W : sw_T} {σ : sd_Mem} {d : Nat} {Q : Option Value → sd_Mem → Prop}
theorem sw_dn0_0 (h : ∀ i, i < 8 → σ.1 270 i = nI 0) : sd_wA σ 270 (sw_dn0 σ 0 0) = σ := by
  have : sw_dn0 σ 0 0 = σ.1 270 := funext fun j => by
    unfold sw_dn0
    split
    · rw [h j (by assumption)]; rfl
    · rfl
  rw [this, wA_same]
/-- the slots as begin leaves them -/
def sw_s0 (s : Nat → Int32) (l : Nat) : Nat → Int32 := sw_u (sw_u (sw_u (sw_u (sw_u (sw_u s 6 (nI l)) 10 (nI 0)) 12 (nI 0)) 13 (-1)) 14 (-1)) 15 (nI 0)
theorem c_Search_begin {l : Nat} {s : Nat → Int32} : sd_Call (sd_E1 L xs fm) (d + 1) y_Search_begin [.ref 265, .int (nI l)] (sd_wA σ 265 s) Q ↔ Q none (sd_wA σ 265 (sw_s0 s l)) := by
  refine sd_Call.iff (fun Q hq => ?_) Q
  rw [sd_Call.start (ls := [.ref 265, .int (nI l)]) m_Search_begin (by decide) (Nat.le_of_ble_eq_true rfl) rfl]
  simp (disch := first | exact sd_cr | exact sd_ci | exact sd_cu | exact sd_cl9 | assumption | omega | exact t_259 | exact t_260 | exact t_261 | exact t_262 | exact t_263 | exact t_264 | exact t_254 | exact t_255 | exact t_256 | exact t_257 | exact t_266 | exact t_267 | exact t_268 | exact t_269 | exact t_270 | exact t_252 | exact t_240 | exact t_246 | exact t_2 | exact t_4 | exact t_5 | exact t_13 | exact t_14 | exact t_15 | exact t_16 | exact Or.inl t_39 | exact Or.inr t_7) only [z_Search_begin_0, z_Search_begin_1, z_Search_begin_2, z_Search_begin_5, z_Search_begin_6, z_Search_begin_7, z_Search_begin_10, z_Search_begin_11, z_Search_begin_12, z_Search_begin_15, z_Search_begin_16, z_Search_begin_17, z_Search_begin_20, z_Search_begin_21, z_Search_begin_22, z_Search_begin_25, z_Search_begin_26, z_Search_begin_27, z_Search_begin_30, false_and, and_false, if_true, if_false, Decidable.not_not, sd_ci, sd_cr, sd_cl9, sd_cu, sd_cat0, sd_cat1, sd_rfS, sd_n01, sd_n11, sd_n1, sd_n10, sd_n00, sd_b01, sd_b0, true_and, and_true, and_self, not_true_eq_false, not_false_eq_true, false_implies, true_implies, implies_true, or_true, true_or, or_false, false_or, Option.toList_some, Option.toList_none, List.cons_append, List.nil_append, Nat.reduceAdd, Nat.reduceLeDiff, h_0, h_1, t_2, n_2, h_3, t_4, n_4, t_5, n_5, h_6, t_7, n_7, t_8, n_8, t_9, n_9, t_10, n_10, t_11, n_11, t_12, n_12, t_13, n_13, t_14, n_14, t_15, n_15, t_16, n_16, h_17, h_18, t_19, n_19, t_20, n_20, t_21, n_21, t_22, n_22, h_28, t_29, n_29, t_30, n_30, t_31, n_31, t_32, n_32, h_38, t_39, n_39, t_240, n_240, t_246, n_246, t_252, n_252, h_253, t_254, n_254, t_255, n_255, t_256, n_256, t_257, n_257, h_258, t_259, n_259, t_260, n_260, t_261, n_261, t_262, n_262, t_263, n_263, t_264, n_264, h_265, t_266, n_266, t_267, n_267, t_268, n_268, t_269, n_269, t_270, n_270, r_0_0, r_0_1, r_0_2, r_0_3, r_0_6, r_0_7, r_0_8, r_0_9, r_0_11, r_0_12, r_0_13, r_0_14, r_0_15, r_1_0, r_3_0, r_3_1, r_3_2, r_6_0, r_6_1, r_6_4, r_6_5, r_6_7, r_7_0, r_7_1, r_7_2, r_7_3, r_7_4, r_17_0, r_17_1, r_18_1, r_18_2, r_18_3, r_18_4, r_18_6, r_28_1, r_28_2, r_28_3, r_28_4, r_28_6, r_38_0, r_253_0, r_253_1, r_253_2, r_253_3, r_258_0, r_258_1, r_258_3, r_258_4, r_258_6, r_258_8, r_265_0, r_265_1, r_265_3, r_265_4, r_265_5, r_0_4, r_0_5, wA_u]
  exact hq
def sw_s1 (s : Nat → Int32) (l : Nat) (h w : Int32) : Nat → Int32 := sw_u (sw_u (sw_u (sw_s0 s l) 7 h) 8 w) 9 (nI 0)
theorem sw_s1_slv {s : Nat → Int32} {vt l : Nat} {h w : Int32} (hv : s 2 = nI vt) : sw_slv vt l 0 (sw_s1 s l h w) := ⟨hv, rfl, rfl, Or.inl rfl, fun q => by cases q⟩
theorem c_Search_run {vt l : Nat} {u : Nat → Nat → Nat} {bt H : Nat → Nat} {wo : Nat → Int32} {h w : Int32} (hR : sw_SR σ vt u bt H wo) (hl : 0 < l ∧ l ≤ 5) (hv : σ.1 265 2 = nI vt) (h0 : ∀ i, i < 8 → σ.1 270 i = nI 0) : sd_Call (sd_E1 L xs fm) (d + 9) y_Search_run [.ref 265, .int (nI l), .int h, .int w] σ Q ↔ Q none (sd_wA σ 265 (sd_fold (sw_g (sw_sb u bt vt l 0) sw_hp (sw_ar wo H l) sw_en l) (8 ^ l) 0 (sw_s1 (σ.1 265) l h w))) := by
  refine sd_Call.iff (fun Q hq => ?_) Q
  have hs := sw_s1_slv (s := σ.1 265) (l := l) (h := h) (w := w) hv
  have cd := fun Q => c_Search_descend (L := L) (xs := xs) (fm := fm) (σ := σ) hR hl (sk := 0) (by decide) l 0 0 0 (sw_s1 (σ.1 265) l h w) (d + (5 - l)) Q (by omega) (by decide) hs
  rw [sw_dn0_0 h0, show d + (5 - l) + (l + 3) = d + 8 by omega] at cd
  have e := sw_D_g (br := sw_sb u bt vt l 0) (hp := sw_hp) (ar := sw_ar wo H l) (en := sw_en) (fun m N st => sw_sb_sup m N st) sw_hp_m (l := l) l 0 0 (sw_s1 (σ.1 265) l h w) (by omega) rfl (fun q => by omega)
  rw [Nat.zero_mul] at e
  have e : sw_DD u bt vt l 0 wo H l 0 0 0 (sw_s1 (σ.1 265) l h w) = _ := e
  rw [e] at cd
  have cd : ∀ Q, sd_Call (sd_E1 L xs fm) (d + 8) y_Search_descend [.ref 265, .int (nI 0), .int (nI 0), .int (nI 0), .int (nI 0), .int (nI 0)] (sd_wA σ 265 (sw_s1 (σ.1 265) l h w)) Q ↔ _ := cd
  have cb := fun Q => c_Search_begin (L := L) (xs := xs) (fm := fm) (σ := σ) (d := d + 7) (Q := Q) (l := l) (s := σ.1 265)
  rw [wA_same] at cb
  unfold sw_s1 at cd hq
  rw [sd_Call.start (ls := [.ref 265, .int (nI l), .int h, .int w]) m_Search_run (by decide) (Nat.le_of_ble_eq_true rfl) rfl]
  simp (disch := first | exact sd_cr | exact sd_ci | exact sd_cu | exact sd_cl9 | assumption | omega | exact t_259 | exact t_260 | exact t_261 | exact t_262 | exact t_263 | exact t_264 | exact t_254 | exact t_255 | exact t_256 | exact t_257 | exact t_266 | exact t_267 | exact t_268 | exact t_269 | exact t_270 | exact t_252 | exact t_240 | exact t_246 | exact t_2 | exact t_4 | exact t_5 | exact t_13 | exact t_14 | exact t_15 | exact t_16 | exact Or.inl t_39 | exact Or.inr t_7) only [z_Search_run_0, z_Search_run_1, z_Search_run_2, z_Search_run_5, z_Search_run_6, z_Search_run_7, z_Search_run_10, z_Search_run_11, z_Search_run_12, z_Search_run_15, z_Search_run_16, z_Search_run_17, z_Search_run_20, z_Search_run_21, z_Search_run_22, z_Search_run_23, z_Search_run_24, z_Search_run_25, z_Search_run_26, z_Search_run_29, false_and, and_false, if_true, if_false, Decidable.not_not, sd_ci, sd_cr, sd_cl9, sd_cu, sd_cat0, sd_cat1, sd_rfS, sd_n01, sd_n11, sd_n1, sd_n10, sd_n00, sd_b01, sd_b0, true_and, and_true, and_self, not_true_eq_false, not_false_eq_true, false_implies, true_implies, implies_true, or_true, true_or, or_false, false_or, Option.toList_some, Option.toList_none, List.cons_append, List.nil_append, Nat.reduceAdd, Nat.reduceLeDiff, h_0, h_1, t_2, n_2, h_3, t_4, n_4, t_5, n_5, h_6, t_7, n_7, t_8, n_8, t_9, n_9, t_10, n_10, t_11, n_11, t_12, n_12, t_13, n_13, t_14, n_14, t_15, n_15, t_16, n_16, h_17, h_18, t_19, n_19, t_20, n_20, t_21, n_21, t_22, n_22, h_28, t_29, n_29, t_30, n_30, t_31, n_31, t_32, n_32, h_38, t_39, n_39, t_240, n_240, t_246, n_246, t_252, n_252, h_253, t_254, n_254, t_255, n_255, t_256, n_256, t_257, n_257, h_258, t_259, n_259, t_260, n_260, t_261, n_261, t_262, n_262, t_263, n_263, t_264, n_264, h_265, t_266, n_266, t_267, n_267, t_268, n_268, t_269, n_269, t_270, n_270, r_0_0, r_0_1, r_0_2, r_0_3, r_0_6, r_0_7, r_0_8, r_0_9, r_0_11, r_0_12, r_0_13, r_0_14, r_0_15, r_1_0, r_3_0, r_3_1, r_3_2, r_6_0, r_6_1, r_6_4, r_6_5, r_6_7, r_7_0, r_7_1, r_7_2, r_7_3, r_7_4, r_17_0, r_17_1, r_18_1, r_18_2, r_18_3, r_18_4, r_18_6, r_28_1, r_28_2, r_28_3, r_28_4, r_28_6, r_38_0, r_253_0, r_253_1, r_253_2, r_253_3, r_258_0, r_258_1, r_258_3, r_258_4, r_258_6, r_258_8, r_265_0, r_265_1, r_265_3, r_265_4, r_265_5, r_0_4, r_0_5, cb, wA_u, cd]
  exact hq
theorem c_Search_leastStruck {vt l : Nat} {u : Nat → Nat → Nat} {bt H : Nat → Nat} {wo : Nat → Int32} (hR : sw_SR σ vt u bt H wo) (hl : 0 < l ∧ l ≤ 5) (hv : σ.1 265 2 = nI vt) (h0 : ∀ i, i < 8 → σ.1 270 i = nI 0) : sd_Call (sd_E1 L xs fm) (d + 9) y_Search_leastStruck [.ref 265, .int (nI l)] σ Q ↔ Q (some (.int (sd_fold (sw_g (sw_sb u bt vt l 1) sw_hp (sw_ar wo H l) sw_en l) (8 ^ l) 0 (sw_u (sw_u (sw_s0 (σ.1 265) l) 9 (nI 1)) 11 (-1)) 11))) (sd_wA σ 265 (sd_fold (sw_g (sw_sb u bt vt l 1) sw_hp (sw_ar wo H l) sw_en l) (8 ^ l) 0 (sw_u (sw_u (sw_s0 (σ.1 265) l) 9 (nI 1)) 11 (-1)))) := by
  refine sd_Call.iff (fun Q hq => ?_) Q
  have hs : sw_slv vt l 1 (sw_u (sw_u (sw_s0 (σ.1 265) l) 9 (nI 1)) 11 (-1)) := ⟨hv, rfl, rfl, Or.inl rfl, fun _ => Or.inl rfl⟩
  have cd := fun Q => c_Search_descend (L := L) (xs := xs) (fm := fm) (σ := σ) hR hl (sk := 1) (by decide) l 0 0 0 (sw_u (sw_u (sw_s0 (σ.1 265) l) 9 (nI 1)) 11 (-1)) (d + (5 - l)) Q (by omega) (by decide) hs
  rw [sw_dn0_0 h0, show d + (5 - l) + (l + 3) = d + 8 by omega] at cd
  have e := sw_D_g (br := sw_sb u bt vt l 1) (hp := sw_hp) (ar := sw_ar wo H l) (en := sw_en) (fun m N st => sw_sb_sup m N st) sw_hp_m (l := l) l 0 0 (sw_u (sw_u (sw_s0 (σ.1 265) l) 9 (nI 1)) 11 (-1)) (by omega) rfl (fun q => by omega)
  rw [Nat.zero_mul] at e
  have e : sw_DD u bt vt l 1 wo H l 0 0 0 (sw_u (sw_u (sw_s0 (σ.1 265) l) 9 (nI 1)) 11 (-1)) = _ := e
  rw [e] at cd
  have cd : ∀ Q, sd_Call (sd_E1 L xs fm) (d + 8) y_Search_descend [.ref 265, .int (nI 0), .int (nI 0), .int (nI 0), .int (nI 0), .int (nI 0)] (sd_wA σ 265 (sw_u (sw_u (sw_s0 (σ.1 265) l) 9 (nI 1)) 11 (-1))) Q ↔ _ := cd
  have cb := fun Q => c_Search_begin (L := L) (xs := xs) (fm := fm) (σ := σ) (d := d + 7) (Q := Q) (l := l) (s := σ.1 265)
  rw [wA_same] at cb
  rw [sd_Call.start (ls := [.ref 265, .int (nI l)]) m_Search_leastStruck (by decide) (Nat.le_of_ble_eq_true rfl) rfl]
  simp (disch := first | exact sd_cr | exact sd_ci | exact sd_cu | exact sd_cl9 | assumption | omega | exact t_259 | exact t_260 | exact t_261 | exact t_262 | exact t_263 | exact t_264 | exact t_254 | exact t_255 | exact t_256 | exact t_257 | exact t_266 | exact t_267 | exact t_268 | exact t_269 | exact t_270 | exact t_252 | exact t_240 | exact t_246 | exact t_2 | exact t_4 | exact t_5 | exact t_13 | exact t_14 | exact t_15 | exact t_16 | exact Or.inl t_39 | exact Or.inr t_7) only [z_Search_leastStruck_0, z_Search_leastStruck_1, z_Search_leastStruck_2, z_Search_leastStruck_5, z_Search_leastStruck_6, z_Search_leastStruck_7, z_Search_leastStruck_10, z_Search_leastStruck_11, z_Search_leastStruck_12, z_Search_leastStruck_15, z_Search_leastStruck_16, z_Search_leastStruck_17, z_Search_leastStruck_18, z_Search_leastStruck_19, z_Search_leastStruck_20, z_Search_leastStruck_21, z_Search_leastStruck_24, z_Search_leastStruck_25, z_Search_leastStruck_28, false_and, and_false, if_true, if_false, Decidable.not_not, sd_ci, sd_cr, sd_cl9, sd_cu, sd_cat0, sd_cat1, sd_rfS, sd_n01, sd_n11, sd_n1, sd_n10, sd_n00, sd_b01, sd_b0, true_and, and_true, and_self, not_true_eq_false, not_false_eq_true, false_implies, true_implies, implies_true, or_true, true_or, or_false, false_or, Option.toList_some, Option.toList_none, List.cons_append, List.nil_append, Nat.reduceAdd, Nat.reduceLeDiff, h_0, h_1, t_2, n_2, h_3, t_4, n_4, t_5, n_5, h_6, t_7, n_7, t_8, n_8, t_9, n_9, t_10, n_10, t_11, n_11, t_12, n_12, t_13, n_13, t_14, n_14, t_15, n_15, t_16, n_16, h_17, h_18, t_19, n_19, t_20, n_20, t_21, n_21, t_22, n_22, h_28, t_29, n_29, t_30, n_30, t_31, n_31, t_32, n_32, h_38, t_39, n_39, t_240, n_240, t_246, n_246, t_252, n_252, h_253, t_254, n_254, t_255, n_255, t_256, n_256, t_257, n_257, h_258, t_259, n_259, t_260, n_260, t_261, n_261, t_262, n_262, t_263, n_263, t_264, n_264, h_265, t_266, n_266, t_267, n_267, t_268, n_268, t_269, n_269, t_270, n_270, r_0_0, r_0_1, r_0_2, r_0_3, r_0_6, r_0_7, r_0_8, r_0_9, r_0_11, r_0_12, r_0_13, r_0_14, r_0_15, r_1_0, r_3_0, r_3_1, r_3_2, r_6_0, r_6_1, r_6_4, r_6_5, r_6_7, r_7_0, r_7_1, r_7_2, r_7_3, r_7_4, r_17_0, r_17_1, r_18_1, r_18_2, r_18_3, r_18_4, r_18_6, r_28_1, r_28_2, r_28_3, r_28_4, r_28_6, r_38_0, r_253_0, r_253_1, r_253_2, r_253_3, r_258_0, r_258_1, r_258_3, r_258_4, r_258_6, r_258_8, r_265_0, r_265_1, r_265_3, r_265_4, r_265_5, r_0_4, r_0_5, cb, wA_u, wA_k, cd]
  exact hq
end SDA3b
