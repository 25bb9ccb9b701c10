/-! bold -/
/-- the class's scratch alone -/
def sw_fX (σ σ' : sd_Mem) : Prop := (∀ k i, sw_scr k i = false → σ'.1 k i = σ.1 k i) ∧ (∀ k, 271 ≤ k → σ'.1 k = σ.1 k) ∧ σ'.2.2 = σ.2.2
theorem sw_fX.rf {σ : sd_Mem} : sw_fX σ σ := ⟨fun _ _ _ => rfl, fun _ _ => rfl, rfl⟩
theorem sw_fX.tr {σ σ1 σ2 : sd_Mem} (h1 : sw_fX σ σ1) (h2 : sw_fX σ1 σ2) : sw_fX σ σ2 := ⟨fun k i q => (h2.1 k i q).trans (h1.1 k i q), fun k q => (h2.2.1 k q).trans (h1.2.1 k q), h2.2.2.trans h1.2.2⟩
theorem sw_fX.same {σ σ' : sd_Mem} (h : sw_fX σ σ') : sw_same σ σ' := ⟨h.1, fun k i _ => by rw [h.2.2]⟩
theorem sw_f16.fX {σ σ' : sd_Mem} (h : sw_f16 σ σ') : sw_fX σ σ' := ⟨fun k i q => h.scr q, fun k hk => h.1 k (by omega) (by omega) (by omega) (by omega), by rw [h.2.2]⟩
theorem sw_fX.vX {σ σ' : sd_Mem} {U : sw_T} (h : sw_fX σ σ') (hv : sw_vX σ U) (hU : U 2 0 0 ≤ 4) : sw_vX σ' U := hv.fr (fun j hj => h.1 6 j (by
    unfold sw_scr
    rw [decide_eq_false (show ¬ j = 6 from hj)]
    rfl)) (fun k h1 h2 => funext fun i => h.1 k i (by
    have : k = 8 ∨ k = 9 ∨ k = 10 ∨ k = 11 ∨ k = 12 ∨ k = 13 := by omega
    rcases this with rfl | rfl | rfl | rfl | rfl | rfl <;> rfl)) hU
/-- the reference's scratch, its letters, what it has kept -/
def sw_ok3 (e : Nat) : Prop := e < 271 ∨ (272 ≤ e ∧ e ≤ 274) ∨ (276 ≤ e ∧ e ≤ 285) ∨ (287 ≤ e ∧ e ≤ 292) ∨ 298 ≤ e
def sw_fY (σ σ' : sd_Mem) : Prop := (∀ e, sw_ok3 e → σ'.1 e = σ.1 e) ∧ (∀ j, (0 < j ∧ j < 8) ∨ (14 < j ∧ j ≠ 17 ∧ j ≠ 51 ∧ j ≠ 52) → σ'.1 271 j = σ.1 271 j) ∧ ∀ k i, k ≠ 271 → σ'.2.2 k i = σ.2.2 k i
theorem sw_fY.rf {σ : sd_Mem} : sw_fY σ σ := ⟨fun _ _ => rfl, fun _ _ => rfl, fun _ _ _ => rfl⟩
theorem sw_fY.tr {σ σ1 σ2 : sd_Mem} (h1 : sw_fY σ σ1) (h2 : sw_fY σ1 σ2) : sw_fY σ σ2 := ⟨fun e a => (h2.1 e a).trans (h1.1 e a), fun j a => (h2.2.1 j a).trans (h1.2.1 j a), fun k i a => (h2.2.2 k i a).trans (h1.2.2 k i a)⟩
theorem sw_fJ.fY {σ σ' : sd_Mem} (h : sw_fJ σ σ') : sw_fY σ σ' := ⟨fun e he => h.1 e (by unfold sw_ok3 at he; omega) (by unfold sw_ok3 at he; omega) (by unfold sw_ok3 at he; omega) (by unfold sw_ok3 at he; omega) (by unfold sw_ok3 at he; omega), fun j hj => h.2.1 j (by omega), h.2.2⟩
theorem sw_fY.wA {σ σ' : sd_Mem} {k : Nat} {f : Nat → Int32} (h : sw_fY σ σ') (hk : ¬ sw_ok3 k) (h1 : k ≠ 271) : sw_fY σ (sd_wA σ' k f) := ⟨fun e he => by rw [wA_c (by rintro rfl; exact hk he)]; exact h.1 e he, fun j hj => by rw [wA_c (Ne.symm h1)]; exact h.2.1 j hj, h.2.2⟩
theorem sw_fY.wI {σ σ' : sd_Mem} {k i : Nat} {v : Int32} (h : sw_fY σ σ') (hk : ¬ sw_ok3 k) (h1 : k ≠ 271) : sw_fY σ (sd_wI σ' k i v) := ⟨fun e he => by rw [wI_c (by rintro rfl; exact hk he)]; exact h.1 e he, fun j hj => by rw [wI_c (Ne.symm h1)]; exact h.2.1 j hj, h.2.2⟩
theorem sw_fY.wF {σ σ' : sd_Mem} {i : Nat} {v : Int32} (h : sw_fY σ σ') (hi : i = 0 ∨ i = 51 ∨ i = 52) : sw_fY σ (sd_wI σ' 271 i v) := ⟨fun e he => by rw [wI_c (by unfold sw_ok3 at he; omega)]; exact h.1 e he, fun j hj => by rw [wI_o (by omega)]; exact h.2.1 j hj, h.2.2⟩
section SDAI
variable {L : Nat} {xs : Nat → Int32} {fm : Option Nat} {A W : sw_T} {B T : Nat} {V : Nat → sw_T} {im : Nat} {I U : sw_T} {σ σ1 σ2 : sd_Mem} {c : Nat}
theorem sw_fY.mI (h : sw_fY σ σ2) (hm : sw_mI σ A W T V im I) : sw_mI σ2 A W T V im I := hm.fr3 (fun j hj => h.2.1 j (by omega)) (fun k hk => h.1 k (by unfold sw_ok3; omega))
theorem sw_Inv.xy (hI : sw_Inv L xs fm B σ c A W T V im I U) (f1 : sw_fX σ σ1) (f2 : sw_fY σ1 σ2) (hv : sw_vM σ2 U) : sw_Inv L xs fm B σ2 c A W T V im I U := hI.q (fun k i hk q => by rw [f2.1 k (Or.inl hk), f1.1 k i q]) (fun k i hk => by rw [f2.2.2 k i hk, f1.2.2]) (fun j hj => by rw [f2.2.1 j (by omega), f1.2.1 271 (by decide)]) (fun k hk => by rw [f2.1 k (by unfold sw_ok3; omega), f1.2.1 k (by omega)]) hv
theorem sw_fX.vM (h : sw_fX σ σ1) (hv : sw_vM σ U) : sw_vM σ1 U := hv.fr (by rw [h.2.1 271 (by decide)]) (by rw [h.2.1 271 (by decide)]) (fun k hk => h.2.1 k (by omega))
def sw_bfw (W : sw_T) (p w k : Nat) : Nat → Nat := fun i => if i = k then w else W 4 p i
def sw_bv (A W U : sw_T) (p cc k : Nat) : Int32 := sw_wi (nI 9999) (sw_js (sw_w1 A U p) (sw_bfw W p (A 1 p 0) k) (W 2 p 0)) - (if sw_seen A p k = true then nI cc else nI 0)
def sw_bg (v : Nat → Int32) (k : Nat) (s : Option Nat × Int32) : Option Nat × Int32 := if s.1 = none ∨ ¬ v k ≤ s.2 then (some k, v k) else s
theorem sw_bg_lt {v : Nat → Int32} : ∀ n z, (sd_fold (sw_bg v) n 0 (none, nI 0)).1 = some z → z < n
  | 0, z, h => by cases h
  | n + 1, z, h => by
    rw [sd_fold_succ, Nat.zero_add] at h
    have ih := sw_bg_lt (v := v) n
    generalize sd_fold (sw_bg v) n 0 (none, nI 0) = s at h ih
    unfold sw_bg at h
    split at h
    · cases h; omega
    · have := ih z h; omega
theorem c_X_joyWithWant {p k : Nat} (hs : sw_sI σ c A W T V im I) (hvX : sw_vX σ U) (hU : sw_pU U) (hvT : sw_vT L xs fm U) (hp : p < A 0 0 0) (hw : A 1 p 0 < 8) (hk : k < W 2 p 0) : ∃ σ', sw_fX σ σ' ∧ ∀ (d : Nat) Q, sd_Call (sd_E1 L xs fm) (d + 6) y_X_joyWithWant [.ref 0, .int (nI p), .int (nI k)] σ Q ↔ Q (some (.int (sw_wi (nI 9999) (sw_js (sw_w1 A U p) (sw_bfw W p (A 1 p 0) k) (W 2 p 0))))) σ' := by
  have h := hs.1
  have hC := h.2.1
  have hA := h.2.2.2.2.2.1
  have hW := h.2.2.2.2.2.2
  have hcc := hC.2.2.2.2.2.2.2.2.2.2.2
  have bP := hA.2.1
  have hc0 : σ.2.2 0 4 = some c := h.1
  have hz := hW.2.2.1 p hp
  have hf := hW.2.2.2.1
  have w5 := h.2.2.2.2.1.2.1 p hp
  have x1 := h.2.2.1.2.2.1 p hp
  obtain ⟨k0, k1, k2, k3, k4, k5, k6, k7, k8, r0, r1, r2, r3, r4, k9⟩ := hC.all (L := L) (xs := xs) (fm := fm)
  obtain ⟨s0, s1, s2, s3, s4, s5, s6, s7, s8, sr0, sr1, sr2, sr3⟩ := k9.all (L := L) (xs := xs) (fm := fm)
  obtain ⟨w50, w51, w52⟩ := w5
  simp only [Nat.add_assoc, Nat.reduceAdd] at s1 s2 s3 s4 s5 s6 s7 s8 sr0 sr1 sr2 sr3 w50 w51 w52
  obtain ⟨τ, hτ⟩ : ∃ τ, τ = sd_wI (sd_wA σ 252 (va_cpy (σ.1 (c + 6)) (σ.1 252) (p * 12) 0 (W 2 p 0))) 252 k (nI (A 1 p 0)) := ⟨_, rfl⟩
  have hτc : ∀ e, e ≠ 252 → τ.1 e = σ.1 e := fun e he => by rw [hτ, wI_c he, wA_c he]
  have fτ : sw_fX σ τ := ⟨fun k i q => by rw [hτc k (by rintro rfl; cases q)], fun k hk => hτc k (by omega), by rw [hτ]; rfl⟩
  have hsτ := hs.same fτ.same
  obtain ⟨σ', g1, g2⟩ := c_Tastes_joyOf (L := L) (xs := xs) (fm := fm) (σ := τ) (a := 252) (g := 0) (m := W 2 p 0) (p := p) (f := sw_bfw W p (A 1 p 0) k) hC hsτ.1.2.2.1 hA (fτ.vX hvX hU.2.2.1) hU (fun t ht => (hvT t ht).2) t_252 (by rw [n_252]; omega) (by decide) (by decide) hz.2.1 (fun i hi => by
    rw [hτ, wI_1, Nat.zero_add, wA_k]
    unfold sw_bfw
    by_cases hik : i = k
    · rw [if_pos ⟨rfl, hik⟩, if_pos hik]
    · rw [if_neg (by omega), if_neg hik, pk_cpy_in (Nat.zero_le _) (by omega), Nat.sub_zero]
      exact w52 i hi) (fun i => by
    unfold sw_bfw
    split
    · exact hw
    · exact hf p i)
  refine ⟨σ', fτ.tr g1.fX, fun d Q => sd_Call.iff (fun Q hq => ?_) Q⟩
  have g2' := fun Q => g2 d Q
  have hcτ : τ.2.2 0 4 = some c := by rw [hτ]; exact hc0
  have x1' : (sd_wA σ 252 (va_cpy (σ.1 (c + 6)) (σ.1 252) (p * 12) 0 (W 2 p 0))).1 (c + 1) p = nI (A 1 p 0) := by rw [wA_c (by omega)]; exact x1
  have h252 : sd_ln 252 = 12 := n_252
  rw [sd_Call.start (ls := [.ref 0, .int (nI p), .int (nI k), sd_un]) m_X_joyWithWant (by decide) (Nat.le_of_ble_eq_true rfl) rfl]
  simp (disch := first | exact sd_cr | exact sd_ci | exact sd_cu | exact sd_cl9 | assumption | omega | exact t_259 | exact t_260 | exact t_261 | exact t_262 | exact t_263 | exact t_264 | exact t_254 | exact t_255 | exact t_256 | exact t_257 | exact t_266 | exact t_267 | exact t_268 | exact t_269 | exact t_270 | exact t_252 | exact t_240 | exact t_246 | exact t_2 | exact t_4 | exact t_5 | exact t_13 | exact t_14 | exact t_15 | exact t_16 | exact Or.inl t_39 | exact Or.inr t_7) only [z_X_joyWithWant_0, z_X_joyWithWant_1, z_X_joyWithWant_4, z_X_joyWithWant_7, z_X_joyWithWant_10, z_X_joyWithWant_11, z_X_joyWithWant_12, z_X_joyWithWant_13, z_X_joyWithWant_14, z_X_joyWithWant_17, z_X_joyWithWant_20, z_X_joyWithWant_23, z_X_joyWithWant_24, z_X_joyWithWant_26, z_X_joyWithWant_27, z_X_joyWithWant_28, z_X_joyWithWant_31, z_X_joyWithWant_32, z_X_joyWithWant_33, z_X_joyWithWant_36, z_X_joyWithWant_37, z_X_joyWithWant_40, z_X_joyWithWant_41, z_X_joyWithWant_42, z_X_joyWithWant_45, z_X_joyWithWant_48, z_X_joyWithWant_49, z_X_joyWithWant_50, false_and, and_false, if_true, if_false, Decidable.not_not, sd_ci, sd_cr, sd_cl9, sd_cu, sd_cat0, sd_cat1, sd_rfS, sd_n01, sd_n11, sd_n1, sd_n10, sd_n00, sd_b01, sd_b0, true_and, and_true, and_self, not_true_eq_false, not_false_eq_true, false_implies, true_implies, implies_true, or_true, true_or, or_false, false_or, Option.toList_some, Option.toList_none, List.cons_append, List.nil_append, Nat.reduceAdd, Nat.reduceLeDiff, nz_sub, nz_lt0, nz_ge0, nz_le0, nz_gt0, nz_eq0, nz_eq1, nz_lt, nz_le, nz_eq, nz_cl, nz_in, nz_add, nz_mul, nz_m1, nz_m1', Nat.reduceMul, Nat.reduceSub, Nat.reduceLT, Nat.reduceEqDiff, not_false_eq_true, false_implies, true_implies, true_and, and_true, h_0, h_1, t_2, n_2, h_3, t_4, n_4, t_5, n_5, h_6, t_7, n_7, t_8, n_8, t_9, n_9, t_10, n_10, t_11, n_11, t_12, n_12, t_13, n_13, t_14, n_14, t_15, n_15, t_16, n_16, h_17, h_18, t_19, n_19, t_20, n_20, t_21, n_21, t_22, n_22, h_28, t_29, n_29, t_30, n_30, t_31, n_31, t_32, n_32, h_38, t_39, n_39, t_240, n_240, t_246, n_246, t_252, n_252, h_253, t_254, n_254, t_255, n_255, t_256, n_256, t_257, n_257, h_258, t_259, n_259, t_260, n_260, t_261, n_261, t_262, n_262, t_263, n_263, t_264, n_264, h_265, t_266, n_266, t_267, n_267, t_268, n_268, t_269, n_269, t_270, n_270, r_0_0, r_0_1, r_0_2, r_0_3, r_0_6, r_0_7, r_0_8, r_0_9, r_0_11, r_0_12, r_0_13, r_0_14, r_0_15, r_1_0, r_3_0, r_3_1, r_3_2, r_6_0, r_6_1, r_6_4, r_6_5, r_6_7, r_7_0, r_7_1, r_7_2, r_7_3, r_7_4, r_17_0, r_17_1, r_18_1, r_18_2, r_18_3, r_18_4, r_18_6, r_28_1, r_28_2, r_28_3, r_28_4, r_28_6, r_38_0, r_253_0, r_253_1, r_253_2, r_253_3, r_258_0, r_258_1, r_258_3, r_258_4, r_258_6, r_258_8, r_265_0, r_265_1, r_265_3, r_265_4, r_265_5, r_0_4, r_0_5, hc0, k0, k1, k2, r0, r4, s0, s1, s2, s3, s4, sr0, sr1, w50, x1', wA_2, Nat.zero_add]
  rw [← hτ]
  simp (disch := first | exact sd_cr | exact sd_ci | exact sd_cu | exact sd_cl9 | assumption | omega | exact t_259 | exact t_260 | exact t_261 | exact t_262 | exact t_263 | exact t_264 | exact t_254 | exact t_255 | exact t_256 | exact t_257 | exact t_266 | exact t_267 | exact t_268 | exact t_269 | exact t_270 | exact t_252 | exact t_240 | exact t_246 | exact t_2 | exact t_4 | exact t_5 | exact t_13 | exact t_14 | exact t_15 | exact t_16 | exact Or.inl t_39 | exact Or.inr t_7) only [z_X_joyWithWant_51, z_X_joyWithWant_52, z_X_joyWithWant_55, z_X_joyWithWant_56, z_X_joyWithWant_59, z_X_joyWithWant_60, z_X_joyWithWant_61, z_X_joyWithWant_64, z_X_joyWithWant_65, z_X_joyWithWant_66, z_X_joyWithWant_69, false_and, and_false, if_true, if_false, Decidable.not_not, sd_ci, sd_cr, sd_cl9, sd_cu, sd_cat0, sd_cat1, sd_rfS, sd_n01, sd_n11, sd_n1, sd_n10, sd_n00, sd_b01, sd_b0, true_and, and_true, and_self, not_true_eq_false, not_false_eq_true, false_implies, true_implies, implies_true, or_true, true_or, or_false, false_or, Option.toList_some, Option.toList_none, List.cons_append, List.nil_append, Nat.reduceAdd, Nat.reduceLeDiff, nz_sub, nz_lt0, nz_ge0, nz_le0, nz_gt0, nz_eq0, nz_eq1, nz_lt, nz_le, nz_eq, nz_cl, nz_in, nz_add, nz_mul, nz_m1, nz_m1', Nat.reduceMul, Nat.reduceSub, Nat.reduceLT, Nat.reduceEqDiff, not_false_eq_true, false_implies, true_implies, true_and, and_true, h_0, h_1, t_2, n_2, h_3, t_4, n_4, t_5, n_5, h_6, t_7, n_7, t_8, n_8, t_9, n_9, t_10, n_10, t_11, n_11, t_12, n_12, t_13, n_13, t_14, n_14, t_15, n_15, t_16, n_16, h_17, h_18, t_19, n_19, t_20, n_20, t_21, n_21, t_22, n_22, h_28, t_29, n_29, t_30, n_30, t_31, n_31, t_32, n_32, h_38, t_39, n_39, t_240, n_240, t_246, n_246, t_252, n_252, h_253, t_254, n_254, t_255, n_255, t_256, n_256, t_257, n_257, h_258, t_259, n_259, t_260, n_260, t_261, n_261, t_262, n_262, t_263, n_263, t_264, n_264, h_265, t_266, n_266, t_267, n_267, t_268, n_268, t_269, n_269, t_270, n_270, r_0_0, r_0_1, r_0_2, r_0_3, r_0_6, r_0_7, r_0_8, r_0_9, r_0_11, r_0_12, r_0_13, r_0_14, r_0_15, r_1_0, r_3_0, r_3_1, r_3_2, r_6_0, r_6_1, r_6_4, r_6_5, r_6_7, r_7_0, r_7_1, r_7_2, r_7_3, r_7_4, r_17_0, r_17_1, r_18_1, r_18_2, r_18_3, r_18_4, r_18_6, r_28_1, r_28_2, r_28_3, r_28_4, r_28_6, r_38_0, r_253_0, r_253_1, r_253_2, r_253_3, r_258_0, r_258_1, r_258_3, r_258_4, r_258_6, r_258_8, r_265_0, r_265_1, r_265_3, r_265_4, r_265_5, r_0_4, r_0_5, hcτ, g2']
  ((repeat' first | (refine And.intro ?_ ?_) | (intro _)) <;> first | omega | exact hq)
end SDAI
