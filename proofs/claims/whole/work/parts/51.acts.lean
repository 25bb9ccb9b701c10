/-! the states ahead of the latest acts -/
theorem sw_mod {a b : Nat} : a - a / b * b = a % b := by
  rw [Nat.mod_eq_sub_div_mul]
/-- a row of the reference, its log too -/
def sw_Mf (g : Nat → Int32) (P : Nat) (W : sw_T) : Prop := g 142 = nI (W 0 0 0) ∧ (∀ v, v < W 0 0 0 → ∀ j, j < 6 → g (70 + 6 * v + j) = nI (W 1 v j)) ∧ (∀ p, p < P → g (14 * p) = nI (W 3 p 0) ∧ g (14 * p + 1) = nI (W 2 p 0) ∧ ∀ i, i < W 2 p 0 → g (14 * p + 2 + i) = nI (W 4 p i)) ∧ g 143 = nI (W 5 0 0) ∧ g 144 = nI (min (W 5 0 0) 60) ∧ ∀ i, i < min (W 5 0 0) 60 → ∀ j, j < 4 → g (145 + 4 * (min (W 5 0 0) 60 - 1 - i) + j) = nI (W 6 i j)
/-- the diary holds the log of a state -/
def sw_dy (σ : sd_Mem) (k : Nat) (W : sw_T) : Prop := ∀ i, i < min (W 5 0 0) 60 → ∀ j, j < 4 → σ.1 k ((W 5 0 0 - 1 - i) % 128 * 4 + j) = nI (W 6 i j)
/-- the class's past: T states; the j-th from the oldest is V j -/
def sw_P (σ : sd_Mem) (P T : Nat) (V : Nat → sw_T) : Prop := T ≤ 40 ∧ ∃ nx, nx < 40 ∧ σ.1 38 1 = nI nx ∧ σ.1 38 2 = nI T ∧ ∀ j, j < T → sw_S σ (40 + 5 * ((nx + 40 - T + j) % 40)) P (V j)
def sw_PM (σ : sd_Mem) (P T : Nat) (V : Nat → sw_T) : Prop := T ≤ 40 ∧ σ.1 271 43 = nI T ∧ ∀ j, j < T → sw_Mf (fun i => σ.1 290 (385 * j + i)) P (V j)
def sw_psh (T : Nat) (V : Nat → sw_T) (W : sw_T) : Nat → sw_T := fun j => if T < 40 then (if j = T then W else V j) else (if j = 39 then W else V (j + 1))
def sw_psn (T : Nat) : Nat := if T < 40 then T + 1 else 40
section SD51
variable {L : Nat} {xs : Nat → Int32} {fm : Option Nat} {A W : sw_T} {σ : sd_Mem} {c d P T : Nat} {V : Nat → sw_T} {Q : Option Value → sd_Mem → Prop}
theorem sw_r39 {j : Nat} (h : j < 40) : va_rf (sd_gR (sd_E1 L xs fm) σ 39 j) = .ref (40 + 5 * j) := sd_gRft (by decide) (sd_Sft j h)
theorem c_Past_keep {k : Nat} (hk : sd_isS k) (hk2 : k = 23 ∨ k = 33) (hP : sw_P σ P T V) (hS : sw_S σ k P W) (hW : sw_OK P W) : ∃ σ', (∀ (d : Nat) Q, sd_Call (sd_E1 L xs fm) (d + 2) y_Past_keep [.ref 38, .ref k] σ Q ↔ Q none σ') ∧ sw_P σ' P (sw_psn T) (sw_psh T V W) ∧ (∀ e, (e < 38 ∨ 240 ≤ e) → σ'.1 e = σ.1 e) ∧ σ'.2 = σ.2 := by
  obtain ⟨hT, nx, hn, n1, n2, hV⟩ := hP
  have hs : sd_isS (40 + 5 * nx) := sd_Sp nx hn
  obtain ⟨e1, e2, e3, e4, e5, e6, e7, e8⟩ := sw_cp_all (σ := σ) (k := 40 + 5 * nx) (o := k) (by omega)
  have g1 : (sw_cp σ (40 + 5 * nx) k).1 38 = σ.1 38 := e7 38 (by omega)
  have hcp := sw_cp_S (k := 40 + 5 * nx) (o := k) (by omega) hS hW
  have hsh : sd_sh (40 + 5 * nx) = .inl 5 := hs.1
  by_cases hT4 : T < 40
  · refine ⟨sd_wI (sd_wI (sw_cp σ (40 + 5 * nx) k) 38 1 (nI ((nx + 1) % 40))) 38 2 (nI (T + 1)), fun d Q => sd_Call.iff (fun Q hq => ?_) Q, ⟨by unfold sw_psn; split <;> omega, (nx + 1) % 40, Nat.mod_lt _ (by decide), ?_, ?_, fun j hj => ?_⟩, fun e he => ?_, ?_⟩
    · rw [sd_Call.start (ls := [.ref 38, .ref k]) m_Past_keep (by decide) (Nat.le_of_ble_eq_true rfl) rfl]
      simp (disch := first | exact sd_cr | exact sd_ci | exact sd_cu | exact sd_cl9 | assumption | omega | exact t_259 | exact t_260 | exact t_261 | exact t_262 | exact t_263 | exact t_264 | exact t_254 | exact t_255 | exact t_256 | exact t_257 | exact t_266 | exact t_267 | exact t_268 | exact t_269 | exact t_270 | exact t_252 | exact t_240 | exact t_246 | exact t_2 | exact t_4 | exact t_5 | exact t_13 | exact t_14 | exact t_15 | exact t_16 | exact Or.inl t_39 | exact Or.inr t_7) only [z_Past_keep_0, z_Past_keep_1, z_Past_keep_4, z_Past_keep_5, z_Past_keep_8, z_Past_keep_9, z_Past_keep_10, z_Past_keep_13, z_Past_keep_14, z_Past_keep_15, z_Past_keep_18, z_Past_keep_19, z_Past_keep_20, z_Past_keep_22, z_Past_keep_23, z_Past_keep_26, z_Past_keep_27, z_Past_keep_30, z_Past_keep_32, z_Past_keep_35, z_Past_keep_36, z_Past_keep_37, z_Past_keep_40, z_Past_keep_41, z_Past_keep_42, z_Past_keep_45, false_and, and_false, if_true, if_false, Decidable.not_not, sd_ci, sd_cr, sd_cl9, sd_cu, sd_cat0, sd_cat1, sd_rfS, sd_n01, sd_n11, sd_n1, sd_n10, sd_n00, sd_b01, sd_b0, true_and, and_true, and_self, not_true_eq_false, not_false_eq_true, false_implies, true_implies, implies_true, or_true, true_or, or_false, false_or, Option.toList_some, Option.toList_none, List.cons_append, List.nil_append, Nat.reduceAdd, Nat.reduceLeDiff, nz_sub, nz_lt0, nz_ge0, nz_le0, nz_gt0, nz_eq0, nz_eq1, nz_lt, nz_le, nz_eq, nz_cl, nz_in, nz_add, nz_mul, nz_m1, nz_m1', Nat.reduceMul, Nat.reduceSub, Nat.reduceLT, Nat.reduceEqDiff, not_false_eq_true, false_implies, true_implies, true_and, and_true, h_0, h_1, t_2, n_2, h_3, t_4, n_4, t_5, n_5, h_6, t_7, n_7, t_8, n_8, t_9, n_9, t_10, n_10, t_11, n_11, t_12, n_12, t_13, n_13, t_14, n_14, t_15, n_15, t_16, n_16, h_17, h_18, t_19, n_19, t_20, n_20, t_21, n_21, t_22, n_22, h_28, t_29, n_29, t_30, n_30, t_31, n_31, t_32, n_32, h_38, t_39, n_39, t_240, n_240, t_246, n_246, t_252, n_252, h_253, t_254, n_254, t_255, n_255, t_256, n_256, t_257, n_257, h_258, t_259, n_259, t_260, n_260, t_261, n_261, t_262, n_262, t_263, n_263, t_264, n_264, h_265, t_266, n_266, t_267, n_267, t_268, n_268, t_269, n_269, t_270, n_270, r_0_0, r_0_1, r_0_2, r_0_3, r_0_6, r_0_7, r_0_8, r_0_9, r_0_11, r_0_12, r_0_13, r_0_14, r_0_15, r_1_0, r_3_0, r_3_1, r_3_2, r_6_0, r_6_1, r_6_4, r_6_5, r_6_7, r_7_0, r_7_1, r_7_2, r_7_3, r_7_4, r_17_0, r_17_1, r_18_1, r_18_2, r_18_3, r_18_4, r_18_6, r_28_1, r_28_2, r_28_3, r_28_4, r_28_6, r_38_0, r_253_0, r_253_1, r_253_2, r_253_3, r_258_0, r_258_1, r_258_3, r_258_4, r_258_6, r_258_8, r_265_0, r_265_1, r_265_3, r_265_4, r_265_5, r_0_4, r_0_5, n1, sw_r39 hn, hsh, c_State_copyFrom hs hk, g1, n2, nz_div, sw_mod, wI_o, wI_k, wI_c, ne_eq, not_false_eq_true, sd_rfS]
      ((repeat' first | (refine And.intro ?_ ?_) | (intro _)) <;> first | omega | exact hq)
    · rw [wI_o (by decide), wI_k]
    · rw [wI_k]; unfold sw_psn; rw [if_pos hT4]
    · unfold sw_psn at hj ⊢
      unfold sw_psh
      rw [if_pos hT4] at hj ⊢
      rw [if_pos hT4]
      have hpos : ((nx + 1) % 40 + 40 - (T + 1) + j) % 40 = (nx + 40 - T + j) % 40 := by omega
      rw [hpos]
      refine sw_S.fr (σ := sw_cp σ (40 + 5 * nx) k) ?_ (fun i hi => by rw [wI_c (by omega), wI_c (by omega)])
      by_cases hjT : j = T
      · rw [if_pos hjT]
        have : (nx + 40 - T + j) % 40 = nx := by omega
        rw [this]
        exact hcp
      · rw [if_neg hjT]
        have : (nx + 40 - T + j) % 40 ≠ nx := by omega
        exact (hV j (by omega)).fr (fun i hi => e7 _ (by omega))
    · rw [wI_c (by omega), wI_c (by omega), e7 _ (by omega)]
    · exact e8
  · have hT40 : T = 40 := by omega
    refine ⟨sd_wI (sw_cp σ (40 + 5 * nx) k) 38 1 (nI ((nx + 1) % 40)), fun d Q => sd_Call.iff (fun Q hq => ?_) Q, ⟨by unfold sw_psn; split <;> omega, (nx + 1) % 40, Nat.mod_lt _ (by decide), ?_, ?_, fun j hj => ?_⟩, fun e he => ?_, ?_⟩
    · rw [sd_Call.start (ls := [.ref 38, .ref k]) m_Past_keep (by decide) (Nat.le_of_ble_eq_true rfl) rfl]
      simp (disch := first | exact sd_cr | exact sd_ci | exact sd_cu | exact sd_cl9 | assumption | omega | exact t_259 | exact t_260 | exact t_261 | exact t_262 | exact t_263 | exact t_264 | exact t_254 | exact t_255 | exact t_256 | exact t_257 | exact t_266 | exact t_267 | exact t_268 | exact t_269 | exact t_270 | exact t_252 | exact t_240 | exact t_246 | exact t_2 | exact t_4 | exact t_5 | exact t_13 | exact t_14 | exact t_15 | exact t_16 | exact Or.inl t_39 | exact Or.inr t_7) only [z_Past_keep_0, z_Past_keep_1, z_Past_keep_4, z_Past_keep_5, z_Past_keep_8, z_Past_keep_9, z_Past_keep_10, z_Past_keep_13, z_Past_keep_14, z_Past_keep_15, z_Past_keep_18, z_Past_keep_19, z_Past_keep_20, z_Past_keep_22, z_Past_keep_23, z_Past_keep_26, z_Past_keep_27, z_Past_keep_30, z_Past_keep_32, z_Past_keep_35, z_Past_keep_36, z_Past_keep_37, z_Past_keep_40, z_Past_keep_41, z_Past_keep_42, z_Past_keep_45, false_and, and_false, if_true, if_false, Decidable.not_not, sd_ci, sd_cr, sd_cl9, sd_cu, sd_cat0, sd_cat1, sd_rfS, sd_n01, sd_n11, sd_n1, sd_n10, sd_n00, sd_b01, sd_b0, true_and, and_true, and_self, not_true_eq_false, not_false_eq_true, false_implies, true_implies, implies_true, or_true, true_or, or_false, false_or, Option.toList_some, Option.toList_none, List.cons_append, List.nil_append, Nat.reduceAdd, Nat.reduceLeDiff, nz_sub, nz_lt0, nz_ge0, nz_le0, nz_gt0, nz_eq0, nz_eq1, nz_lt, nz_le, nz_eq, nz_cl, nz_in, nz_add, nz_mul, nz_m1, nz_m1', Nat.reduceMul, Nat.reduceSub, Nat.reduceLT, Nat.reduceEqDiff, not_false_eq_true, false_implies, true_implies, true_and, and_true, h_0, h_1, t_2, n_2, h_3, t_4, n_4, t_5, n_5, h_6, t_7, n_7, t_8, n_8, t_9, n_9, t_10, n_10, t_11, n_11, t_12, n_12, t_13, n_13, t_14, n_14, t_15, n_15, t_16, n_16, h_17, h_18, t_19, n_19, t_20, n_20, t_21, n_21, t_22, n_22, h_28, t_29, n_29, t_30, n_30, t_31, n_31, t_32, n_32, h_38, t_39, n_39, t_240, n_240, t_246, n_246, t_252, n_252, h_253, t_254, n_254, t_255, n_255, t_256, n_256, t_257, n_257, h_258, t_259, n_259, t_260, n_260, t_261, n_261, t_262, n_262, t_263, n_263, t_264, n_264, h_265, t_266, n_266, t_267, n_267, t_268, n_268, t_269, n_269, t_270, n_270, r_0_0, r_0_1, r_0_2, r_0_3, r_0_6, r_0_7, r_0_8, r_0_9, r_0_11, r_0_12, r_0_13, r_0_14, r_0_15, r_1_0, r_3_0, r_3_1, r_3_2, r_6_0, r_6_1, r_6_4, r_6_5, r_6_7, r_7_0, r_7_1, r_7_2, r_7_3, r_7_4, r_17_0, r_17_1, r_18_1, r_18_2, r_18_3, r_18_4, r_18_6, r_28_1, r_28_2, r_28_3, r_28_4, r_28_6, r_38_0, r_253_0, r_253_1, r_253_2, r_253_3, r_258_0, r_258_1, r_258_3, r_258_4, r_258_6, r_258_8, r_265_0, r_265_1, r_265_3, r_265_4, r_265_5, r_0_4, r_0_5, n1, sw_r39 hn, hsh, c_State_copyFrom hs hk, g1, n2, nz_div, sw_mod, wI_o, wI_k, wI_c, ne_eq, not_false_eq_true, sd_rfS]
      ((repeat' first | (refine And.intro ?_ ?_) | (intro _)) <;> first | omega | exact hq)
    · rw [wI_k]
    · rw [wI_o (by decide), g1, n2]; unfold sw_psn; rw [if_neg hT4, hT40]
    · unfold sw_psn at hj ⊢
      unfold sw_psh
      rw [if_neg hT4] at hj ⊢
      rw [if_neg hT4]
      refine sw_S.fr (σ := sw_cp σ (40 + 5 * nx) k) ?_ (fun i hi => by rw [wI_c (by omega)])
      by_cases hjT : j = 39
      · rw [if_pos hjT]
        have : ((nx + 1) % 40 + 40 - 40 + j) % 40 = nx := by omega
        rw [this]
        exact hcp
      · rw [if_neg hjT]
        have h9 : ((nx + 1) % 40 + 40 - 40 + j) % 40 = (nx + 40 - T + (j + 1)) % 40 := by omega
        rw [h9]
        have : (nx + 40 - T + (j + 1)) % 40 ≠ nx := by omega
        exact (hV (j + 1) (by omega)).fr (fun i hi => e7 _ (by omega))
    · rw [wI_c (by omega), e7 _ (by omega)]
    · exact e8
theorem c_Past_bringBack {k : Nat} (hk : sd_isS k) (hk2 : k = 23 ∨ k = 33) (hP : sw_P σ P T V) (hW : ∀ j, j < T → sw_OK P (V j)) (hT0 : 0 < T) : ∃ σ', (∀ (d : Nat) Q, sd_Call (sd_E1 L xs fm) (d + 2) y_Past_bringBack [.ref 38, .ref k] σ Q ↔ Q (some (.int (nI 1))) σ') ∧ sw_P σ' P (T - 1) V ∧ sw_S σ' k P (V (T - 1)) ∧ (∀ e, e ≠ 38 → (e < k ∨ k + 5 ≤ e) → σ'.1 e = σ.1 e) ∧ σ'.2 = σ.2 := by
  obtain ⟨hT, nx, hn, n1, n2, hV⟩ := hP
  have hm : (nx + 40 - 1) % 40 < 40 := Nat.mod_lt _ (by decide)
  have hs : sd_isS (40 + 5 * ((nx + 40 - 1) % 40)) := sd_Sp _ hm
  have hsh : sd_sh k = .inl 5 := hk.1
  have hne : ∀ (σ : sd_Mem), k ≠ 38 := fun _ => by omega
  obtain ⟨e1, e2, e3, e4, e5, e6, e7, e8⟩ := sw_cp_all (σ := sd_wI (sd_wI σ 38 2 (nI (T - 1))) 38 1 (nI ((nx + 40 - 1) % 40))) (k := k) (o := 40 + 5 * ((nx + 40 - 1) % 40)) (by omega)
  refine ⟨sw_cp (sd_wI (sd_wI σ 38 2 (nI (T - 1))) 38 1 (nI ((nx + 40 - 1) % 40))) k (40 + 5 * ((nx + 40 - 1) % 40)), fun d Q => sd_Call.iff (fun Q hq => ?_) Q, ⟨by omega, (nx + 40 - 1) % 40, hm, ?_, ?_, fun j hj => ?_⟩, ?_, fun e h1 h2 => ?_, ?_⟩
  · rw [sd_Call.start (ls := [.ref 38, .ref k]) m_Past_bringBack (by decide) (Nat.le_of_ble_eq_true rfl) rfl]
    simp (disch := first | exact sd_cr | exact sd_ci | exact sd_cu | exact sd_cl9 | assumption | omega | exact t_259 | exact t_260 | exact t_261 | exact t_262 | exact t_263 | exact t_264 | exact t_254 | exact t_255 | exact t_256 | exact t_257 | exact t_266 | exact t_267 | exact t_268 | exact t_269 | exact t_270 | exact t_252 | exact t_240 | exact t_246 | exact t_2 | exact t_4 | exact t_5 | exact t_13 | exact t_14 | exact t_15 | exact t_16 | exact Or.inl t_39 | exact Or.inr t_7) only [z_Past_bringBack_0, z_Past_bringBack_1, z_Past_bringBack_4, z_Past_bringBack_7, z_Past_bringBack_8, z_Past_bringBack_9, z_Past_bringBack_10, z_Past_bringBack_11, z_Past_bringBack_14, z_Past_bringBack_15, z_Past_bringBack_16, z_Past_bringBack_19, z_Past_bringBack_20, z_Past_bringBack_21, z_Past_bringBack_24, z_Past_bringBack_26, z_Past_bringBack_27, z_Past_bringBack_28, z_Past_bringBack_29, z_Past_bringBack_31, z_Past_bringBack_32, z_Past_bringBack_35, z_Past_bringBack_36, z_Past_bringBack_37, z_Past_bringBack_40, z_Past_bringBack_41, z_Past_bringBack_44, z_Past_bringBack_45, z_Past_bringBack_48, z_Past_bringBack_49, false_and, and_false, if_true, if_false, Decidable.not_not, sd_ci, sd_cr, sd_cl9, sd_cu, sd_cat0, sd_cat1, sd_rfS, sd_n01, sd_n11, sd_n1, sd_n10, sd_n00, sd_b01, sd_b0, true_and, and_true, and_self, not_true_eq_false, not_false_eq_true, false_implies, true_implies, implies_true, or_true, true_or, or_false, false_or, Option.toList_some, Option.toList_none, List.cons_append, List.nil_append, Nat.reduceAdd, Nat.reduceLeDiff, nz_sub, nz_lt0, nz_ge0, nz_le0, nz_gt0, nz_eq0, nz_eq1, nz_lt, nz_le, nz_eq, nz_cl, nz_in, nz_add, nz_mul, nz_m1, nz_m1', Nat.reduceMul, Nat.reduceSub, Nat.reduceLT, Nat.reduceEqDiff, not_false_eq_true, false_implies, true_implies, true_and, and_true, h_0, h_1, t_2, n_2, h_3, t_4, n_4, t_5, n_5, h_6, t_7, n_7, t_8, n_8, t_9, n_9, t_10, n_10, t_11, n_11, t_12, n_12, t_13, n_13, t_14, n_14, t_15, n_15, t_16, n_16, h_17, h_18, t_19, n_19, t_20, n_20, t_21, n_21, t_22, n_22, h_28, t_29, n_29, t_30, n_30, t_31, n_31, t_32, n_32, h_38, t_39, n_39, t_240, n_240, t_246, n_246, t_252, n_252, h_253, t_254, n_254, t_255, n_255, t_256, n_256, t_257, n_257, h_258, t_259, n_259, t_260, n_260, t_261, n_261, t_262, n_262, t_263, n_263, t_264, n_264, h_265, t_266, n_266, t_267, n_267, t_268, n_268, t_269, n_269, t_270, n_270, r_0_0, r_0_1, r_0_2, r_0_3, r_0_6, r_0_7, r_0_8, r_0_9, r_0_11, r_0_12, r_0_13, r_0_14, r_0_15, r_1_0, r_3_0, r_3_1, r_3_2, r_6_0, r_6_1, r_6_4, r_6_5, r_6_7, r_7_0, r_7_1, r_7_2, r_7_3, r_7_4, r_17_0, r_17_1, r_18_1, r_18_2, r_18_3, r_18_4, r_18_6, r_28_1, r_28_2, r_28_3, r_28_4, r_28_6, r_38_0, r_253_0, r_253_1, r_253_2, r_253_3, r_258_0, r_258_1, r_258_3, r_258_4, r_258_6, r_258_8, r_265_0, r_265_1, r_265_3, r_265_4, r_265_5, r_0_4, r_0_5, n1, sw_r39 hm, hsh, c_State_copyFrom hk hs, n2, nz_div, sw_mod, wI_o, wI_k, wI_c, ne_eq, not_false_eq_true, sd_rfS]
    ((repeat' first | (refine And.intro ?_ ?_) | (intro _)) <;> first | omega | exact hq)
  · rw [e7 38 (by omega), wI_k]
  · rw [e7 38 (by omega), wI_o (by decide), wI_k]
  · have h9 : ((nx + 40 - 1) % 40 + 40 - (T - 1) + j) % 40 = (nx + 40 - T + j) % 40 := by omega
    rw [h9]
    exact (hV j (by omega)).fr (fun i hi => by rw [e7 _ (by omega), wI_c (by omega), wI_c (by omega)])
  · have h9 : (nx + 40 - 1) % 40 = (nx + 40 - T + (T - 1)) % 40 := by omega
    refine sw_cp_S (by omega) ?_ (hW (T - 1) (by omega))
    have := hV (T - 1) (by omega)
    rw [← h9] at this
    exact this.fr (fun i hi => by rw [wI_c (by omega), wI_c (by omega)])
  · rw [e7 _ h2, wI_c h1, wI_c h1]
  · exact e8
theorem c_Past_bringBack0 {k : Nat} (hP : sw_P σ P 0 V) : sd_Call (sd_E1 L xs fm) (d + 2) y_Past_bringBack [.ref 38, .ref k] σ Q ↔ Q (some (.int (nI 0))) σ := by
  refine sd_Call.iff (fun Q hq => ?_) Q
  obtain ⟨hT, nx, hn, n1, n2, hV⟩ := hP
  rw [sd_Call.start (ls := [.ref 38, .ref k]) m_Past_bringBack (by decide) (Nat.le_of_ble_eq_true rfl) rfl]
  simp (disch := first | exact sd_cr | exact sd_ci | exact sd_cu | exact sd_cl9 | assumption | omega | exact t_259 | exact t_260 | exact t_261 | exact t_262 | exact t_263 | exact t_264 | exact t_254 | exact t_255 | exact t_256 | exact t_257 | exact t_266 | exact t_267 | exact t_268 | exact t_269 | exact t_270 | exact t_252 | exact t_240 | exact t_246 | exact t_2 | exact t_4 | exact t_5 | exact t_13 | exact t_14 | exact t_15 | exact t_16 | exact Or.inl t_39 | exact Or.inr t_7) only [z_Past_bringBack_0, z_Past_bringBack_1, z_Past_bringBack_4, z_Past_bringBack_7, z_Past_bringBack_8, z_Past_bringBack_9, z_Past_bringBack_10, z_Past_bringBack_11, z_Past_bringBack_14, z_Past_bringBack_15, z_Past_bringBack_16, z_Past_bringBack_19, z_Past_bringBack_20, z_Past_bringBack_21, z_Past_bringBack_24, z_Past_bringBack_26, z_Past_bringBack_27, z_Past_bringBack_28, z_Past_bringBack_29, z_Past_bringBack_31, z_Past_bringBack_32, z_Past_bringBack_35, z_Past_bringBack_36, z_Past_bringBack_37, z_Past_bringBack_40, z_Past_bringBack_41, z_Past_bringBack_44, z_Past_bringBack_45, z_Past_bringBack_48, z_Past_bringBack_49, false_and, and_false, if_true, if_false, Decidable.not_not, sd_ci, sd_cr, sd_cl9, sd_cu, sd_cat0, sd_cat1, sd_rfS, sd_n01, sd_n11, sd_n1, sd_n10, sd_n00, sd_b01, sd_b0, true_and, and_true, and_self, not_true_eq_false, not_false_eq_true, false_implies, true_implies, implies_true, or_true, true_or, or_false, false_or, Option.toList_some, Option.toList_none, List.cons_append, List.nil_append, Nat.reduceAdd, Nat.reduceLeDiff, nz_sub, nz_lt0, nz_ge0, nz_le0, nz_gt0, nz_eq0, nz_eq1, nz_lt, nz_le, nz_eq, nz_cl, nz_in, nz_add, nz_mul, nz_m1, nz_m1', Nat.reduceMul, Nat.reduceSub, Nat.reduceLT, Nat.reduceEqDiff, not_false_eq_true, false_implies, true_implies, true_and, and_true, h_0, h_1, t_2, n_2, h_3, t_4, n_4, t_5, n_5, h_6, t_7, n_7, t_8, n_8, t_9, n_9, t_10, n_10, t_11, n_11, t_12, n_12, t_13, n_13, t_14, n_14, t_15, n_15, t_16, n_16, h_17, h_18, t_19, n_19, t_20, n_20, t_21, n_21, t_22, n_22, h_28, t_29, n_29, t_30, n_30, t_31, n_31, t_32, n_32, h_38, t_39, n_39, t_240, n_240, t_246, n_246, t_252, n_252, h_253, t_254, n_254, t_255, n_255, t_256, n_256, t_257, n_257, h_258, t_259, n_259, t_260, n_260, t_261, n_261, t_262, n_262, t_263, n_263, t_264, n_264, h_265, t_266, n_266, t_267, n_267, t_268, n_268, t_269, n_269, t_270, n_270, r_0_0, r_0_1, r_0_2, r_0_3, r_0_6, r_0_7, r_0_8, r_0_9, r_0_11, r_0_12, r_0_13, r_0_14, r_0_15, r_1_0, r_3_0, r_3_1, r_3_2, r_6_0, r_6_1, r_6_4, r_6_5, r_6_7, r_7_0, r_7_1, r_7_2, r_7_3, r_7_4, r_17_0, r_17_1, r_18_1, r_18_2, r_18_3, r_18_4, r_18_6, r_28_1, r_28_2, r_28_3, r_28_4, r_28_6, r_38_0, r_253_0, r_253_1, r_253_2, r_253_3, r_258_0, r_258_1, r_258_3, r_258_4, r_258_6, r_258_8, r_265_0, r_265_1, r_265_3, r_265_4, r_265_5, r_0_4, r_0_5, n2]
  exact hq
theorem c_Past_forget : sd_Call (sd_E1 L xs fm) (d + 1) y_Past_forget [.ref 38] σ Q ↔ Q none (sd_wI σ 38 2 (nI 0)) := by
  refine sd_Call.iff (fun Q hq => ?_) Q
  rw [sd_Call.start (ls := [.ref 38]) m_Past_forget (by decide) (Nat.le_of_ble_eq_true rfl) rfl]
  simp (disch := first | exact sd_cr | exact sd_ci | exact sd_cu | exact sd_cl9 | assumption | omega | exact t_259 | exact t_260 | exact t_261 | exact t_262 | exact t_263 | exact t_264 | exact t_254 | exact t_255 | exact t_256 | exact t_257 | exact t_266 | exact t_267 | exact t_268 | exact t_269 | exact t_270 | exact t_252 | exact t_240 | exact t_246 | exact t_2 | exact t_4 | exact t_5 | exact t_13 | exact t_14 | exact t_15 | exact t_16 | exact Or.inl t_39 | exact Or.inr t_7) only [z_Past_forget_0, z_Past_forget_1, z_Past_forget_2, z_Past_forget_5, false_and, and_false, if_true, if_false, Decidable.not_not, sd_ci, sd_cr, sd_cl9, sd_cu, sd_cat0, sd_cat1, sd_rfS, sd_n01, sd_n11, sd_n1, sd_n10, sd_n00, sd_b01, sd_b0, true_and, and_true, and_self, not_true_eq_false, not_false_eq_true, false_implies, true_implies, implies_true, or_true, true_or, or_false, false_or, Option.toList_some, Option.toList_none, List.cons_append, List.nil_append, Nat.reduceAdd, Nat.reduceLeDiff, nz_sub, nz_lt0, nz_ge0, nz_le0, nz_gt0, nz_eq0, nz_eq1, nz_lt, nz_le, nz_eq, nz_cl, nz_in, nz_add, nz_mul, nz_m1, nz_m1', Nat.reduceMul, Nat.reduceSub, Nat.reduceLT, Nat.reduceEqDiff, not_false_eq_true, false_implies, true_implies, true_and, and_true, h_0, h_1, t_2, n_2, h_3, t_4, n_4, t_5, n_5, h_6, t_7, n_7, t_8, n_8, t_9, n_9, t_10, n_10, t_11, n_11, t_12, n_12, t_13, n_13, t_14, n_14, t_15, n_15, t_16, n_16, h_17, h_18, t_19, n_19, t_20, n_20, t_21, n_21, t_22, n_22, h_28, t_29, n_29, t_30, n_30, t_31, n_31, t_32, n_32, h_38, t_39, n_39, t_240, n_240, t_246, n_246, t_252, n_252, h_253, t_254, n_254, t_255, n_255, t_256, n_256, t_257, n_257, h_258, t_259, n_259, t_260, n_260, t_261, n_261, t_262, n_262, t_263, n_263, t_264, n_264, h_265, t_266, n_266, t_267, n_267, t_268, n_268, t_269, n_269, t_270, n_270, r_0_0, r_0_1, r_0_2, r_0_3, r_0_6, r_0_7, r_0_8, r_0_9, r_0_11, r_0_12, r_0_13, r_0_14, r_0_15, r_1_0, r_3_0, r_3_1, r_3_2, r_6_0, r_6_1, r_6_4, r_6_5, r_6_7, r_7_0, r_7_1, r_7_2, r_7_3, r_7_4, r_17_0, r_17_1, r_18_1, r_18_2, r_18_3, r_18_4, r_18_6, r_28_1, r_28_2, r_28_3, r_28_4, r_28_6, r_38_0, r_253_0, r_253_1, r_253_2, r_253_3, r_258_0, r_258_1, r_258_3, r_258_4, r_258_6, r_258_8, r_265_0, r_265_1, r_265_3, r_265_4, r_265_5, r_0_4, r_0_5]
  exact hq
end SD51
