/-! reading a taste: what both readers keep -/
/-- the class: the cursor, the steps s written into taste t -/
def ty_X (σ : sd_Mem) (b : Nat → Nat) (n a t : Nat) (s : List Nat) : Prop := tp_X σ b n a ∧ σ.1 6 2 = nI t ∧ t ≤ 4 ∧ σ.1 13 t = nI s.length ∧ (∀ i, i < s.length → σ.1 (8 + t) i = nI (s.getD i 0)) ∧ s.length ≤ 240
/-- what the class's reader may change -/
def ty_f (σ σ' : sd_Mem) (t : Nat) : Prop := (∀ e j, ¬ (e = 1 ∧ j = 2) → ¬ (e = 13 ∧ j = t) → e ≠ 8 + t → σ'.1 e j = σ.1 e j) ∧ σ'.2 = σ.2
/-- the reference: the cursor, no fault, the depth, the letters -/
def ty_M (σ : sd_Mem) (t o : Nat) (b : Nat → Nat) (n a dp : Nat) (ℓ : Nat → Int32) : Prop := tp_M σ t o b n a ∧ σ.1 271 11 = -1 ∧ σ.1 271 12 = nI dp ∧ sw_l6 σ ℓ
def ty_g (σ σ' : sd_Mem) : Prop := (∀ e, e ≠ 271 → σ'.1 e = σ.1 e) ∧ (∀ j, j ≠ 10 → j ≠ 11 → j ≠ 12 → σ'.1 271 j = σ.1 271 j) ∧ σ'.2 = σ.2
/-- letters stand for numbers below 100 -/
def ty_l (ℓ : Nat → Int32) : Prop := ∀ k, k < 6 → ∃ m, m < 100 ∧ ℓ k = nI m
/-- the class reads from a to e: steps r, or none -/
def ty_RX (L : Nat) (xs : Nat → Int32) (fm : Option Nat) (b : Nat → Nat) (n k y : Nat) (av : List Value) (a e : Nat) (r : Option (List Nat)) : Prop := ∀ σ t s, ty_X σ b n a t s → s.length ≤ a → ∃ σ', ty_f σ σ' t ∧ tp_X σ' b n e ∧ (∀ l, r = some l → ty_X σ' b n e t (s ++ l)) ∧ ∀ D Q, k ≤ D → (sd_Call (sd_E1 L xs fm) D y (.ref 17 :: av) σ Q ↔ Q (some (.int (sd_b (r.isSome = true)))) σ')
/-- the reference reads from a to e, with the worth v -/
def ty_RM (L : Nat) (xs : Nat → Int32) (fm : Option Nat) (b : Nat → Nat) (n k y dp : Nat) (av : (Nat → Int32) → List Value) (bo : Prop) (a e : Nat) (r : Option (List Nat)) (v : (Nat → Int32) → Int32) : Prop := ∀ σ t o ℓ, ty_l ℓ → ty_M σ t o b n a dp ℓ → ∃ σ' w, ty_g σ σ' ∧ (r = none → σ'.1 271 11 = nI e) ∧ (∀ l, r = some l → ty_M σ' t o b n e dp ℓ ∧ w = v ℓ) ∧ (bo → w = nI 0 ∨ w = nI 1) ∧ ∀ D Q, k ≤ D → (sd_Call (sd_E1 L xs fm) D y (.ref 271 :: av ℓ) σ Q ↔ Q (some (.int w)) σ')
/-- what the steps are good for -/
def ty_ok (n a e : Nat) (r : Option (List Nat)) (v : (Nat → Int32) → Int32) (p : (Nat → Int32) → List Int32) (bo : Prop) : Prop := a ≤ e ∧ e ≤ n ∧ ∀ l, r = some l → a + l.length ≤ e ∧ a < e ∧ (∀ w, w ∈ l → sw_spk w ∧ w ≠ 20059) ∧ ∀ ℓ, ty_l ℓ → (ty_bd (v ℓ) ∧ (bo → v ℓ = nI 0 ∨ v ℓ = nI 1)) ∧ ∀ st, ty_E ℓ l (p ℓ ++ st) (v ℓ :: st)
section SDBH
variable {L : Nat} {xs : Nat → Int32} {fm : Option Nat} {σ σ' σ2 : sd_Mem} {b : Nat → Nat} {n a t o D dp : Nat} {s : List Nat} {ℓ : Nat → Int32}
theorem ty_f.rf : ty_f σ σ t := ⟨fun _ _ _ _ _ => rfl, rfl⟩
theorem ty_f.tr (h1 : ty_f σ σ' t) (h2 : ty_f σ' σ2 t) : ty_f σ σ2 t := ⟨fun e j a b c => (h2.1 e j a b c).trans (h1.1 e j a b c), h2.2.trans h1.2⟩
theorem ty_f.at {v : Int32} : ty_f σ (sd_wI σ 1 2 v) t := ⟨fun e j h1 _ _ => wI_1.trans (if_neg h1), rfl⟩
theorem ty_g.rf : ty_g σ σ := ⟨fun _ _ => rfl, fun _ _ _ _ => rfl, rfl⟩
theorem ty_g.tr (h1 : ty_g σ σ') (h2 : ty_g σ' σ2) : ty_g σ σ2 := ⟨fun e a => (h2.1 e a).trans (h1.1 e a), fun j a b c => (h2.2.1 j a b c).trans (h1.2.1 j a b c), h2.2.2.trans h1.2.2⟩
theorem ty_g.w {j : Nat} {v : Int32} (h : j = 10 ∨ j = 11 ∨ j = 12) : ty_g σ (sd_wI σ 271 j v) := ⟨fun e he => wI_c he, fun i h1 h2 h3 => wI_o (by omega), rfl⟩
theorem ty_X.at (h : ty_X σ b n a t s) {a' : Nat} (h2 : a' ≤ n) : ty_X (sd_wI σ 1 2 (nI a')) b n a' t s := by
  obtain ⟨h1, h2', h3, h4, h5, h6⟩ := h
  exact ⟨h1.at h2, by rw [wI_c (by decide)]; exact h2', h3, by rw [wI_c (by decide)]; exact h4, fun i hi => by rw [wI_c (by omega)]; exact h5 i hi, h6⟩
theorem ty_l6 (h : sw_l6 σ ℓ) (e : σ'.1 275 = σ.1 275) : sw_l6 σ' ℓ := by
  unfold sw_l6 at h ⊢
  rw [e]
  exact h
theorem ty_M.at (h : ty_M σ t o b n a dp ℓ) {a' : Nat} (h2 : a' ≤ n) : ty_M (sd_wI σ 271 10 (nI a')) t o b n a' dp ℓ := by
  obtain ⟨h1, h2', h3, h4⟩ := h
  exact ⟨h1.at h2, by rw [wI_o (by decide)]; exact h2', by rw [wI_o (by decide)]; exact h3, ty_l6 h4 (wI_c (by decide))⟩
theorem ty_M.de (h : ty_M σ t o b n a dp ℓ) {dp' : Nat} : ty_M (sd_wI σ 271 12 (nI dp')) t o b n a dp' ℓ := by
  obtain ⟨⟨h1, h2, h3, h4, h5, h6, h7, h8, h9, h10, h11⟩, g2, g3, g4⟩ := h
  exact ⟨⟨h1, by rw [wI_o (by decide)]; exact h2, by rw [wI_o (by decide)]; exact h3, by rw [wI_o (by decide)]; exact h4, fun i hi => by rw [wI_c h9]; exact h5 i hi, h6, h7, h8, h9, h10, h11⟩, by rw [wI_o (by decide)]; exact g2, wI_k, ty_l6 g4 (wI_c (by decide))⟩
theorem ty_8 (h : t ≤ 4) : va_rf (sd_gR (sd_E1 L xs fm) σ 7 t) = .ref (8 + t) ∧ sd_tg (8 + t) = 0 ∧ sd_ln (8 + t) = 240 := by
  have : t = 0 ∨ t = 1 ∨ t = 2 ∨ t = 3 ∨ t = 4 := by omega
  rcases this with rfl | rfl | rfl | rfl | rfl
  · exact ⟨r_7_0, t_8, n_8⟩
  · exact ⟨r_7_1, t_9, n_9⟩
  · exact ⟨r_7_2, t_10, n_10⟩
  · exact ⟨r_7_3, t_11, n_11⟩
  · exact ⟨r_7_4, t_12, n_12⟩
/-- the store behind one step written -/
def ty_wr (σ : sd_Mem) (t m w : Nat) : sd_Mem := sd_wI (sd_wI σ (8 + t) m (nI w)) 13 t (nI (m + 1))
theorem ty_X.wr (h : ty_X σ b n a t s) (hs : s.length < 240) {w : Nat} : ty_X (ty_wr σ t s.length w) b n a t (s ++ [w]) ∧ ty_f σ (ty_wr σ t s.length w) t := by
  obtain ⟨⟨g1, g2, g3, g4, g5, g6⟩, h2, h3, h4, h5, h6⟩ := h
  unfold ty_wr
  refine ⟨⟨⟨?_, fun i hi => ?_, ?_, g4, g5, g6⟩, ?_, h3, ?_, fun i hi => ?_, ?_⟩, fun e j e1 e2 e3 => ?_, rfl⟩
  · rw [wI_c (by decide), wI_c (by omega)]; exact g1
  · rw [wI_c (by decide), wI_c (by omega)]; exact g2 i hi
  · rw [wI_c (by decide), wI_c (by omega)]; exact g3
  · rw [wI_c (by decide), wI_c (by omega)]; exact h2
  · rw [wI_k, List.length_append]; rfl
  · rw [List.length_append] at hi
    have hi : i < s.length + 1 := hi
    rw [wI_c (by omega), wI_1]
    by_cases q : i = s.length
    · subst q
      rw [if_pos ⟨rfl, rfl⟩, ty_gd2 (Nat.le_refl _), Nat.sub_self]
      rfl
    · rw [if_neg (fun r => q r.2), ty_gd1 (by omega)]
      exact h5 i (by omega)
  · rw [List.length_append]
    show s.length + 1 ≤ 240
    omega
  · rw [wI_1, if_neg e2, wI_1, if_neg (fun r => e3 r.1)]
theorem k_write {Q : Option Value → sd_Mem → Prop} {w : Nat} (h : ty_X σ b n a t s) (hs : s.length < 240) (hD : 1 ≤ D) : sd_Call (sd_E1 L xs fm) D y_TasteReader_write [.ref 17, .int (nI w)] σ Q ↔ Q none (ty_wr σ t s.length w) := by
  obtain ⟨d, rfl⟩ : ∃ d, D = d + 1 := ⟨D - 1, by omega⟩
  refine sd_Call.iff (fun Q hq => ?_) Q
  obtain ⟨g, h2, h3, h4, h5, h6⟩ := id h
  have u1 := (ty_8 (L := L) (xs := xs) (fm := fm) (σ := σ) h3).1
  have u2 := (ty_8 (L := L) (xs := xs) (fm := fm) (σ := σ) h3).2.1
  have u3 := (ty_8 (L := L) (xs := xs) (fm := fm) (σ := σ) h3).2.2
  have hs2 : ¬ 240 ≤ s.length := by omega
  have c1 : t < 5 := by omega
  unfold ty_wr at hq
  rw [sd_Call.start (ls := [.ref 17, .int (nI w), sd_un, sd_un]) m_TasteReader_write (by decide) (Nat.le_of_ble_eq_true rfl) rfl]
  simp (disch := first | exact sd_cr | exact sd_ci | exact sd_cu | exact sd_cl9 | assumption | omega | exact t_259 | exact t_260 | exact t_261 | exact t_262 | exact t_263 | exact t_264 | exact t_254 | exact t_255 | exact t_256 | exact t_257 | exact t_266 | exact t_267 | exact t_268 | exact t_269 | exact t_270 | exact t_252 | exact t_240 | exact t_246 | exact t_2 | exact t_4 | exact t_5 | exact t_13 | exact t_14 | exact t_15 | exact t_16 | exact Or.inl t_39 | exact Or.inr t_7) only [z_TasteReader_write_0, z_TasteReader_write_1, z_TasteReader_write_4, z_TasteReader_write_7, z_TasteReader_write_8, z_TasteReader_write_9, z_TasteReader_write_12, z_TasteReader_write_15, z_TasteReader_write_16, z_TasteReader_write_17, z_TasteReader_write_18, z_TasteReader_write_19, z_TasteReader_write_22, z_TasteReader_write_25, z_TasteReader_write_26, z_TasteReader_write_29, z_TasteReader_write_32, z_TasteReader_write_33, z_TasteReader_write_34, z_TasteReader_write_35, z_TasteReader_write_36, z_TasteReader_write_37, z_TasteReader_write_38, z_TasteReader_write_41, z_TasteReader_write_44, z_TasteReader_write_45, z_TasteReader_write_46, z_TasteReader_write_47, z_TasteReader_write_48, z_TasteReader_write_49, false_and, and_false, if_true, if_false, Decidable.not_not, sd_ci, sd_cr, sd_cl9, sd_cu, sd_cat0, sd_cat1, sd_rfS, sd_n01, sd_n11, sd_n1, sd_n10, sd_n00, sd_b01, sd_b0, true_and, and_true, and_self, not_true_eq_false, not_false_eq_true, false_implies, true_implies, implies_true, or_true, true_or, or_false, false_or, Option.toList_some, Option.toList_none, List.cons_append, List.nil_append, Nat.reduceAdd, Nat.reduceLeDiff, nz_sub, nz_lt0, nz_ge0, nz_le0, nz_gt0, nz_eq0, nz_eq1, nz_lt, nz_le, nz_eq, nz_cl, nz_in, nz_add, nz_mul, nz_m1, nz_m1', Nat.reduceMul, Nat.reduceSub, Nat.reduceLT, Nat.reduceEqDiff, not_false_eq_true, false_implies, true_implies, true_and, and_true, h_0, h_1, t_2, n_2, h_3, t_4, n_4, t_5, n_5, h_6, t_7, n_7, t_8, n_8, t_9, n_9, t_10, n_10, t_11, n_11, t_12, n_12, t_13, n_13, t_14, n_14, t_15, n_15, t_16, n_16, h_17, h_18, t_19, n_19, t_20, n_20, t_21, n_21, t_22, n_22, h_28, t_29, n_29, t_30, n_30, t_31, n_31, t_32, n_32, h_38, t_39, n_39, t_240, n_240, t_246, n_246, t_252, n_252, h_253, t_254, n_254, t_255, n_255, t_256, n_256, t_257, n_257, h_258, t_259, n_259, t_260, n_260, t_261, n_261, t_262, n_262, t_263, n_263, t_264, n_264, h_265, t_266, n_266, t_267, n_267, t_268, n_268, t_269, n_269, t_270, n_270, r_0_0, r_0_1, r_0_2, r_0_3, r_0_6, r_0_7, r_0_8, r_0_9, r_0_11, r_0_12, r_0_13, r_0_14, r_0_15, r_1_0, r_3_0, r_3_1, r_3_2, r_6_0, r_6_1, r_6_4, r_6_5, r_6_7, r_7_0, r_7_1, r_7_2, r_7_3, r_7_4, r_17_0, r_17_1, r_18_1, r_18_2, r_18_3, r_18_4, r_18_6, r_28_1, r_28_2, r_28_3, r_28_4, r_28_6, r_38_0, r_253_0, r_253_1, r_253_2, r_253_3, r_258_0, r_258_1, r_258_3, r_258_4, r_258_6, r_258_8, r_265_0, r_265_1, r_265_3, r_265_4, r_265_5, r_0_4, r_0_5, h2, h4, hs2, hs, c1, u1, u3, r_17_1, r_6_0, r_6_1]
  exact hq
theorem k_isComp {Q : Option Value → sd_Mem → Prop} {v : Int32} (hD : 1 ≤ D) : sd_Call (sd_E1 L xs fm) D y_TasteReader_isComparison [.int v] σ Q ↔ Q (some (.int (sd_b (v = nI 61 ∨ v = nI 60 ∨ v = nI 62)))) σ := by
  obtain ⟨d, rfl⟩ : ∃ d, D = d + 1 := ⟨D - 1, by omega⟩
  refine sd_Call.iff (fun Q hq => ?_) Q
  rw [sd_Call.start (ls := [.int v]) m_TasteReader_isComparison (by decide) (Nat.le_of_ble_eq_true rfl) rfl]
  simp (disch := first | exact sd_cr | exact sd_ci | exact sd_cu | exact sd_cl9 | assumption | omega | exact t_259 | exact t_260 | exact t_261 | exact t_262 | exact t_263 | exact t_264 | exact t_254 | exact t_255 | exact t_256 | exact t_257 | exact t_266 | exact t_267 | exact t_268 | exact t_269 | exact t_270 | exact t_252 | exact t_240 | exact t_246 | exact t_2 | exact t_4 | exact t_5 | exact t_13 | exact t_14 | exact t_15 | exact t_16 | exact Or.inl t_39 | exact Or.inr t_7) only [z_TasteReader_isComparison_0, z_TasteReader_isComparison_1, z_TasteReader_isComparison_3, z_TasteReader_isComparison_6, z_TasteReader_isComparison_7, z_TasteReader_isComparison_9, z_TasteReader_isComparison_12, z_TasteReader_isComparison_13, z_TasteReader_isComparison_15, z_TasteReader_isComparison_18, z_TasteReader_isComparison_19, z_TasteReader_isComparison_22, z_TasteReader_isComparison_23, false_and, and_false, if_true, if_false, Decidable.not_not, sd_ci, sd_cr, sd_cl9, sd_cu, sd_cat0, sd_cat1, sd_rfS, sd_n01, sd_n11, sd_n1, sd_n10, sd_n00, sd_b01, sd_b0, true_and, and_true, and_self, not_true_eq_false, not_false_eq_true, false_implies, true_implies, implies_true, or_true, true_or, or_false, false_or, Option.toList_some, Option.toList_none, List.cons_append, List.nil_append, Nat.reduceAdd, Nat.reduceLeDiff]
  by_cases q1 : v = nI 61
  · rw [sd_bT (Or.inl q1)] at hq
    simp only [q1, false_and, and_false, if_true, if_false, Decidable.not_not, sd_ci, sd_cr, sd_cl9, sd_cu, sd_cat0, sd_cat1, sd_rfS, sd_n01, sd_n11, sd_n1, sd_n10, sd_n00, sd_b01, sd_b0, true_and, and_true, and_self, not_true_eq_false, not_false_eq_true, false_implies, true_implies, implies_true, or_true, true_or, or_false, false_or, Option.toList_some, Option.toList_none, List.cons_append, List.nil_append, Nat.reduceAdd, Nat.reduceLeDiff]
    exact hq
  · by_cases q2 : v = nI 60
    · rw [sd_bT (Or.inr (Or.inl q2))] at hq
      simp only [eq_false q1, eq_true q2, false_and, and_false, if_true, if_false, Decidable.not_not, sd_ci, sd_cr, sd_cl9, sd_cu, sd_cat0, sd_cat1, sd_rfS, sd_n01, sd_n11, sd_n1, sd_n10, sd_n00, sd_b01, sd_b0, true_and, and_true, and_self, not_true_eq_false, not_false_eq_true, false_implies, true_implies, implies_true, or_true, true_or, or_false, false_or, Option.toList_some, Option.toList_none, List.cons_append, List.nil_append, Nat.reduceAdd, Nat.reduceLeDiff]
      exact hq
    · by_cases q3 : v = nI 62
      · rw [sd_bT (Or.inr (Or.inr q3))] at hq
        simp only [eq_false q1, eq_false q2, eq_true q3, false_and, and_false, if_true, if_false, Decidable.not_not, sd_ci, sd_cr, sd_cl9, sd_cu, sd_cat0, sd_cat1, sd_rfS, sd_n01, sd_n11, sd_n1, sd_n10, sd_n00, sd_b01, sd_b0, true_and, and_true, and_self, not_true_eq_false, not_false_eq_true, false_implies, true_implies, implies_true, or_true, true_or, or_false, false_or, Option.toList_some, Option.toList_none, List.cons_append, List.nil_append, Nat.reduceAdd, Nat.reduceLeDiff]
        exact hq
      · rw [sd_bF (fun r => by rcases r with r | r | r <;> contradiction)] at hq
        simp only [q1, q2, q3, false_and, and_false, if_true, if_false, Decidable.not_not, sd_ci, sd_cr, sd_cl9, sd_cu, sd_cat0, sd_cat1, sd_rfS, sd_n01, sd_n11, sd_n1, sd_n10, sd_n00, sd_b01, sd_b0, true_and, and_true, and_self, not_true_eq_false, not_false_eq_true, false_implies, true_implies, implies_true, or_true, true_or, or_false, false_or, Option.toList_some, Option.toList_none, List.cons_append, List.nil_append, Nat.reduceAdd, Nat.reduceLeDiff]
        exact hq
theorem k_isSign {Q : Option Value → sd_Mem → Prop} {v : Int32} (hD : 1 ≤ D) : sd_Call (sd_E1 L xs fm) D y_M_isSign [.int v] σ Q ↔ Q (some (.int (sd_b (v = nI 61 ∨ v = nI 60 ∨ v = nI 62)))) σ := by
  obtain ⟨d, rfl⟩ : ∃ d, D = d + 1 := ⟨D - 1, by omega⟩
  refine sd_Call.iff (fun Q hq => ?_) Q
  rw [sd_Call.start (ls := [.int v]) m_M_isSign (by decide) (Nat.le_of_ble_eq_true rfl) rfl]
  simp (disch := first | exact sd_cr | exact sd_ci | exact sd_cu | exact sd_cl9 | assumption | omega | exact t_285 | exact t_283 | exact t_278 | exact t_281 | exact t_276 | exact t_274 | exact t_275 | exact t_277 | exact t_279 | exact t_280 | exact t_282 | exact t_284 | exact t_286 | exact t_287 | exact t_288 | exact t_289 | exact t_290 | exact t_291 | exact t_292 | exact t_293 | exact t_294 | exact t_295 | exact t_296 | exact t_297 | exact t_298 | exact t_299 | exact t_300) only [z_M_isSign_0, z_M_isSign_1, z_M_isSign_3, z_M_isSign_6, z_M_isSign_7, z_M_isSign_9, z_M_isSign_12, z_M_isSign_13, z_M_isSign_15, z_M_isSign_18, z_M_isSign_19, z_M_isSign_22, z_M_isSign_23, false_and, and_false, if_true, if_false, Decidable.not_not, sd_ci, sd_cr, sd_cl9, sd_cu, sd_cat0, sd_cat1, sd_rfS, sd_n01, sd_n11, sd_n1, sd_n10, sd_n00, sd_b01, sd_b0, true_and, and_true, and_self, not_true_eq_false, not_false_eq_true, false_implies, true_implies, implies_true, or_true, true_or, or_false, false_or, Option.toList_some, Option.toList_none, List.cons_append, List.nil_append, Nat.reduceAdd, Nat.reduceLeDiff]
  by_cases q1 : v = nI 61
  · rw [sd_bT (Or.inl q1)] at hq
    simp only [q1, false_and, and_false, if_true, if_false, Decidable.not_not, sd_ci, sd_cr, sd_cl9, sd_cu, sd_cat0, sd_cat1, sd_rfS, sd_n01, sd_n11, sd_n1, sd_n10, sd_n00, sd_b01, sd_b0, true_and, and_true, and_self, not_true_eq_false, not_false_eq_true, false_implies, true_implies, implies_true, or_true, true_or, or_false, false_or, Option.toList_some, Option.toList_none, List.cons_append, List.nil_append, Nat.reduceAdd, Nat.reduceLeDiff]
    exact hq
  · by_cases q2 : v = nI 60
    · rw [sd_bT (Or.inr (Or.inl q2))] at hq
      simp only [eq_false q1, eq_true q2, false_and, and_false, if_true, if_false, Decidable.not_not, sd_ci, sd_cr, sd_cl9, sd_cu, sd_cat0, sd_cat1, sd_rfS, sd_n01, sd_n11, sd_n1, sd_n10, sd_n00, sd_b01, sd_b0, true_and, and_true, and_self, not_true_eq_false, not_false_eq_true, false_implies, true_implies, implies_true, or_true, true_or, or_false, false_or, Option.toList_some, Option.toList_none, List.cons_append, List.nil_append, Nat.reduceAdd, Nat.reduceLeDiff]
      exact hq
    · by_cases q3 : v = nI 62
      · rw [sd_bT (Or.inr (Or.inr q3))] at hq
        simp only [eq_false q1, eq_false q2, eq_true q3, false_and, and_false, if_true, if_false, Decidable.not_not, sd_ci, sd_cr, sd_cl9, sd_cu, sd_cat0, sd_cat1, sd_rfS, sd_n01, sd_n11, sd_n1, sd_n10, sd_n00, sd_b01, sd_b0, true_and, and_true, and_self, not_true_eq_false, not_false_eq_true, false_implies, true_implies, implies_true, or_true, true_or, or_false, false_or, Option.toList_some, Option.toList_none, List.cons_append, List.nil_append, Nat.reduceAdd, Nat.reduceLeDiff]
        exact hq
      · rw [sd_bF (fun r => by rcases r with r | r | r <;> contradiction)] at hq
        simp only [q1, q2, q3, false_and, and_false, if_true, if_false, Decidable.not_not, sd_ci, sd_cr, sd_cl9, sd_cu, sd_cat0, sd_cat1, sd_rfS, sd_n01, sd_n11, sd_n1, sd_n10, sd_n00, sd_b01, sd_b0, true_and, and_true, and_self, not_true_eq_false, not_false_eq_true, false_implies, true_implies, implies_true, or_true, true_or, or_false, false_or, Option.toList_some, Option.toList_none, List.cons_append, List.nil_append, Nat.reduceAdd, Nat.reduceLeDiff]
        exact hq
theorem k_within {Q : Option Value → sd_Mem → Prop} {x : Int64} (hD : 1 ≤ D) : sd_Call (sd_E1 L xs fm) D y_M_within [.long x] σ Q ↔ Q (some (.int (ty_w x))) σ := by
  obtain ⟨d, rfl⟩ : ∃ d, D = d + 1 := ⟨D - 1, by omega⟩
  refine sd_Call.iff (fun Q hq => ?_) Q
  unfold ty_w at hq
  rw [sd_Call.start (ls := [.long x, sd_un]) m_M_within (by decide) (Nat.le_of_ble_eq_true rfl) rfl]
  simp (disch := first | exact sd_cr | exact sd_ci | exact sd_cu | exact sd_cl9 | assumption | omega | exact t_285 | exact t_283 | exact t_278 | exact t_281 | exact t_276 | exact t_274 | exact t_275 | exact t_277 | exact t_279 | exact t_280 | exact t_282 | exact t_284 | exact t_286 | exact t_287 | exact t_288 | exact t_289 | exact t_290 | exact t_291 | exact t_292 | exact t_293 | exact t_294 | exact t_295 | exact t_296 | exact t_297 | exact t_298 | exact t_299 | exact t_300) only [z_M_within_0, z_M_within_3, z_M_within_6, z_M_within_7, z_M_within_10, z_M_within_13, z_M_within_14, false_and, and_false, if_true, if_false, Decidable.not_not, sd_ci, sd_cr, sd_cl9, sd_cu, sd_cat0, sd_cat1, sd_rfS, sd_n01, sd_n11, sd_n1, sd_n10, sd_n00, sd_b01, sd_b0, true_and, and_true, and_self, not_true_eq_false, not_false_eq_true, false_implies, true_implies, implies_true, or_true, true_or, or_false, false_or, Option.toList_some, Option.toList_none, List.cons_append, List.nil_append, Nat.reduceAdd, Nat.reduceLeDiff]
  exact hq
theorem k_goesIn {Q : Option Value → sd_Mem → Prop} (h : ty_M σ t o b n a dp ℓ) (hd : dp < 6) (hD : 1 ≤ D) : sd_Call (sd_E1 L xs fm) D y_M_goesIn [.ref 271] σ Q ↔ Q (some (.int (nI 1))) (sd_wI (sd_wI σ 271 12 (nI (dp + 1))) 271 10 (nI (a + 1))) := by
  obtain ⟨d, rfl⟩ : ∃ d, D = d + 1 := ⟨D - 1, by omega⟩
  refine sd_Call.iff (fun Q hq => ?_) Q
  obtain ⟨h1, h2, h3, h4⟩ := id h
  have h10 := h1.2.2.2.1
  have e1 : (sd_wI σ 271 12 (nI (dp + 1))).1 271 10 = nI a := by rw [wI_o (by decide)]; exact h10
  have q : ¬ dp = 6 := by omega
  rw [sd_Call.start (ls := [.ref 271]) m_M_goesIn (by decide) (Nat.le_of_ble_eq_true rfl) rfl]
  simp (disch := first | exact sd_cr | exact sd_ci | exact sd_cu | exact sd_cl9 | assumption | omega | exact t_285 | exact t_283 | exact t_278 | exact t_281 | exact t_276 | exact t_274 | exact t_275 | exact t_277 | exact t_279 | exact t_280 | exact t_282 | exact t_284 | exact t_286 | exact t_287 | exact t_288 | exact t_289 | exact t_290 | exact t_291 | exact t_292 | exact t_293 | exact t_294 | exact t_295 | exact t_296 | exact t_297 | exact t_298 | exact t_299 | exact t_300) only [z_M_goesIn_0, z_M_goesIn_1, z_M_goesIn_4, z_M_goesIn_6, z_M_goesIn_9, z_M_goesIn_10, z_M_goesIn_13, z_M_goesIn_14, z_M_goesIn_15, z_M_goesIn_16, z_M_goesIn_19, z_M_goesIn_20, z_M_goesIn_21, z_M_goesIn_24, z_M_goesIn_25, z_M_goesIn_26, z_M_goesIn_29, z_M_goesIn_30, z_M_goesIn_31, z_M_goesIn_34, z_M_goesIn_35, false_and, and_false, if_true, if_false, Decidable.not_not, sd_ci, sd_cr, sd_cl9, sd_cu, sd_cat0, sd_cat1, sd_rfS, sd_n01, sd_n11, sd_n1, sd_n10, sd_n00, sd_b01, sd_b0, true_and, and_true, and_self, not_true_eq_false, not_false_eq_true, false_implies, true_implies, implies_true, or_true, true_or, or_false, false_or, Option.toList_some, Option.toList_none, List.cons_append, List.nil_append, Nat.reduceAdd, Nat.reduceLeDiff, nz_sub, nz_lt0, nz_ge0, nz_le0, nz_gt0, nz_eq0, nz_eq1, nz_lt, nz_le, nz_eq, nz_cl, nz_in, nz_add, nz_mul, nz_m1, nz_m1', Nat.reduceMul, Nat.reduceSub, Nat.reduceLT, Nat.reduceEqDiff, not_false_eq_true, false_implies, true_implies, true_and, and_true, h_271, t_272, n_272, t_273, n_273, t_274, n_274, t_275, n_275, t_276, n_276, t_277, n_277, t_278, n_278, t_279, n_279, t_280, n_280, t_281, n_281, t_282, n_282, t_283, n_283, t_284, n_284, t_285, n_285, t_286, n_286, t_287, n_287, t_288, n_288, t_289, n_289, t_290, n_290, t_291, n_291, t_292, n_292, t_293, n_293, t_294, n_294, t_295, n_295, t_296, n_296, t_297, n_297, t_298, n_298, t_299, n_299, t_300, n_300, t_301, n_301, r_271_1, r_271_2, r_271_3, r_271_4, r_271_15, r_271_16, r_271_18, r_271_19, r_271_20, r_271_21, r_271_22, r_271_23, r_271_24, r_271_25, r_271_26, r_271_34, r_271_35, r_271_38, r_271_39, r_271_40, r_271_42, r_271_45, r_271_46, r_271_47, r_271_48, r_271_49, r_271_50, r_271_53, r_271_54, r_271_55, r_271_57, h3, q, e1]
  exact hq
theorem k_goesIn6 {Q : Option Value → sd_Mem → Prop} (h : ty_M σ t o b n a 6 ℓ) (hD : 2 ≤ D) : sd_Call (sd_E1 L xs fm) D y_M_goesIn [.ref 271] σ Q ↔ Q (some (.int (nI 0))) (sd_wI σ 271 11 (nI a)) := by
  obtain ⟨d, rfl⟩ : ∃ d, D = d + 1 := ⟨D - 1, by omega⟩
  refine sd_Call.iff (fun Q hq => ?_) Q
  obtain ⟨h1, h2, h3, h4⟩ := id h
  have h10 := h1.2.2.2.1
  have cf := fun Q => k_fails (L := L) (xs := xs) (fm := fm) (D := d) (Q := Q) h2 (by omega)
  rw [h10] at cf
  rw [sd_Call.start (ls := [.ref 271]) m_M_goesIn (by decide) (Nat.le_of_ble_eq_true rfl) rfl]
  simp (disch := first | exact sd_cr | exact sd_ci | exact sd_cu | exact sd_cl9 | assumption | omega | exact t_285 | exact t_283 | exact t_278 | exact t_281 | exact t_276 | exact t_274 | exact t_275 | exact t_277 | exact t_279 | exact t_280 | exact t_282 | exact t_284 | exact t_286 | exact t_287 | exact t_288 | exact t_289 | exact t_290 | exact t_291 | exact t_292 | exact t_293 | exact t_294 | exact t_295 | exact t_296 | exact t_297 | exact t_298 | exact t_299 | exact t_300) only [z_M_goesIn_0, z_M_goesIn_1, z_M_goesIn_4, z_M_goesIn_6, z_M_goesIn_9, z_M_goesIn_10, z_M_goesIn_13, z_M_goesIn_14, z_M_goesIn_15, z_M_goesIn_16, z_M_goesIn_19, z_M_goesIn_20, z_M_goesIn_21, z_M_goesIn_24, z_M_goesIn_25, z_M_goesIn_26, z_M_goesIn_29, z_M_goesIn_30, z_M_goesIn_31, z_M_goesIn_34, z_M_goesIn_35, false_and, and_false, if_true, if_false, Decidable.not_not, sd_ci, sd_cr, sd_cl9, sd_cu, sd_cat0, sd_cat1, sd_rfS, sd_n01, sd_n11, sd_n1, sd_n10, sd_n00, sd_b01, sd_b0, true_and, and_true, and_self, not_true_eq_false, not_false_eq_true, false_implies, true_implies, implies_true, or_true, true_or, or_false, false_or, Option.toList_some, Option.toList_none, List.cons_append, List.nil_append, Nat.reduceAdd, Nat.reduceLeDiff, nz_sub, nz_lt0, nz_ge0, nz_le0, nz_gt0, nz_eq0, nz_eq1, nz_lt, nz_le, nz_eq, nz_cl, nz_in, nz_add, nz_mul, nz_m1, nz_m1', Nat.reduceMul, Nat.reduceSub, Nat.reduceLT, Nat.reduceEqDiff, not_false_eq_true, false_implies, true_implies, true_and, and_true, h_271, t_272, n_272, t_273, n_273, t_274, n_274, t_275, n_275, t_276, n_276, t_277, n_277, t_278, n_278, t_279, n_279, t_280, n_280, t_281, n_281, t_282, n_282, t_283, n_283, t_284, n_284, t_285, n_285, t_286, n_286, t_287, n_287, t_288, n_288, t_289, n_289, t_290, n_290, t_291, n_291, t_292, n_292, t_293, n_293, t_294, n_294, t_295, n_295, t_296, n_296, t_297, n_297, t_298, n_298, t_299, n_299, t_300, n_300, t_301, n_301, r_271_1, r_271_2, r_271_3, r_271_4, r_271_15, r_271_16, r_271_18, r_271_19, r_271_20, r_271_21, r_271_22, r_271_23, r_271_24, r_271_25, r_271_26, r_271_34, r_271_35, r_271_38, r_271_39, r_271_40, r_271_42, r_271_45, r_271_46, r_271_47, r_271_48, r_271_49, r_271_50, r_271_53, r_271_54, r_271_55, r_271_57, h3, cf]
  exact hq
end SDBH
