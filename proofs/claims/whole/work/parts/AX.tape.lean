/-! the tape's cursor in both -/
/-- past the blanks -/
def tp_sk (b : Nat → Nat) (n : Nat) : Nat → Nat → Nat
  | 0, a => a
  | f + 1, a => if a < n ∧ b a = 32 then tp_sk b n f (a + 1) else a
def tp_ps (b : Nat → Nat) (n a : Nat) : Nat := tp_sk b n (n - a) a
/-- what stands there; -1: the end -/
def tp_at (b : Nat → Nat) (n a : Nat) : Int32 := if tp_ps b n a < n then nI (b (tp_ps b n a)) else -1
theorem tp_ps_s {b : Nat → Nat} {n a : Nat} (h : a < n) (h2 : b a = 32) : tp_ps b n a = tp_ps b n (a + 1) := by
  unfold tp_ps
  obtain ⟨f, hf⟩ : ∃ f, n - a = f + 1 := ⟨n - a - 1, by omega⟩
  rw [hf, show n - (a + 1) = f by omega, tp_sk, if_pos ⟨h, h2⟩]
theorem tp_ps_e {b : Nat → Nat} {n a : Nat} (h : ¬ (a < n ∧ b a = 32)) : tp_ps b n a = a := by
  unfold tp_ps
  cases n - a with
  | zero => rfl
  | succ f => rw [tp_sk, if_neg h]
theorem tp_sk_le {b : Nat → Nat} {n : Nat} : ∀ f a, a ≤ n → a ≤ tp_sk b n f a ∧ tp_sk b n f a ≤ n := by
  intro f
  induction f with
  | zero => intro a h; exact ⟨Nat.le_refl _, h⟩
  | succ f ih =>
    intro a h
    rw [tp_sk]
    split
    · have := ih (a + 1) (by omega)
      omega
    · omega
theorem tp_ps_le {b : Nat → Nat} {n a : Nat} (h : a ≤ n) : a ≤ tp_ps b n a ∧ tp_ps b n a ≤ n := tp_sk_le _ _ h
theorem tp_ps_no {b : Nat → Nat} {n : Nat} : ∀ f a, f = n - a → a ≤ n → tp_ps b n a < n → b (tp_ps b n a) ≠ 32 := by
  intro f
  induction f with
  | zero =>
    intro a hf ha h
    have := (tp_ps_le (b := b) ha).1
    omega
  | succ f ih =>
    intro a hf ha h
    by_cases q : a < n ∧ b a = 32
    · rw [tp_ps_s q.1 q.2] at h ⊢
      exact ih (a + 1) (by omega) (by omega) h
    · rw [tp_ps_e q] at h ⊢
      exact fun q2 => q ⟨h, q2⟩
theorem tp_ps_i {b : Nat → Nat} {n a : Nat} (h : a ≤ n) : tp_ps b n (tp_ps b n a) = tp_ps b n a := tp_ps_e (fun q => tp_ps_no _ a rfl h q.1 q.2)
theorem tp_at_i {b : Nat → Nat} {n a : Nat} (h : a ≤ n) : tp_at b n (tp_ps b n a) = tp_at b n a := by
  unfold tp_at
  rw [tp_ps_i h]
/-- the class's cursor -/
def tp_X (σ : sd_Mem) (b : Nat → Nat) (n a : Nat) : Prop := σ.1 1 1 = nI n ∧ (∀ i, i < n → σ.1 2 i = nI (b i)) ∧ σ.1 1 2 = nI a ∧ n ≤ 240 ∧ (∀ i, i < n → b i < 256) ∧ a ≤ n
/-- the reference's cursor -/
def tp_M (σ : sd_Mem) (t o : Nat) (b : Nat → Nat) (n a : Nat) : Prop := σ.2.2 271 5 = some t ∧ σ.1 271 8 = nI o ∧ σ.1 271 9 = nI n ∧ σ.1 271 10 = nI a ∧ (∀ i, i < n → σ.1 t (o + i) = sw_by (b i)) ∧ sd_tg t = 1 ∧ o + n ≤ sd_ln t ∧ sd_ln t ≤ 960 ∧ t ≠ 271 ∧ (∀ i, i < n → b i < 256) ∧ a ≤ n
section SDAX
variable {L : Nat} {xs : Nat → Int32} {fm : Option Nat} {σ : sd_Mem} {b : Nat → Nat} {n a t o d : Nat}
theorem tp_X.at (h : tp_X σ b n a) {a' : Nat} (h2 : a' ≤ n) : tp_X (sd_wI σ 1 2 (nI a')) b n a' := by
  obtain ⟨h1, h2', h3, h4, h5, h6⟩ := h
  exact ⟨by rw [wI_o (by decide)]; exact h1, fun i hi => by rw [wI_c (by decide)]; exact h2' i hi, wI_k, h4, h5, h2⟩
theorem tp_M.at (h : tp_M σ t o b n a) {a' : Nat} (h2 : a' ≤ n) : tp_M (sd_wI σ 271 10 (nI a')) t o b n a' := by
  obtain ⟨h1, h2', h3, h4, h5, h6, h7, h8, h9, h10, h11⟩ := h
  exact ⟨h1, by rw [wI_o (by decide)]; exact h2', by rw [wI_o (by decide)]; exact h3, wI_k, fun i hi => by rw [wI_c h9]; exact h5 i hi, h6, h7, h8, h9, h10, h2⟩
theorem c_Tape_peek {Q : Option Value → sd_Mem → Prop} (h : tp_X σ b n a) : sd_Call (sd_E1 L xs fm) (d + 1) y_Tape_peek [.ref 1] σ Q ↔ Q (some (.int (tp_at b n a))) (sd_wI σ 1 2 (nI (tp_ps b n a))) := by
  refine sd_Call.iff (fun Q hq => ?_) Q
  rw [sd_Call.start (ls := [.ref 1]) m_Tape_peek (by decide) (Nat.le_of_ble_eq_true rfl) rfl]
  have key : ∀ f a (σ : sd_Mem), f = n - a → tp_X σ b n a → Q (some (.int (tp_at b n a))) (sd_wI σ 1 2 (nI (tp_ps b n a))) → sd_Go (sd_E1 L xs fm) d y_Tape_peek 0 [.ref 1] [] σ Q := by
    intro f
    induction f with
    | zero =>
      intro a σ hf h hq
      obtain ⟨h1, h2, h3, h4, h5, h6⟩ := id h
      have ha : a = n := by omega
      have e1 := tp_ps_e (b := b) (n := n) (a := a) (fun q => by omega)
      unfold tp_at at hq
      rw [e1, if_neg (by omega), wI_same h3] at hq
      have ha2 : n ≤ a := by omega
      simp (disch := first | exact sd_cr | exact sd_ci | exact sd_cu | exact sd_cl9 | assumption | omega | exact t_259 | exact t_260 | exact t_261 | exact t_262 | exact t_263 | exact t_264 | exact t_254 | exact t_255 | exact t_256 | exact t_257 | exact t_266 | exact t_267 | exact t_268 | exact t_269 | exact t_270 | exact t_252 | exact t_240 | exact t_246 | exact t_2 | exact t_4 | exact t_5 | exact t_13 | exact t_14 | exact t_15 | exact t_16 | exact Or.inl t_39 | exact Or.inr t_7) only [z_Tape_peek_0, z_Tape_peek_1, z_Tape_peek_4, z_Tape_peek_5, z_Tape_peek_8, z_Tape_peek_38, z_Tape_peek_39, z_Tape_peek_42, z_Tape_peek_43, z_Tape_peek_46, z_Tape_peek_49, z_Tape_peek_50, z_Tape_peek_53, z_Tape_peek_54, z_Tape_peek_57, z_Tape_peek_58, z_Tape_peek_61, z_Tape_peek_62, false_and, and_false, if_true, if_false, Decidable.not_not, sd_ci, sd_cr, sd_cl9, sd_cu, sd_cat0, sd_cat1, sd_rfS, sd_n01, sd_n11, sd_n1, sd_n10, sd_n00, sd_b01, sd_b0, true_and, and_true, and_self, not_true_eq_false, not_false_eq_true, false_implies, true_implies, implies_true, or_true, true_or, or_false, false_or, Option.toList_some, Option.toList_none, List.cons_append, List.nil_append, Nat.reduceAdd, Nat.reduceLeDiff, nz_sub, nz_lt0, nz_ge0, nz_le0, nz_gt0, nz_eq0, nz_eq1, nz_lt, nz_le, nz_eq, nz_cl, nz_in, nz_add, nz_mul, nz_m1, nz_m1', Nat.reduceMul, Nat.reduceSub, Nat.reduceLT, Nat.reduceEqDiff, not_false_eq_true, false_implies, true_implies, true_and, and_true, h_0, h_1, t_2, n_2, h_3, t_4, n_4, t_5, n_5, h_6, t_7, n_7, t_8, n_8, t_9, n_9, t_10, n_10, t_11, n_11, t_12, n_12, t_13, n_13, t_14, n_14, t_15, n_15, t_16, n_16, h_17, h_18, t_19, n_19, t_20, n_20, t_21, n_21, t_22, n_22, h_28, t_29, n_29, t_30, n_30, t_31, n_31, t_32, n_32, h_38, t_39, n_39, t_240, n_240, t_246, n_246, t_252, n_252, h_253, t_254, n_254, t_255, n_255, t_256, n_256, t_257, n_257, h_258, t_259, n_259, t_260, n_260, t_261, n_261, t_262, n_262, t_263, n_263, t_264, n_264, h_265, t_266, n_266, t_267, n_267, t_268, n_268, t_269, n_269, t_270, n_270, r_0_0, r_0_1, r_0_2, r_0_3, r_0_6, r_0_7, r_0_8, r_0_9, r_0_11, r_0_12, r_0_13, r_0_14, r_0_15, r_1_0, r_3_0, r_3_1, r_3_2, r_6_0, r_6_1, r_6_4, r_6_5, r_6_7, r_7_0, r_7_1, r_7_2, r_7_3, r_7_4, r_17_0, r_17_1, r_18_1, r_18_2, r_18_3, r_18_4, r_18_6, r_28_1, r_28_2, r_28_3, r_28_4, r_28_6, r_38_0, r_253_0, r_253_1, r_253_2, r_253_3, r_258_0, r_258_1, r_258_3, r_258_4, r_258_6, r_258_8, r_265_0, r_265_1, r_265_3, r_265_4, r_265_5, r_0_4, r_0_5, h_1, h1, h3, ha2]
      ((repeat' first | (refine And.intro ?_ ?_) | (intro _)) <;> first | omega | exact hq)
    | succ f ih =>
      intro a σ hf h hq
      obtain ⟨h1, h2, h3, h4, h5, h6⟩ := id h
      have ha : a < n := by omega
      have ha2 : ¬ n ≤ a := by omega
      have ha3 : a < 240 := by omega
      have e2 := h2 a ha
      have e5 := h5 a ha
      by_cases q : b a = 32
      · rw [q] at e2
        have hs := tp_ps_s ha q
        have nx := ih (a + 1) (sd_wI σ 1 2 (nI (a + 1))) (by omega) (h.at (by omega)) (by
          unfold tp_at at hq ⊢
          rw [hs] at hq
          rw [wI_wI]
          exact hq)
        rw [z_Tape_peek_0]
        simp (disch := first | exact sd_cr | exact sd_ci | exact sd_cu | exact sd_cl9 | assumption | omega | exact t_259 | exact t_260 | exact t_261 | exact t_262 | exact t_263 | exact t_264 | exact t_254 | exact t_255 | exact t_256 | exact t_257 | exact t_266 | exact t_267 | exact t_268 | exact t_269 | exact t_270 | exact t_252 | exact t_240 | exact t_246 | exact t_2 | exact t_4 | exact t_5 | exact t_13 | exact t_14 | exact t_15 | exact t_16 | exact Or.inl t_39 | exact Or.inr t_7) only [z_Tape_peek_1, z_Tape_peek_4, z_Tape_peek_5, z_Tape_peek_8, z_Tape_peek_11, z_Tape_peek_12, z_Tape_peek_15, z_Tape_peek_16, z_Tape_peek_19, z_Tape_peek_20, z_Tape_peek_22, z_Tape_peek_25, z_Tape_peek_26, z_Tape_peek_27, z_Tape_peek_30, z_Tape_peek_31, z_Tape_peek_32, z_Tape_peek_35, false_and, and_false, if_true, if_false, Decidable.not_not, sd_ci, sd_cr, sd_cl9, sd_cu, sd_cat0, sd_cat1, sd_rfS, sd_n01, sd_n11, sd_n1, sd_n10, sd_n00, sd_b01, sd_b0, true_and, and_true, and_self, not_true_eq_false, not_false_eq_true, false_implies, true_implies, implies_true, or_true, true_or, or_false, false_or, Option.toList_some, Option.toList_none, List.cons_append, List.nil_append, Nat.reduceAdd, Nat.reduceLeDiff, nz_sub, nz_lt0, nz_ge0, nz_le0, nz_gt0, nz_eq0, nz_eq1, nz_lt, nz_le, nz_eq, nz_cl, nz_in, nz_add, nz_mul, nz_m1, nz_m1', Nat.reduceMul, Nat.reduceSub, Nat.reduceLT, Nat.reduceEqDiff, not_false_eq_true, false_implies, true_implies, true_and, and_true, h_0, h_1, t_2, n_2, h_3, t_4, n_4, t_5, n_5, h_6, t_7, n_7, t_8, n_8, t_9, n_9, t_10, n_10, t_11, n_11, t_12, n_12, t_13, n_13, t_14, n_14, t_15, n_15, t_16, n_16, h_17, h_18, t_19, n_19, t_20, n_20, t_21, n_21, t_22, n_22, h_28, t_29, n_29, t_30, n_30, t_31, n_31, t_32, n_32, h_38, t_39, n_39, t_240, n_240, t_246, n_246, t_252, n_252, h_253, t_254, n_254, t_255, n_255, t_256, n_256, t_257, n_257, h_258, t_259, n_259, t_260, n_260, t_261, n_261, t_262, n_262, t_263, n_263, t_264, n_264, h_265, t_266, n_266, t_267, n_267, t_268, n_268, t_269, n_269, t_270, n_270, r_0_0, r_0_1, r_0_2, r_0_3, r_0_6, r_0_7, r_0_8, r_0_9, r_0_11, r_0_12, r_0_13, r_0_14, r_0_15, r_1_0, r_3_0, r_3_1, r_3_2, r_6_0, r_6_1, r_6_4, r_6_5, r_6_7, r_7_0, r_7_1, r_7_2, r_7_3, r_7_4, r_17_0, r_17_1, r_18_1, r_18_2, r_18_3, r_18_4, r_18_6, r_28_1, r_28_2, r_28_3, r_28_4, r_28_6, r_38_0, r_253_0, r_253_1, r_253_2, r_253_3, r_258_0, r_258_1, r_258_3, r_258_4, r_258_6, r_258_8, r_265_0, r_265_1, r_265_3, r_265_4, r_265_5, r_0_4, r_0_5, h_1, h1, h3, e2, ha2, ha3, n_2, r_1_0]
        exact nx
      · have e1 := tp_ps_e (b := b) (n := n) (a := a) (fun r => q r.2)
        unfold tp_at at hq
        rw [e1, if_pos ha, wI_same h3] at hq
        simp (disch := first | exact sd_cr | exact sd_ci | exact sd_cu | exact sd_cl9 | assumption | omega | exact t_259 | exact t_260 | exact t_261 | exact t_262 | exact t_263 | exact t_264 | exact t_254 | exact t_255 | exact t_256 | exact t_257 | exact t_266 | exact t_267 | exact t_268 | exact t_269 | exact t_270 | exact t_252 | exact t_240 | exact t_246 | exact t_2 | exact t_4 | exact t_5 | exact t_13 | exact t_14 | exact t_15 | exact t_16 | exact Or.inl t_39 | exact Or.inr t_7) only [z_Tape_peek_0, z_Tape_peek_1, z_Tape_peek_4, z_Tape_peek_5, z_Tape_peek_8, z_Tape_peek_11, z_Tape_peek_12, z_Tape_peek_15, z_Tape_peek_16, z_Tape_peek_19, z_Tape_peek_20, z_Tape_peek_22, z_Tape_peek_38, z_Tape_peek_39, z_Tape_peek_42, z_Tape_peek_43, z_Tape_peek_46, z_Tape_peek_49, z_Tape_peek_50, z_Tape_peek_53, z_Tape_peek_54, z_Tape_peek_57, z_Tape_peek_58, z_Tape_peek_61, z_Tape_peek_62, false_and, and_false, if_true, if_false, Decidable.not_not, sd_ci, sd_cr, sd_cl9, sd_cu, sd_cat0, sd_cat1, sd_rfS, sd_n01, sd_n11, sd_n1, sd_n10, sd_n00, sd_b01, sd_b0, true_and, and_true, and_self, not_true_eq_false, not_false_eq_true, false_implies, true_implies, implies_true, or_true, true_or, or_false, false_or, Option.toList_some, Option.toList_none, List.cons_append, List.nil_append, Nat.reduceAdd, Nat.reduceLeDiff, nz_sub, nz_lt0, nz_ge0, nz_le0, nz_gt0, nz_eq0, nz_eq1, nz_lt, nz_le, nz_eq, nz_cl, nz_in, nz_add, nz_mul, nz_m1, nz_m1', Nat.reduceMul, Nat.reduceSub, Nat.reduceLT, Nat.reduceEqDiff, not_false_eq_true, false_implies, true_implies, true_and, and_true, h_0, h_1, t_2, n_2, h_3, t_4, n_4, t_5, n_5, h_6, t_7, n_7, t_8, n_8, t_9, n_9, t_10, n_10, t_11, n_11, t_12, n_12, t_13, n_13, t_14, n_14, t_15, n_15, t_16, n_16, h_17, h_18, t_19, n_19, t_20, n_20, t_21, n_21, t_22, n_22, h_28, t_29, n_29, t_30, n_30, t_31, n_31, t_32, n_32, h_38, t_39, n_39, t_240, n_240, t_246, n_246, t_252, n_252, h_253, t_254, n_254, t_255, n_255, t_256, n_256, t_257, n_257, h_258, t_259, n_259, t_260, n_260, t_261, n_261, t_262, n_262, t_263, n_263, t_264, n_264, h_265, t_266, n_266, t_267, n_267, t_268, n_268, t_269, n_269, t_270, n_270, r_0_0, r_0_1, r_0_2, r_0_3, r_0_6, r_0_7, r_0_8, r_0_9, r_0_11, r_0_12, r_0_13, r_0_14, r_0_15, r_1_0, r_3_0, r_3_1, r_3_2, r_6_0, r_6_1, r_6_4, r_6_5, r_6_7, r_7_0, r_7_1, r_7_2, r_7_3, r_7_4, r_17_0, r_17_1, r_18_1, r_18_2, r_18_3, r_18_4, r_18_6, r_28_1, r_28_2, r_28_3, r_28_4, r_28_6, r_38_0, r_253_0, r_253_1, r_253_2, r_253_3, r_258_0, r_258_1, r_258_3, r_258_4, r_258_6, r_258_8, r_265_0, r_265_1, r_265_3, r_265_4, r_265_5, r_0_4, r_0_5, h_1, h1, h3, e2, ha2, ha3, n_2, r_1_0, q]
        ((repeat' first | (refine And.intro ?_ ?_) | (intro _)) <;> first | omega | exact hq)
  exact key _ a σ rfl h hq
theorem c_M_look {Q : Option Value → sd_Mem → Prop} (h : tp_M σ t o b n a) : sd_Call (sd_E1 L xs fm) (d + 1) y_M_look [.ref 271] σ Q ↔ Q (some (.int (tp_at b n a))) (sd_wI σ 271 10 (nI (tp_ps b n a))) := by
  refine sd_Call.iff (fun Q hq => ?_) Q
  rw [sd_Call.start (ls := [.ref 271]) m_M_look (by decide) (Nat.le_of_ble_eq_true rfl) rfl]
  have key : ∀ f a (σ : sd_Mem), f = n - a → tp_M σ t o b n a → Q (some (.int (tp_at b n a))) (sd_wI σ 271 10 (nI (tp_ps b n a))) → sd_Go (sd_E1 L xs fm) d y_M_look 0 [.ref 271] [] σ Q := by
    intro f
    induction f with
    | zero =>
      intro a σ hf h hq
      obtain ⟨h1, h2, h3, h4, h5, h6, h7, h8, h9, h10, h11⟩ := id h
      have ha : a = n := by omega
      have e1 := tp_ps_e (b := b) (n := n) (a := a) (fun q => by omega)
      unfold tp_at at hq
      rw [e1, if_neg (by omega), wI_same h4] at hq
      simp (disch := first | exact sd_cr | exact sd_ci | exact sd_cu | exact sd_cl9 | assumption | omega | exact t_285 | exact t_283 | exact t_278 | exact t_281 | exact t_276 | exact t_274 | exact t_275 | exact t_277 | exact t_279 | exact t_280 | exact t_282 | exact t_284 | exact t_286 | exact t_287 | exact t_288 | exact t_289 | exact t_290 | exact t_291 | exact t_292 | exact t_293 | exact t_294 | exact t_295 | exact t_296 | exact t_297 | exact t_298 | exact t_299 | exact t_300) only [z_M_look_0, z_M_look_1, z_M_look_4, z_M_look_5, z_M_look_8, z_M_look_11, z_M_look_12, z_M_look_15, z_M_look_16, z_M_look_19, z_M_look_20, z_M_look_23, z_M_look_24, z_M_look_25, z_M_look_27, z_M_look_30, z_M_look_31, z_M_look_32, z_M_look_35, z_M_look_36, z_M_look_37, z_M_look_40, z_M_look_43, z_M_look_44, z_M_look_47, z_M_look_48, z_M_look_51, z_M_look_54, z_M_look_55, z_M_look_58, z_M_look_59, z_M_look_62, z_M_look_63, z_M_look_66, z_M_look_67, z_M_look_68, z_M_look_71, z_M_look_72, z_M_look_75, z_M_look_76, false_and, and_false, if_true, if_false, Decidable.not_not, sd_ci, sd_cr, sd_cl9, sd_cu, sd_cat0, sd_cat1, sd_rfS, sd_n01, sd_n11, sd_n1, sd_n10, sd_n00, sd_b01, sd_b0, true_and, and_true, and_self, not_true_eq_false, not_false_eq_true, false_implies, true_implies, implies_true, or_true, true_or, or_false, false_or, Option.toList_some, Option.toList_none, List.cons_append, List.nil_append, Nat.reduceAdd, Nat.reduceLeDiff, nz_sub, nz_lt0, nz_ge0, nz_le0, nz_gt0, nz_eq0, nz_eq1, nz_lt, nz_le, nz_eq, nz_cl, nz_in, nz_add, nz_mul, nz_m1, nz_m1', Nat.reduceMul, Nat.reduceSub, Nat.reduceLT, Nat.reduceEqDiff, not_false_eq_true, false_implies, true_implies, true_and, and_true, h_271, t_272, n_272, t_273, n_273, t_274, n_274, t_275, n_275, t_276, n_276, t_277, n_277, t_278, n_278, t_279, n_279, t_280, n_280, t_281, n_281, t_282, n_282, t_283, n_283, t_284, n_284, t_285, n_285, t_286, n_286, t_287, n_287, t_288, n_288, t_289, n_289, t_290, n_290, t_291, n_291, t_292, n_292, t_293, n_293, t_294, n_294, t_295, n_295, t_296, n_296, t_297, n_297, t_298, n_298, t_299, n_299, t_300, n_300, t_301, n_301, r_271_1, r_271_2, r_271_3, r_271_4, r_271_15, r_271_16, r_271_18, r_271_19, r_271_20, r_271_21, r_271_22, r_271_23, r_271_24, r_271_25, r_271_26, r_271_34, r_271_35, r_271_38, r_271_39, r_271_40, r_271_42, r_271_45, r_271_46, r_271_47, r_271_48, r_271_49, r_271_50, r_271_53, r_271_54, r_271_55, r_271_57, h3, h4]
      ((repeat' first | (refine And.intro ?_ ?_) | (intro _)) <;> first | omega | exact hq)
    | succ f ih =>
      intro a σ hf h hq
      obtain ⟨h1, h2, h3, h4, h5, h6, h7, h8, h9, h10, h11⟩ := id h
      have ha : a < n := by omega
      have ha2 : ¬ n ≤ a := by omega
      have ha3 : o + a < sd_ln t := by omega
      have e2 := h5 a ha
      have e5 := sw_by_32 (b a) (h10 a ha)
      have e6 := sw_by_255 (b a) (h10 a ha)
      by_cases q : b a = 32
      · rw [q] at e5
        have hs := tp_ps_s ha q
        have nx := ih (a + 1) (sd_wI σ 271 10 (nI (a + 1))) (by omega) (h.at (by omega)) (by
          unfold tp_at at hq ⊢
          rw [hs] at hq
          rw [wI_wI]
          exact hq)
        rw [z_M_look_0]
        simp (disch := first | exact sd_cr | exact sd_ci | exact sd_cu | exact sd_cl9 | assumption | omega | exact t_285 | exact t_283 | exact t_278 | exact t_281 | exact t_276 | exact t_274 | exact t_275 | exact t_277 | exact t_279 | exact t_280 | exact t_282 | exact t_284 | exact t_286 | exact t_287 | exact t_288 | exact t_289 | exact t_290 | exact t_291 | exact t_292 | exact t_293 | exact t_294 | exact t_295 | exact t_296 | exact t_297 | exact t_298 | exact t_299 | exact t_300) only [z_M_look_1, z_M_look_4, z_M_look_5, z_M_look_8, z_M_look_11, z_M_look_12, z_M_look_15, z_M_look_16, z_M_look_19, z_M_look_20, z_M_look_23, z_M_look_24, z_M_look_25, z_M_look_27, z_M_look_30, z_M_look_31, z_M_look_32, z_M_look_35, z_M_look_36, z_M_look_37, z_M_look_40, false_and, and_false, if_true, if_false, Decidable.not_not, sd_ci, sd_cr, sd_cl9, sd_cu, sd_cat0, sd_cat1, sd_rfS, sd_n01, sd_n11, sd_n1, sd_n10, sd_n00, sd_b01, sd_b0, true_and, and_true, and_self, not_true_eq_false, not_false_eq_true, false_implies, true_implies, implies_true, or_true, true_or, or_false, false_or, Option.toList_some, Option.toList_none, List.cons_append, List.nil_append, Nat.reduceAdd, Nat.reduceLeDiff, nz_sub, nz_lt0, nz_ge0, nz_le0, nz_gt0, nz_eq0, nz_eq1, nz_lt, nz_le, nz_eq, nz_cl, nz_in, nz_add, nz_mul, nz_m1, nz_m1', Nat.reduceMul, Nat.reduceSub, Nat.reduceLT, Nat.reduceEqDiff, not_false_eq_true, false_implies, true_implies, true_and, and_true, h_271, t_272, n_272, t_273, n_273, t_274, n_274, t_275, n_275, t_276, n_276, t_277, n_277, t_278, n_278, t_279, n_279, t_280, n_280, t_281, n_281, t_282, n_282, t_283, n_283, t_284, n_284, t_285, n_285, t_286, n_286, t_287, n_287, t_288, n_288, t_289, n_289, t_290, n_290, t_291, n_291, t_292, n_292, t_293, n_293, t_294, n_294, t_295, n_295, t_296, n_296, t_297, n_297, t_298, n_298, t_299, n_299, t_300, n_300, t_301, n_301, r_271_1, r_271_2, r_271_3, r_271_4, r_271_15, r_271_16, r_271_18, r_271_19, r_271_20, r_271_21, r_271_22, r_271_23, r_271_24, r_271_25, r_271_26, r_271_34, r_271_35, r_271_38, r_271_39, r_271_40, r_271_42, r_271_45, r_271_46, r_271_47, r_271_48, r_271_49, r_271_50, r_271_53, r_271_54, r_271_55, r_271_57, h1, h2, h3, h4, e2, q, e5, ha2, ha3, r_271_5]
        exact nx
      · have e1 := tp_ps_e (b := b) (n := n) (a := a) (fun r => q r.2)
        unfold tp_at at hq
        rw [e1, if_pos ha, wI_same h4] at hq
        simp (disch := first | exact sd_cr | exact sd_ci | exact sd_cu | exact sd_cl9 | assumption | omega | exact t_285 | exact t_283 | exact t_278 | exact t_281 | exact t_276 | exact t_274 | exact t_275 | exact t_277 | exact t_279 | exact t_280 | exact t_282 | exact t_284 | exact t_286 | exact t_287 | exact t_288 | exact t_289 | exact t_290 | exact t_291 | exact t_292 | exact t_293 | exact t_294 | exact t_295 | exact t_296 | exact t_297 | exact t_298 | exact t_299 | exact t_300) only [z_M_look_0, z_M_look_1, z_M_look_4, z_M_look_5, z_M_look_8, z_M_look_11, z_M_look_12, z_M_look_15, z_M_look_16, z_M_look_19, z_M_look_20, z_M_look_23, z_M_look_24, z_M_look_25, z_M_look_27, z_M_look_30, z_M_look_31, z_M_look_32, z_M_look_35, z_M_look_36, z_M_look_37, z_M_look_40, z_M_look_43, z_M_look_44, z_M_look_47, z_M_look_48, z_M_look_51, z_M_look_54, z_M_look_55, z_M_look_58, z_M_look_59, z_M_look_62, z_M_look_63, z_M_look_66, z_M_look_67, z_M_look_68, z_M_look_71, z_M_look_72, z_M_look_75, z_M_look_76, false_and, and_false, if_true, if_false, Decidable.not_not, sd_ci, sd_cr, sd_cl9, sd_cu, sd_cat0, sd_cat1, sd_rfS, sd_n01, sd_n11, sd_n1, sd_n10, sd_n00, sd_b01, sd_b0, true_and, and_true, and_self, not_true_eq_false, not_false_eq_true, false_implies, true_implies, implies_true, or_true, true_or, or_false, false_or, Option.toList_some, Option.toList_none, List.cons_append, List.nil_append, Nat.reduceAdd, Nat.reduceLeDiff, nz_sub, nz_lt0, nz_ge0, nz_le0, nz_gt0, nz_eq0, nz_eq1, nz_lt, nz_le, nz_eq, nz_cl, nz_in, nz_add, nz_mul, nz_m1, nz_m1', Nat.reduceMul, Nat.reduceSub, Nat.reduceLT, Nat.reduceEqDiff, not_false_eq_true, false_implies, true_implies, true_and, and_true, h_271, t_272, n_272, t_273, n_273, t_274, n_274, t_275, n_275, t_276, n_276, t_277, n_277, t_278, n_278, t_279, n_279, t_280, n_280, t_281, n_281, t_282, n_282, t_283, n_283, t_284, n_284, t_285, n_285, t_286, n_286, t_287, n_287, t_288, n_288, t_289, n_289, t_290, n_290, t_291, n_291, t_292, n_292, t_293, n_293, t_294, n_294, t_295, n_295, t_296, n_296, t_297, n_297, t_298, n_298, t_299, n_299, t_300, n_300, t_301, n_301, r_271_1, r_271_2, r_271_3, r_271_4, r_271_15, r_271_16, r_271_18, r_271_19, r_271_20, r_271_21, r_271_22, r_271_23, r_271_24, r_271_25, r_271_26, r_271_34, r_271_35, r_271_38, r_271_39, r_271_40, r_271_42, r_271_45, r_271_46, r_271_47, r_271_48, r_271_49, r_271_50, r_271_53, r_271_54, r_271_55, r_271_57, h1, h2, h3, h4, e2, e5, e6, ha2, ha3, r_271_5, q]
        ((repeat' first | (refine And.intro ?_ ?_) | (intro _)) <;> first | omega | exact hq)
  exact key _ a σ rfl h hq
end SDAX
