/-! eyes -/
theorem sw_sp_tb {f t i : Nat} (hf : f ≤ t) (ht : t ≤ 11) : ((2 ^ (t + 1) - 2 ^ f).testBit i = true) ↔ (f ≤ i ∧ i ≤ t) := by
  have h1 : ∀ t, t < 12 → ∀ f, f < 12 → f ≤ t → 2 ^ (t + 1) - 2 ^ f < 4096 := by decide +kernel
  have h2 : ∀ t, t < 12 → ∀ f, f < 12 → f ≤ t → ∀ i, i < 12 → ((2 ^ (t + 1) - 2 ^ f).testBit i = true ↔ (f ≤ i ∧ i ≤ t)) := by decide +kernel
  rcases Nat.lt_or_ge i 12 with hi | hi
  · exact h2 t (by omega) f (by omega) hf i hi
  · have h3 := Nat.testBit_lt_two_pow (Nat.lt_of_lt_of_le (h1 t (by omega) f (by omega) hf) (Nat.pow_le_pow_right (n := 2) (by decide) hi))
    rw [h3]
    exact ⟨fun q => (by cases q), fun q => by omega⟩
theorem sw_sp_lt {f t : Nat} (hf : f ≤ t) (ht : t ≤ 11) : 2 ^ (t + 1) - 2 ^ f < 4096 := by
  have h1 : ∀ t, t < 12 → ∀ f, f < 12 → f ≤ t → 2 ^ (t + 1) - 2 ^ f < 4096 := by decide +kernel
  exact h1 t (by omega) f (by omega) hf
def sw_sp (A : sw_T) (e : Nat) : Nat := 2 ^ (A 4 e 3 + 1) - 2 ^ A 4 e 2
/-- the places that eyes on p span -/
def sw_wp (A : sw_T) (p : Nat) : Nat := sd_fold (fun e b => if A 4 e 1 = p then b ||| sw_sp A e else b) (A 5 0 0) 0 0
def sw_seen (A : sw_T) (p i : Nat) : Bool := sw_any (fun e => decide (A 4 e 1 = p ∧ A 4 e 2 ≤ i ∧ i ≤ A 4 e 3)) (A 5 0 0) 0
theorem sw_wp_inv {A : sw_T} (p : Nat) (hA : sw_AK A) : sw_wp A p < 4096 ∧ ∀ i, ((sw_wp A p).testBit i = true) ↔ ∃ e, e < A 5 0 0 ∧ A 4 e 1 = p ∧ A 4 e 2 ≤ i ∧ i ≤ A 4 e 3 := by
  have be := hA.2.2.2.2.2.2.1
  have := sd_fold_inv (g := fun e b => if A 4 e 1 = p then b ||| sw_sp A e else b) (fun n b => n ≤ A 5 0 0 → b < 4096 ∧ ∀ i, (b.testBit i = true) ↔ ∃ e, e < n ∧ A 4 e 1 = p ∧ A 4 e 2 ≤ i ∧ i ≤ A 4 e 3) (A 5 0 0) 0 0 (fun _ => ⟨by decide, fun i => ⟨fun q => by simp at q, fun ⟨e, h, _⟩ => by omega⟩⟩) (by
    intro j b _ hj ih hn
    obtain ⟨i1, i2⟩ := ih (by omega)
    obtain ⟨e0, e1, e2⟩ := be j (by omega)
    split
    · rename_i hc
      refine ⟨Nat.or_lt_two_pow (n := 12) i1 (sw_sp_lt e1 e2), fun i => ?_⟩
      rw [Nat.testBit_or, Bool.or_eq_true, i2, show sw_sp A j = 2 ^ (A 4 j 3 + 1) - 2 ^ A 4 j 2 from rfl, sw_sp_tb e1 e2]
      constructor
      · rintro (⟨e, q1, q2⟩ | q)
        · exact ⟨e, by omega, q2⟩
        · exact ⟨j, by omega, hc, q⟩
      · rintro ⟨e, q1, q2⟩
        rcases Nat.lt_or_ge e j with r | r
        · exact Or.inl ⟨e, r, q2⟩
        · rw [show e = j by omega] at q2; exact Or.inr q2.2
    · rename_i hc
      refine ⟨i1, fun i => ?_⟩
      rw [i2]
      constructor
      · rintro ⟨e, q1, q2⟩; exact ⟨e, by omega, q2⟩
      · rintro ⟨e, q1, q2⟩
        rcases Nat.lt_or_ge e j with r | r
        · exact ⟨e, r, q2⟩
        · rw [show e = j by omega] at q2; exact absurd q2.1 hc)
  rw [Nat.zero_add] at this
  exact this (Nat.le_refl _)
theorem sw_wp_seen {A : sw_T} (p i : Nat) (hA : sw_AK A) : ((sw_wp A p).testBit i = true) ↔ sw_seen A p i = true := by
  rw [(sw_wp_inv p hA).2]
  unfold sw_seen
  rw [sw_any_iff]
  constructor
  · rintro ⟨e, h1, h2⟩; exact ⟨e, by omega, by omega, by rw [decide_eq_true_iff]; exact h2⟩
  · rintro ⟨e, h1, h2, h3⟩; exact ⟨e, by omega, by rw [decide_eq_true_iff] at h3; exact h3⟩
section SD45
variable {L : Nat} {xs : Nat → Int32} {fm : Option Nat} {A W : sw_T} {σ : sd_Mem} {c d : Nat} {Q : Option Value → sd_Mem → Prop}
theorem nz_shlp {v : Nat} (h : v < 30) : nI 1 <<< (nI (v + 1) &&& 31) = nI (2 ^ (v + 1)) := nz_shl1 (by omega)
theorem c_Country_span {e : Nat} (hC : sd_isC c) (hX : sw_X σ c A) (hA : sw_AK A) (he : e < A 5 0 0) : sd_Call (sd_E1 L xs fm) (d + 1) y_Country_span [.ref c, .int (nI e)] σ Q ↔ Q (some (.int (nI (sw_sp A e)))) σ := by
  refine sd_Call.iff (fun Q hq => ?_) Q
  obtain ⟨k0, k1, k2, k3, k4, k5, k6, k7, k8, r0, r1, r2, r3, r4, k9⟩ := hC.all (L := L) (xs := xs) (fm := fm)
  obtain ⟨a1, a2, a3, a4, a5, a6⟩ := hX
  have bE := hA.2.2.1
  have bA := hA.1
  obtain ⟨e0, e1, e2⟩ := hA.2.2.2.2.2.2.1 e he
  have e3 : 2 ^ A 4 e 2 ≤ 2 ^ (A 4 e 3 + 1) := Nat.pow_le_pow_right (by decide) (by omega)
  rw [sd_Call.start (ls := [.ref c, .int (nI e), sd_un]) m_Country_span (by decide) (Nat.le_of_ble_eq_true rfl) rfl]
  simp (disch := first | exact sd_cr | exact sd_ci | exact sd_cu | exact sd_cl9 | assumption | omega | (apply nz_m; apply bA) | (apply nz_k; apply bA)) only [z_Country_span_0, z_Country_span_1, z_Country_span_2, z_Country_span_3, z_Country_span_4, z_Country_span_5, z_Country_span_6, z_Country_span_9, z_Country_span_10, z_Country_span_11, z_Country_span_12, z_Country_span_13, z_Country_span_14, z_Country_span_15, z_Country_span_16, z_Country_span_17, z_Country_span_18, z_Country_span_21, z_Country_span_22, z_Country_span_23, z_Country_span_24, z_Country_span_25, z_Country_span_26, z_Country_span_27, false_and, and_false, if_true, if_false, Decidable.not_not, sd_ci, sd_cr, sd_cl9, sd_cu, sd_cat0, sd_cat1, sd_rfS, sd_n01, sd_n11, sd_n1, sd_n10, sd_n00, sd_b01, sd_b0, true_and, and_true, and_self, not_true_eq_false, not_false_eq_true, false_implies, true_implies, implies_true, or_true, true_or, or_false, false_or, Option.toList_some, Option.toList_none, List.cons_append, List.nil_append, Nat.reduceAdd, Nat.reduceLeDiff, nz_sub, nz_lt0, nz_ge0, nz_le0, nz_gt0, nz_eq0, nz_eq1, nz_lt, nz_le, nz_eq, nz_cl, nz_in, nz_add, nz_mul, nz_m1, nz_m1', Nat.reduceMul, Nat.reduceSub, Nat.reduceLT, Nat.reduceEqDiff, not_false_eq_true, false_implies, true_implies, true_and, and_true, k0, k7, k8, r3, a6, nz_shl1]
  ((repeat' first | (refine And.intro ?_ ?_) | (intro _)) <;> first | omega | exact hq)
theorem c_Country_watchedPlaces {p : Nat} (hC : sd_isC c) (hX : sw_X σ c A) (hA : sw_AK A) (hp : p < 1000) : sd_Call (sd_E1 L xs fm) (d + 2) y_Country_watchedPlaces [.ref c, .int (nI p)] σ Q ↔ Q (some (.int (nI (sw_wp A p)))) σ := by
  refine sd_Call.iff (fun Q hq => ?_) Q
  obtain ⟨k0, k1, k2, k3, k4, k5, k6, k7, k8, r0, r1, r2, r3, r4, k9⟩ := hC.all (L := L) (xs := xs) (fm := fm)
  obtain ⟨a1, a2, a3, a4, a5, a6⟩ := id hX
  have bE := hA.2.2.1
  have bA := hA.1
  rw [sd_Call.start (ls := [.ref c, .int (nI p), sd_un, sd_un]) m_Country_watchedPlaces (by decide) (Nat.le_of_ble_eq_true rfl) rfl]
  simp (disch := first | exact sd_cr | exact sd_ci | exact sd_cu | exact sd_cl9 | assumption | omega) only [z_Country_watchedPlaces_0, z_Country_watchedPlaces_1, z_Country_watchedPlaces_2, z_Country_watchedPlaces_3, false_and, and_false, if_true, if_false, Decidable.not_not, sd_ci, sd_cr, sd_cl9, sd_cu, sd_cat0, sd_cat1, sd_rfS, sd_n01, sd_n11, sd_n1, sd_n10, sd_n00, sd_b01, sd_b0, true_and, and_true, and_self, not_true_eq_false, not_false_eq_true, false_implies, true_implies, implies_true, or_true, true_or, or_false, false_or, Option.toList_some, Option.toList_none, List.cons_append, List.nil_append, Nat.reduceAdd, Nat.reduceLeDiff]
  refine sd_loopF (fun i b => sd_Go (sd_E1 L xs fm) (d + 1) y_Country_watchedPlaces 4 [.ref c, .int (nI p), .int (nI b), .int (nI i)] [] σ Q) (fun e b => if A 4 e 1 = p then b ||| sw_sp A e else b) (A 5 0 0) 0 ?_ ?_
  · intro i b hi hh
    rw [z_Country_watchedPlaces_4]
    simp (disch := first | exact sd_cr | exact sd_ci | exact sd_cu | exact sd_cl9 | assumption | omega | (apply nz_m; apply bA) | (apply nz_k; apply bA)) only [z_Country_watchedPlaces_0, z_Country_watchedPlaces_1, z_Country_watchedPlaces_2, z_Country_watchedPlaces_3, z_Country_watchedPlaces_5, z_Country_watchedPlaces_6, z_Country_watchedPlaces_9, z_Country_watchedPlaces_12, z_Country_watchedPlaces_13, z_Country_watchedPlaces_16, z_Country_watchedPlaces_17, z_Country_watchedPlaces_18, z_Country_watchedPlaces_19, z_Country_watchedPlaces_20, z_Country_watchedPlaces_21, z_Country_watchedPlaces_22, z_Country_watchedPlaces_23, z_Country_watchedPlaces_26, z_Country_watchedPlaces_27, z_Country_watchedPlaces_28, z_Country_watchedPlaces_29, z_Country_watchedPlaces_32, z_Country_watchedPlaces_33, z_Country_watchedPlaces_34, z_Country_watchedPlaces_37, z_Country_watchedPlaces_40, z_Country_watchedPlaces_41, false_and, and_false, if_true, if_false, Decidable.not_not, sd_ci, sd_cr, sd_cl9, sd_cu, sd_cat0, sd_cat1, sd_rfS, sd_n01, sd_n11, sd_n1, sd_n10, sd_n00, sd_b01, sd_b0, true_and, and_true, and_self, not_true_eq_false, not_false_eq_true, false_implies, true_implies, implies_true, or_true, true_or, or_false, false_or, Option.toList_some, Option.toList_none, List.cons_append, List.nil_append, Nat.reduceAdd, Nat.reduceLeDiff, nz_sub, nz_lt0, nz_ge0, nz_le0, nz_gt0, nz_eq0, nz_eq1, nz_lt, nz_le, nz_eq, nz_cl, nz_in, nz_add, nz_mul, nz_m1, nz_m1', Nat.reduceMul, Nat.reduceSub, Nat.reduceLT, Nat.reduceEqDiff, not_false_eq_true, false_implies, true_implies, true_and, and_true, k0, k7, k8, r3, a2, a6, c_Country_span hC hX hA hi, nz_bor]
    ((repeat' first | (refine And.intro ?_ ?_) | (intro _)) <;> first | omega | (rw [if_neg (by assumption)] at hh; exact hh) | (rw [if_pos (by assumption)] at hh; exact hh))
  · rw [z_Country_watchedPlaces_4]
    simp (disch := first | exact sd_cr | exact sd_ci | exact sd_cu | exact sd_cl9 | assumption | omega | (apply nz_m; apply bA) | (apply nz_k; apply bA)) only [z_Country_watchedPlaces_0, z_Country_watchedPlaces_1, z_Country_watchedPlaces_2, z_Country_watchedPlaces_3, z_Country_watchedPlaces_5, z_Country_watchedPlaces_6, z_Country_watchedPlaces_9, z_Country_watchedPlaces_12, z_Country_watchedPlaces_13, z_Country_watchedPlaces_16, z_Country_watchedPlaces_17, z_Country_watchedPlaces_18, z_Country_watchedPlaces_19, z_Country_watchedPlaces_20, z_Country_watchedPlaces_21, z_Country_watchedPlaces_22, z_Country_watchedPlaces_23, z_Country_watchedPlaces_26, z_Country_watchedPlaces_27, z_Country_watchedPlaces_28, z_Country_watchedPlaces_29, z_Country_watchedPlaces_32, z_Country_watchedPlaces_33, z_Country_watchedPlaces_34, z_Country_watchedPlaces_37, z_Country_watchedPlaces_40, z_Country_watchedPlaces_41, false_and, and_false, if_true, if_false, Decidable.not_not, sd_ci, sd_cr, sd_cl9, sd_cu, sd_cat0, sd_cat1, sd_rfS, sd_n01, sd_n11, sd_n1, sd_n10, sd_n00, sd_b01, sd_b0, true_and, and_true, and_self, not_true_eq_false, not_false_eq_true, false_implies, true_implies, implies_true, or_true, true_or, or_false, false_or, Option.toList_some, Option.toList_none, List.cons_append, List.nil_append, Nat.reduceAdd, Nat.reduceLeDiff, nz_sub, nz_lt0, nz_ge0, nz_le0, nz_gt0, nz_eq0, nz_eq1, nz_lt, nz_le, nz_eq, nz_cl, nz_in, nz_add, nz_mul, nz_m1, nz_m1', Nat.reduceMul, Nat.reduceSub, Nat.reduceLT, Nat.reduceEqDiff, not_false_eq_true, false_implies, true_implies, true_and, and_true, k0, a2]
    exact ⟨fun _ => hq, fun q => by omega⟩
theorem c_Country_isWatched {p i : Nat} (hC : sd_isC c) (hX : sw_X σ c A) (hA : sw_AK A) (hp : p < 1000) (hi : i < 32) : sd_Call (sd_E1 L xs fm) (d + 3) y_Country_isWatched [.ref c, .int (nI p), .int (nI i)] σ Q ↔ Q (some (.int (sd_b (sw_seen A p i = true)))) σ := by
  refine sd_Call.iff (fun Q hq => ?_) Q
  have k0 := hC.1
  have hw := (sw_wp_inv p hA).1
  have h2 : sw_wp A p / 2 ^ i < 2147483648 := Nat.lt_of_le_of_lt (Nat.div_le_self _ _) (by omega)
  have h3 : sw_wp A p / 2 ^ i % 2 < 2147483648 := by omega
  have h4 : (sw_wp A p / 2 ^ i % 2 = 0) ↔ ¬ sw_seen A p i = true := by
    rw [← sw_wp_seen p i hA, ← sw_tb]; omega
  rw [sd_Call.start (ls := [.ref c, .int (nI p), .int (nI i)]) m_Country_isWatched (by decide) (Nat.le_of_ble_eq_true rfl) rfl]
  simp (disch := first | exact sd_cr | exact sd_ci | exact sd_cu | exact sd_cl9 | assumption | omega) only [z_Country_isWatched_0, z_Country_isWatched_1, z_Country_isWatched_2, z_Country_isWatched_5, z_Country_isWatched_6, z_Country_isWatched_7, z_Country_isWatched_8, z_Country_isWatched_9, z_Country_isWatched_12, z_Country_isWatched_13, z_Country_isWatched_16, z_Country_isWatched_17, false_and, and_false, if_true, if_false, Decidable.not_not, sd_ci, sd_cr, sd_cl9, sd_cu, sd_cat0, sd_cat1, sd_rfS, sd_n01, sd_n11, sd_n1, sd_n10, sd_n00, sd_b01, sd_b0, true_and, and_true, and_self, not_true_eq_false, not_false_eq_true, false_implies, true_implies, implies_true, or_true, true_or, or_false, false_or, Option.toList_some, Option.toList_none, List.cons_append, List.nil_append, Nat.reduceAdd, Nat.reduceLeDiff, nz_sub, nz_lt0, nz_ge0, nz_le0, nz_gt0, nz_eq0, nz_eq1, nz_lt, nz_le, nz_eq, nz_cl, nz_in, nz_add, nz_mul, nz_m1, nz_m1', Nat.reduceMul, Nat.reduceSub, Nat.reduceLT, Nat.reduceEqDiff, not_false_eq_true, false_implies, true_implies, true_and, and_true, k0, c_Country_watchedPlaces hC hX hA hp, nz_shr, nz_and1, h4]
  ((repeat' first | (refine And.intro ?_ ?_) | (intro _)) <;> first | (rw [sd_bT (by assumption)] at hq; exact hq) | (rw [sd_bF (by assumption)] at hq; exact hq))
theorem c_M_isSpanned {p i : Nat} (h : sw_Y σ A) (hA : sw_AK A) (hp : p < 1000) (hi : i < 1000) : sd_Call (sd_E1 L xs fm) (d + 1) y_M_isSpanned [.ref 271, .int (nI p), .int (nI i)] σ Q ↔ Q (some (.int (sd_b (sw_seen A p i = true)))) σ := by
  refine sd_Call.iff (fun Q hq => ?_) Q
  obtain ⟨a1, a2, a3, a4, a5, a6⟩ := h
  have bE := hA.2.2.1
  have bA := hA.1
  rw [sd_Call.start (ls := [.ref 271, .int (nI p), .int (nI i), sd_un]) m_M_isSpanned (by decide) (Nat.le_of_ble_eq_true rfl) rfl]
  simp (disch := first | exact sd_cr | exact sd_ci | exact sd_cu | exact sd_cl9 | assumption | omega) only [z_M_isSpanned_0, z_M_isSpanned_1, false_and, and_false, if_true, if_false, Decidable.not_not, sd_ci, sd_cr, sd_cl9, sd_cu, sd_cat0, sd_cat1, sd_rfS, sd_n01, sd_n11, sd_n1, sd_n10, sd_n00, sd_b01, sd_b0, true_and, and_true, and_self, not_true_eq_false, not_false_eq_true, false_implies, true_implies, implies_true, or_true, true_or, or_false, false_or, Option.toList_some, Option.toList_none, List.cons_append, List.nil_append, Nat.reduceAdd, Nat.reduceLeDiff]
  refine sd_loopS (fun e => sd_Go (sd_E1 L xs fm) d y_M_isSpanned 2 [.ref 271, .int (nI p), .int (nI i), .int (nI e)] [] σ Q) (fun e => decide (A 4 e 1 = p ∧ A 4 e 2 ≤ i ∧ i ≤ A 4 e 3)) (A 5 0 0) (fun b => Q (some (.int (sd_b (b = true)))) σ) ?_ ?_ (A 5 0 0) 0 (by omega) hq
  · intro e he hT hF
    rw [sd_bT rfl, decide_eq_true_iff] at hT
    rw [decide_eq_false_iff_not] at hF
    rw [z_M_isSpanned_2]
    simp (disch := first | exact sd_cr | exact sd_ci | exact sd_cu | exact sd_cl9 | assumption | omega | (apply nz_m; apply bA) | (apply nz_k; apply bA) | exact t_285 | exact t_283 | exact t_278 | exact t_281 | exact t_276 | exact t_274 | exact t_275 | exact t_277 | exact t_279 | exact t_280 | exact t_282 | exact t_284 | exact t_286 | exact t_287 | exact t_288 | exact t_289 | exact t_290 | exact t_291 | exact t_292 | exact t_293 | exact t_294 | exact t_295 | exact t_296 | exact t_297 | exact t_298 | exact t_299 | exact t_300) only [z_M_isSpanned_0, z_M_isSpanned_1, z_M_isSpanned_3, z_M_isSpanned_4, z_M_isSpanned_7, z_M_isSpanned_10, z_M_isSpanned_11, z_M_isSpanned_14, z_M_isSpanned_15, z_M_isSpanned_16, z_M_isSpanned_17, z_M_isSpanned_18, z_M_isSpanned_19, z_M_isSpanned_20, z_M_isSpanned_21, z_M_isSpanned_24, z_M_isSpanned_25, z_M_isSpanned_26, z_M_isSpanned_29, z_M_isSpanned_30, z_M_isSpanned_31, z_M_isSpanned_32, z_M_isSpanned_33, z_M_isSpanned_34, z_M_isSpanned_35, z_M_isSpanned_38, z_M_isSpanned_39, z_M_isSpanned_40, z_M_isSpanned_43, z_M_isSpanned_44, z_M_isSpanned_45, z_M_isSpanned_46, z_M_isSpanned_47, z_M_isSpanned_48, z_M_isSpanned_49, z_M_isSpanned_52, z_M_isSpanned_53, z_M_isSpanned_54, z_M_isSpanned_57, z_M_isSpanned_60, z_M_isSpanned_61, false_and, and_false, if_true, if_false, Decidable.not_not, sd_ci, sd_cr, sd_cl9, sd_cu, sd_cat0, sd_cat1, sd_rfS, sd_n01, sd_n11, sd_n1, sd_n10, sd_n00, sd_b01, sd_b0, true_and, and_true, and_self, not_true_eq_false, not_false_eq_true, false_implies, true_implies, implies_true, or_true, true_or, or_false, false_or, Option.toList_some, Option.toList_none, List.cons_append, List.nil_append, Nat.reduceAdd, Nat.reduceLeDiff, nz_sub, nz_lt0, nz_ge0, nz_le0, nz_gt0, nz_eq0, nz_eq1, nz_lt, nz_le, nz_eq, nz_cl, nz_in, nz_add, nz_mul, nz_m1, nz_m1', Nat.reduceMul, Nat.reduceSub, Nat.reduceLT, Nat.reduceEqDiff, not_false_eq_true, false_implies, true_implies, true_and, and_true, h_271, t_272, n_272, t_273, n_273, t_274, n_274, t_275, n_275, t_276, n_276, t_277, n_277, t_278, n_278, t_279, n_279, t_280, n_280, t_281, n_281, t_282, n_282, t_283, n_283, t_284, n_284, t_285, n_285, t_286, n_286, t_287, n_287, t_288, n_288, t_289, n_289, t_290, n_290, t_291, n_291, t_292, n_292, t_293, n_293, t_294, n_294, t_295, n_295, t_296, n_296, t_297, n_297, t_298, n_298, t_299, n_299, t_300, n_300, t_301, n_301, r_271_1, r_271_2, r_271_3, r_271_4, r_271_15, r_271_16, r_271_18, r_271_19, r_271_20, r_271_21, r_271_22, r_271_23, r_271_24, r_271_25, r_271_26, r_271_34, r_271_35, r_271_38, r_271_39, r_271_40, r_271_42, r_271_45, r_271_46, r_271_47, r_271_48, r_271_49, r_271_50, r_271_53, r_271_54, r_271_55, r_271_57, a2, a6]
    ((repeat' first | (refine And.intro ?_ ?_) | (intro _)) <;> first | omega | exact hF (by omega) | exact hT (by omega))
  · intro h9
    rw [sd_bF (by decide)] at h9
    rw [z_M_isSpanned_2]
    simp (disch := first | exact sd_cr | exact sd_ci | exact sd_cu | exact sd_cl9 | assumption | omega | (apply nz_m; apply bA) | (apply nz_k; apply bA) | exact t_285 | exact t_283 | exact t_278 | exact t_281 | exact t_276 | exact t_274 | exact t_275 | exact t_277 | exact t_279 | exact t_280 | exact t_282 | exact t_284 | exact t_286 | exact t_287 | exact t_288 | exact t_289 | exact t_290 | exact t_291 | exact t_292 | exact t_293 | exact t_294 | exact t_295 | exact t_296 | exact t_297 | exact t_298 | exact t_299 | exact t_300) only [z_M_isSpanned_0, z_M_isSpanned_1, z_M_isSpanned_3, z_M_isSpanned_4, z_M_isSpanned_7, z_M_isSpanned_10, z_M_isSpanned_11, z_M_isSpanned_14, z_M_isSpanned_15, z_M_isSpanned_16, z_M_isSpanned_17, z_M_isSpanned_18, z_M_isSpanned_19, z_M_isSpanned_20, z_M_isSpanned_21, z_M_isSpanned_24, z_M_isSpanned_25, z_M_isSpanned_26, z_M_isSpanned_29, z_M_isSpanned_30, z_M_isSpanned_31, z_M_isSpanned_32, z_M_isSpanned_33, z_M_isSpanned_34, z_M_isSpanned_35, z_M_isSpanned_38, z_M_isSpanned_39, z_M_isSpanned_40, z_M_isSpanned_43, z_M_isSpanned_44, z_M_isSpanned_45, z_M_isSpanned_46, z_M_isSpanned_47, z_M_isSpanned_48, z_M_isSpanned_49, z_M_isSpanned_52, z_M_isSpanned_53, z_M_isSpanned_54, z_M_isSpanned_57, z_M_isSpanned_60, z_M_isSpanned_61, false_and, and_false, if_true, if_false, Decidable.not_not, sd_ci, sd_cr, sd_cl9, sd_cu, sd_cat0, sd_cat1, sd_rfS, sd_n01, sd_n11, sd_n1, sd_n10, sd_n00, sd_b01, sd_b0, true_and, and_true, and_self, not_true_eq_false, not_false_eq_true, false_implies, true_implies, implies_true, or_true, true_or, or_false, false_or, Option.toList_some, Option.toList_none, List.cons_append, List.nil_append, Nat.reduceAdd, Nat.reduceLeDiff, nz_sub, nz_lt0, nz_ge0, nz_le0, nz_gt0, nz_eq0, nz_eq1, nz_lt, nz_le, nz_eq, nz_cl, nz_in, nz_add, nz_mul, nz_m1, nz_m1', Nat.reduceMul, Nat.reduceSub, Nat.reduceLT, Nat.reduceEqDiff, not_false_eq_true, false_implies, true_implies, true_and, and_true, h_271, t_272, n_272, t_273, n_273, t_274, n_274, t_275, n_275, t_276, n_276, t_277, n_277, t_278, n_278, t_279, n_279, t_280, n_280, t_281, n_281, t_282, n_282, t_283, n_283, t_284, n_284, t_285, n_285, t_286, n_286, t_287, n_287, t_288, n_288, t_289, n_289, t_290, n_290, t_291, n_291, t_292, n_292, t_293, n_293, t_294, n_294, t_295, n_295, t_296, n_296, t_297, n_297, t_298, n_298, t_299, n_299, t_300, n_300, t_301, n_301, r_271_1, r_271_2, r_271_3, r_271_4, r_271_15, r_271_16, r_271_18, r_271_19, r_271_20, r_271_21, r_271_22, r_271_23, r_271_24, r_271_25, r_271_26, r_271_34, r_271_35, r_271_38, r_271_39, r_271_40, r_271_42, r_271_45, r_271_46, r_271_47, r_271_48, r_271_49, r_271_50, r_271_53, r_271_54, r_271_55, r_271_57, a2]
    exact ⟨fun _ => h9, fun q => by omega⟩
end SD45
