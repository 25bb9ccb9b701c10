/-! strike, both -/
section SDAB
variable {L : Nat} {xs : Nat → Int32} {fm : Option Nat} {A W : sw_T} {B T : Nat} {V : Nat → sw_T} {im : Nat} {I : sw_T}
theorem q_strike_no (x l : Int32) (hno : ¬ ((∃ n : Nat, x = nI n ∧ n < A 0 0 0) ∧ ∃ n : Nat, l = nI n ∧ 0 < n ∧ n ≤ 5)) : sw_q L xs fm A W 11 y_X_strike y_M_strike [.int x, .int l] := by
  refine ⟨-1, fun σ c d Q h => ?_, fun σ d Q h => ?_⟩
  · refine sd_Call.iff (fun Q hq => ?_) Q
    rw [sd_Call.start (ls := [.ref 0, .int x, .int l]) m_X_strike (by decide) (Nat.le_of_ble_eq_true rfl) rfl]
    rcases nz_or x with hx | ⟨n, hn, rfl⟩
    · simp (disch := first | exact sd_cr | exact sd_ci | exact sd_cu | exact sd_cl9 | assumption | omega | exact t_259 | exact t_260 | exact t_261 | exact t_262 | exact t_263 | exact t_264 | exact t_254 | exact t_255 | exact t_256 | exact t_257 | exact t_266 | exact t_267 | exact t_268 | exact t_269 | exact t_270 | exact t_252 | exact t_240 | exact t_246 | exact t_2 | exact t_4 | exact t_5 | exact t_13 | exact t_14 | exact t_15 | exact t_16 | exact Or.inl t_39 | exact Or.inr t_7) only [z_X_strike_0, z_X_strike_1, z_X_strike_2, z_X_strike_5, z_X_strike_8, z_X_strike_9, z_X_strike_12, z_X_strike_15, z_X_strike_16, false_and, and_false, if_true, if_false, Decidable.not_not, sd_ci, sd_cr, sd_cl9, sd_cu, sd_cat0, sd_cat1, sd_rfS, sd_n01, sd_n11, sd_n1, sd_n10, sd_n00, sd_b01, sd_b0, true_and, and_true, and_self, not_true_eq_false, not_false_eq_true, false_implies, true_implies, implies_true, or_true, true_or, or_false, false_or, Option.toList_some, Option.toList_none, List.cons_append, List.nil_append, Nat.reduceAdd, Nat.reduceLeDiff, nz_sub, nz_lt0, nz_ge0, nz_le0, nz_gt0, nz_eq0, nz_eq1, nz_lt, nz_le, nz_eq, nz_cl, nz_in, nz_add, nz_mul, nz_m1, nz_m1', Nat.reduceMul, Nat.reduceSub, Nat.reduceLT, Nat.reduceEqDiff, not_false_eq_true, false_implies, true_implies, true_and, and_true, c_X_isPerson_n hx, h_0]
      exact hq
    by_cases hn2 : n < A 0 0 0
    case neg =>
      simp (disch := first | exact sd_cr | exact sd_ci | exact sd_cu | exact sd_cl9 | assumption | omega | exact t_259 | exact t_260 | exact t_261 | exact t_262 | exact t_263 | exact t_264 | exact t_254 | exact t_255 | exact t_256 | exact t_257 | exact t_266 | exact t_267 | exact t_268 | exact t_269 | exact t_270 | exact t_252 | exact t_240 | exact t_246 | exact t_2 | exact t_4 | exact t_5 | exact t_13 | exact t_14 | exact t_15 | exact t_16 | exact Or.inl t_39 | exact Or.inr t_7) only [z_X_strike_0, z_X_strike_1, z_X_strike_2, z_X_strike_5, z_X_strike_8, z_X_strike_9, z_X_strike_12, z_X_strike_15, z_X_strike_16, false_and, and_false, if_true, if_false, Decidable.not_not, sd_ci, sd_cr, sd_cl9, sd_cu, sd_cat0, sd_cat1, sd_rfS, sd_n01, sd_n11, sd_n1, sd_n10, sd_n00, sd_b01, sd_b0, true_and, and_true, and_self, not_true_eq_false, not_false_eq_true, false_implies, true_implies, implies_true, or_true, true_or, or_false, false_or, Option.toList_some, Option.toList_none, List.cons_append, List.nil_append, Nat.reduceAdd, Nat.reduceLeDiff, nz_sub, nz_lt0, nz_ge0, nz_le0, nz_gt0, nz_eq0, nz_eq1, nz_lt, nz_le, nz_eq, nz_cl, nz_in, nz_add, nz_mul, nz_m1, nz_m1', Nat.reduceMul, Nat.reduceSub, Nat.reduceLT, Nat.reduceEqDiff, not_false_eq_true, false_implies, true_implies, true_and, and_true, c_X_isPerson h hn, hn2, h_0]
      exact hq
    rcases nz_or l with hx | ⟨m, hm, rfl⟩
    · simp (disch := first | exact sd_cr | exact sd_ci | exact sd_cu | exact sd_cl9 | assumption | omega | exact t_259 | exact t_260 | exact t_261 | exact t_262 | exact t_263 | exact t_264 | exact t_254 | exact t_255 | exact t_256 | exact t_257 | exact t_266 | exact t_267 | exact t_268 | exact t_269 | exact t_270 | exact t_252 | exact t_240 | exact t_246 | exact t_2 | exact t_4 | exact t_5 | exact t_13 | exact t_14 | exact t_15 | exact t_16 | exact Or.inl t_39 | exact Or.inr t_7) only [z_X_strike_0, z_X_strike_1, z_X_strike_2, z_X_strike_5, z_X_strike_8, z_X_strike_9, z_X_strike_12, z_X_strike_15, z_X_strike_16, false_and, and_false, if_true, if_false, Decidable.not_not, sd_ci, sd_cr, sd_cl9, sd_cu, sd_cat0, sd_cat1, sd_rfS, sd_n01, sd_n11, sd_n1, sd_n10, sd_n00, sd_b01, sd_b0, true_and, and_true, and_self, not_true_eq_false, not_false_eq_true, false_implies, true_implies, implies_true, or_true, true_or, or_false, false_or, Option.toList_some, Option.toList_none, List.cons_append, List.nil_append, Nat.reduceAdd, Nat.reduceLeDiff, nz_sub, nz_lt0, nz_ge0, nz_le0, nz_gt0, nz_eq0, nz_eq1, nz_lt, nz_le, nz_eq, nz_cl, nz_in, nz_add, nz_mul, nz_m1, nz_m1', Nat.reduceMul, Nat.reduceSub, Nat.reduceLT, Nat.reduceEqDiff, not_false_eq_true, false_implies, true_implies, true_and, and_true, c_X_isPerson h hn, hn2, c_X_isLength_n hx, h_0]
      exact hq
    have hm2 : ¬ (0 < m ∧ m ≤ 5) := fun w => hno ⟨⟨n, rfl, hn2⟩, m, rfl, w⟩
    simp (disch := first | exact sd_cr | exact sd_ci | exact sd_cu | exact sd_cl9 | assumption | omega | exact t_259 | exact t_260 | exact t_261 | exact t_262 | exact t_263 | exact t_264 | exact t_254 | exact t_255 | exact t_256 | exact t_257 | exact t_266 | exact t_267 | exact t_268 | exact t_269 | exact t_270 | exact t_252 | exact t_240 | exact t_246 | exact t_2 | exact t_4 | exact t_5 | exact t_13 | exact t_14 | exact t_15 | exact t_16 | exact Or.inl t_39 | exact Or.inr t_7) only [z_X_strike_0, z_X_strike_1, z_X_strike_2, z_X_strike_5, z_X_strike_8, z_X_strike_9, z_X_strike_12, z_X_strike_15, z_X_strike_16, false_and, and_false, if_true, if_false, Decidable.not_not, sd_ci, sd_cr, sd_cl9, sd_cu, sd_cat0, sd_cat1, sd_rfS, sd_n01, sd_n11, sd_n1, sd_n10, sd_n00, sd_b01, sd_b0, true_and, and_true, and_self, not_true_eq_false, not_false_eq_true, false_implies, true_implies, implies_true, or_true, true_or, or_false, false_or, Option.toList_some, Option.toList_none, List.cons_append, List.nil_append, Nat.reduceAdd, Nat.reduceLeDiff, nz_sub, nz_lt0, nz_ge0, nz_le0, nz_gt0, nz_eq0, nz_eq1, nz_lt, nz_le, nz_eq, nz_cl, nz_in, nz_add, nz_mul, nz_m1, nz_m1', Nat.reduceMul, Nat.reduceSub, Nat.reduceLT, Nat.reduceEqDiff, not_false_eq_true, false_implies, true_implies, true_and, and_true, c_X_isPerson h hn, hn2, c_X_isLength hm, hm2, h_0]
    exact hq
  · refine sd_Call.iff (fun Q hq => ?_) Q
    rw [sd_Call.start (ls := [.ref 271, .int x, .int l, sd_un, sd_un, sd_un]) m_M_strike (by decide) (Nat.le_of_ble_eq_true rfl) rfl]
    simp (disch := first | exact sd_cr | exact sd_ci | exact sd_cu | exact sd_cl9 | assumption | omega) only [z_M_strike_0, z_M_strike_1, z_M_strike_2, false_and, and_false, if_true, if_false, Decidable.not_not, sd_ci, sd_cr, sd_cl9, sd_cu, sd_cat0, sd_cat1, sd_rfS, sd_n01, sd_n11, sd_n1, sd_n10, sd_n00, sd_b01, sd_b0, true_and, and_true, and_self, not_true_eq_false, not_false_eq_true, false_implies, true_implies, implies_true, or_true, true_or, or_false, false_or, Option.toList_some, Option.toList_none, List.cons_append, List.nil_append, Nat.reduceAdd, Nat.reduceLeDiff, h_271]
    replace h := h.w (i := 0) (v := nI 0) (by decide)
    generalize sd_wI σ 271 0 (nI 0) = σ at h hq
    rcases nz_or x with hx | ⟨n, hn, rfl⟩
    · simp (disch := first | exact sd_cr | exact sd_ci | exact sd_cu | exact sd_cl9 | assumption | omega | exact t_285 | exact t_283 | exact t_278 | exact t_281 | exact t_276 | exact t_274 | exact t_275 | exact t_277 | exact t_279 | exact t_280 | exact t_282 | exact t_284 | exact t_286 | exact t_287 | exact t_288 | exact t_289 | exact t_290 | exact t_291 | exact t_292 | exact t_293 | exact t_294 | exact t_295 | exact t_296 | exact t_297 | exact t_298 | exact t_299 | exact t_300) only [z_M_strike_5, z_M_strike_6, z_M_strike_7, z_M_strike_10, z_M_strike_13, z_M_strike_14, z_M_strike_15, z_M_strike_16, z_M_strike_19, z_M_strike_22, z_M_strike_25, z_M_strike_26, false_and, and_false, if_true, if_false, Decidable.not_not, sd_ci, sd_cr, sd_cl9, sd_cu, sd_cat0, sd_cat1, sd_rfS, sd_n01, sd_n11, sd_n1, sd_n10, sd_n00, sd_b01, sd_b0, true_and, and_true, and_self, not_true_eq_false, not_false_eq_true, false_implies, true_implies, implies_true, or_true, true_or, or_false, false_or, Option.toList_some, Option.toList_none, List.cons_append, List.nil_append, Nat.reduceAdd, Nat.reduceLeDiff, nz_sub, nz_lt0, nz_ge0, nz_le0, nz_gt0, nz_eq0, nz_eq1, nz_lt, nz_le, nz_eq, nz_cl, nz_in, nz_add, nz_mul, nz_m1, nz_m1', Nat.reduceMul, Nat.reduceSub, Nat.reduceLT, Nat.reduceEqDiff, not_false_eq_true, false_implies, true_implies, true_and, and_true, c_M_isPerson_n hx, h_271]
      exact hq
    by_cases hn2 : n < A 0 0 0
    case neg =>
      simp (disch := first | exact sd_cr | exact sd_ci | exact sd_cu | exact sd_cl9 | assumption | omega | exact t_285 | exact t_283 | exact t_278 | exact t_281 | exact t_276 | exact t_274 | exact t_275 | exact t_277 | exact t_279 | exact t_280 | exact t_282 | exact t_284 | exact t_286 | exact t_287 | exact t_288 | exact t_289 | exact t_290 | exact t_291 | exact t_292 | exact t_293 | exact t_294 | exact t_295 | exact t_296 | exact t_297 | exact t_298 | exact t_299 | exact t_300) only [z_M_strike_5, z_M_strike_6, z_M_strike_7, z_M_strike_10, z_M_strike_13, z_M_strike_14, z_M_strike_15, z_M_strike_16, z_M_strike_19, z_M_strike_22, z_M_strike_25, z_M_strike_26, false_and, and_false, if_true, if_false, Decidable.not_not, sd_ci, sd_cr, sd_cl9, sd_cu, sd_cat0, sd_cat1, sd_rfS, sd_n01, sd_n11, sd_n1, sd_n10, sd_n00, sd_b01, sd_b0, true_and, and_true, and_self, not_true_eq_false, not_false_eq_true, false_implies, true_implies, implies_true, or_true, true_or, or_false, false_or, Option.toList_some, Option.toList_none, List.cons_append, List.nil_append, Nat.reduceAdd, Nat.reduceLeDiff, nz_sub, nz_lt0, nz_ge0, nz_le0, nz_gt0, nz_eq0, nz_eq1, nz_lt, nz_le, nz_eq, nz_cl, nz_in, nz_add, nz_mul, nz_m1, nz_m1', Nat.reduceMul, Nat.reduceSub, Nat.reduceLT, Nat.reduceEqDiff, not_false_eq_true, false_implies, true_implies, true_and, and_true, c_M_isPerson h hn, hn2, h_271]
      exact hq
    rcases nz_or l with hx | ⟨m, hm, rfl⟩
    · simp (disch := first | exact sd_cr | exact sd_ci | exact sd_cu | exact sd_cl9 | assumption | omega | exact t_285 | exact t_283 | exact t_278 | exact t_281 | exact t_276 | exact t_274 | exact t_275 | exact t_277 | exact t_279 | exact t_280 | exact t_282 | exact t_284 | exact t_286 | exact t_287 | exact t_288 | exact t_289 | exact t_290 | exact t_291 | exact t_292 | exact t_293 | exact t_294 | exact t_295 | exact t_296 | exact t_297 | exact t_298 | exact t_299 | exact t_300) only [z_M_strike_5, z_M_strike_6, z_M_strike_7, z_M_strike_10, z_M_strike_13, z_M_strike_14, z_M_strike_15, z_M_strike_16, z_M_strike_19, z_M_strike_22, z_M_strike_25, z_M_strike_26, false_and, and_false, if_true, if_false, Decidable.not_not, sd_ci, sd_cr, sd_cl9, sd_cu, sd_cat0, sd_cat1, sd_rfS, sd_n01, sd_n11, sd_n1, sd_n10, sd_n00, sd_b01, sd_b0, true_and, and_true, and_self, not_true_eq_false, not_false_eq_true, false_implies, true_implies, implies_true, or_true, true_or, or_false, false_or, Option.toList_some, Option.toList_none, List.cons_append, List.nil_append, Nat.reduceAdd, Nat.reduceLeDiff, nz_sub, nz_lt0, nz_ge0, nz_le0, nz_gt0, nz_eq0, nz_eq1, nz_lt, nz_le, nz_eq, nz_cl, nz_in, nz_add, nz_mul, nz_m1, nz_m1', Nat.reduceMul, Nat.reduceSub, Nat.reduceLT, Nat.reduceEqDiff, not_false_eq_true, false_implies, true_implies, true_and, and_true, c_M_isPerson h hn, hn2, c_M_isIn, lz_n1 hx, h_271]
      exact hq
    have hm2 : ¬ (0 < m ∧ m ≤ 5) := fun w => hno ⟨⟨n, rfl, hn2⟩, m, rfl, w⟩
    have hm3 : ¬ (1 ≤ m ∧ m ≤ 5) := hm2
    simp (disch := first | exact sd_cr | exact sd_ci | exact sd_cu | exact sd_cl9 | assumption | omega | exact t_285 | exact t_283 | exact t_278 | exact t_281 | exact t_276 | exact t_274 | exact t_275 | exact t_277 | exact t_279 | exact t_280 | exact t_282 | exact t_284 | exact t_286 | exact t_287 | exact t_288 | exact t_289 | exact t_290 | exact t_291 | exact t_292 | exact t_293 | exact t_294 | exact t_295 | exact t_296 | exact t_297 | exact t_298 | exact t_299 | exact t_300) only [z_M_strike_5, z_M_strike_6, z_M_strike_7, z_M_strike_10, z_M_strike_13, z_M_strike_14, z_M_strike_15, z_M_strike_16, z_M_strike_19, z_M_strike_22, z_M_strike_25, z_M_strike_26, false_and, and_false, if_true, if_false, Decidable.not_not, sd_ci, sd_cr, sd_cl9, sd_cu, sd_cat0, sd_cat1, sd_rfS, sd_n01, sd_n11, sd_n1, sd_n10, sd_n00, sd_b01, sd_b0, true_and, and_true, and_self, not_true_eq_false, not_false_eq_true, false_implies, true_implies, implies_true, or_true, true_or, or_false, false_or, Option.toList_some, Option.toList_none, List.cons_append, List.nil_append, Nat.reduceAdd, Nat.reduceLeDiff, nz_sub, nz_lt0, nz_ge0, nz_le0, nz_gt0, nz_eq0, nz_eq1, nz_lt, nz_le, nz_eq, nz_cl, nz_in, nz_add, nz_mul, nz_m1, nz_m1', Nat.reduceMul, Nat.reduceSub, Nat.reduceLT, Nat.reduceEqDiff, not_false_eq_true, false_implies, true_implies, true_and, and_true, c_M_isPerson h hn, hn2, c_M_isIn, lz_i, lz_le, hm3, h_271]
    exact hq
/-- the least struck, whoever searches -/
theorem sw_least {p l : Nat} (hl : 0 < l) (hW : sw_OK (A 0 0 0) W) : ∃ b, b ≤ sw_vb W p ∧ sw_ok1 W (sw_vb W p) l b ∧ (∀ T, sw_ok1 W (sw_vb W p) l T → ¬ sw_kl T b) ∧ ∀ (wo : Nat → Int32) (H : Nat → Nat) (s : Nat → Int32), s 9 = nI 1 → s 10 = nI 0 → s 11 = -1 → sd_fold (sw_g (sw_sb (fun k => W 1 ((sw_bl W p (W 0 0 0)).getD k 0)) (fun k => 2 ^ (sw_bl W p (W 0 0 0)).getD k 0) (sw_bl W p (W 0 0 0)).length l 1) sw_hp (sw_ar wo H l) sw_en l) (8 ^ l) 0 s 11 = nI b := by
  have bs := hW.2.2.2.2.1
  have h8 : 0 < 8 ^ l := Nat.pow_pos (by decide)
  have hS : ∀ m N, sw_st (sw_sb (fun k => W 1 ((sw_bl W p (W 0 0 0)).getD k 0)) (fun k => 2 ^ (sw_bl W p (W 0 0 0)).getD k 0) (sw_bl W p (W 0 0 0)).length l 1) m N < 4096 := by
    intro m
    induction m with
    | zero => exact fun N => Nat.lt_of_lt_of_le Nat.zero_lt_one (by decide)
    | succ m ih =>
      intro N
      refine sw_sb_lt (fun v hv => ?_) (ih (N / 8))
      have hm : (sw_bl W p (W 0 0 0)).getD v 0 ∈ sw_bl W p (W 0 0 0) := by rw [sw_gD hv]; exact List.getElem_mem hv
      exact Nat.lt_of_lt_of_le (Nat.pow_lt_pow_right (by decide) (show (sw_bl W p (W 0 0 0)).getD v 0 < 12 by have := (sw_bl_mem.mp hm).1; omega)) (by decide)
  have key := fun (wo : Nat → Int32) (H : Nat → Nat) (s : Nat → Int32) (h9 : s 9 = nI 1) (h10 : s 10 = nI 0) (h11 : s 11 = -1) => sw_run_ki (wo := wo) (H := H) (hS l) (s := s) ⟨h9, Or.inl ⟨rfl, h11, h10⟩⟩ (8 ^ l)
  obtain ⟨_, hk⟩ := key (fun _ => 0) (fun _ => 0) (sw_u (sw_u (fun _ => nI 0) 9 (nI 1)) 11 (-1)) rfl rfl rfl
  rcases hk with ⟨h0, _⟩ | ⟨b, x, hb, hx, hbx, _, _, hmin⟩
  · omega
  obtain ⟨r1, r2, r3⟩ := sw_strike bs hx hbx hmin
  refine ⟨b, r1, r2, r3, fun wo H s h9 h10 h11 => ?_⟩
  obtain ⟨_, hk⟩ := key wo H s h9 h10 h11
  rcases hk with ⟨h0, _⟩ | ⟨b', x', hb', hx', hbx', e11, _, hmin'⟩
  · omega
  have q1 := hmin x' hx'
  have q2 := hmin' x hx
  rw [← hbx'] at q1
  rw [← hbx] at q2
  have : b' = b := by
    unfold sw_kl at q1 q2
    omega
  rw [e11, this]
theorem a_strike (x l : Int32) : sw_act L xs fm 11 y_X_strike y_M_strike [.int x, .int l] A W T V im I A W T V im I := by
  by_cases hno : (∃ n : Nat, x = nI n ∧ n < A 0 0 0) ∧ ∃ n : Nat, l = nI n ∧ 0 < n ∧ n ≤ 5
  case neg => exact (q_strike_no x l hno).act
  obtain ⟨⟨p, rfl, hp⟩, ⟨l, rfl, hl⟩⟩ := hno
  by_cases hW : sw_OK (A 0 0 0) W
  case neg => exact ⟨-1, fun σ c hs => absurd hs.1.2.2.2.2.2.2 hW, fun σ hm => absurd hm.1.2.2.2.2 hW⟩
  obtain ⟨b, r1, r2, r3, r4⟩ := sw_least (p := p) hl.1 hW
  refine sw_act_of (nI b) (fun σ c hs => ?_) (fun σ hm => ?_)
  · have h1 := hs.1
    have hC := h1.2.1
    have hA := h1.2.2.2.2.2.1
    have bP := hA.2.1
    have bs := hW.2.2.2.2.1
    have hbl := sw_bl_len (W := W) (p := p) (W 0 0 0)
    have hc0 : σ.2.2 0 4 = some c := h1.1
    obtain ⟨k0, _, _, _, _, _, _, _, _, _, _, _, _, rr4, _⟩ := hC.all (L := L) (xs := xs) (fm := fm)
    obtain ⟨σ1, σ2, k1, k2, e1, f2, v2, g2, z2⟩ := sw_prep (L := L) (xs := xs) (fm := fm) hs hp
    have hR := sw_vl_SR (σ := σ2) hA hW v2 g2 (by omega) (fun v hv => ⟨(sw_bl_mem.mp hv).1, (sw_bl_mem.mp hv).2.2.2⟩)
    have hans := r4 (σ2.1 269) (fun e => A 3 e 0) (sw_u (sw_u (sw_s0 (σ2.1 265) l) 9 (nI 1)) 11 (-1)) rfl rfl rfl
    have cr := fun (d : Nat) Q => c_Search_leastStruck (L := L) (xs := xs) (fm := fm) (σ := σ2) (d := d) (Q := Q) hR hl v2.1 z2
    rw [hans] at cr
    refine ⟨sd_wA σ2 265 (sd_fold (sw_g (sw_sb (fun k => W 1 ((sw_bl W p (W 0 0 0)).getD k 0)) (fun k => 2 ^ (sw_bl W p (W 0 0 0)).getD k 0) (sw_bl W p (W 0 0 0)).length l 1) sw_hp (sw_ar (σ2.1 269) (fun e => A 3 e 0) l) sw_en l) (8 ^ l) 0 (sw_u (sw_u (sw_s0 (σ2.1 265) l) 9 (nI 1)) 11 (-1))), f2.same, f2.hi, fun d Q => sd_Call.iff (fun Q hq => ?_) Q⟩
    have k1' := fun Q => k1 (d + 9) Q
    have k2' := fun Q => k2 (d + 7) Q
    have cr' := fun Q => cr (d + 1) Q
    have hc1 : σ1.2.2 0 4 = some c := by rw [e1]; exact hc0
    have hc2 : σ2.2.2 0 4 = some c := by rw [f2.2.2]; exact hc0
    have cp := fun Q => c_X_isPerson (L := L) (xs := xs) (fm := fm) (d := d + 9) (Q := Q) h1 (p := p) (by omega)
    have cl := fun Q => c_X_isLength (L := L) (xs := xs) (fm := fm) (σ := σ) (d := d + 9) (Q := Q) (p := l) (by omega)
    rw [sd_Call.start (ls := [.ref 0, .int (nI p), .int (nI l)]) m_X_strike (by decide) (Nat.le_of_ble_eq_true rfl) rfl]
    simp (disch := first | exact sd_cr | exact sd_ci | exact sd_cu | exact sd_cl9 | assumption | omega | exact t_259 | exact t_260 | exact t_261 | exact t_262 | exact t_263 | exact t_264 | exact t_254 | exact t_255 | exact t_256 | exact t_257 | exact t_266 | exact t_267 | exact t_268 | exact t_269 | exact t_270 | exact t_252 | exact t_240 | exact t_246 | exact t_2 | exact t_4 | exact t_5 | exact t_13 | exact t_14 | exact t_15 | exact t_16 | exact Or.inl t_39 | exact Or.inr t_7) only [z_X_strike_0, z_X_strike_1, z_X_strike_2, z_X_strike_5, z_X_strike_8, z_X_strike_9, z_X_strike_12, z_X_strike_15, z_X_strike_16, z_X_strike_17, z_X_strike_18, z_X_strike_21, z_X_strike_22, z_X_strike_25, z_X_strike_28, z_X_strike_29, z_X_strike_32, z_X_strike_33, z_X_strike_36, z_X_strike_39, z_X_strike_40, z_X_strike_43, z_X_strike_44, z_X_strike_47, z_X_strike_48, z_X_strike_51, false_and, and_false, if_true, if_false, Decidable.not_not, sd_ci, sd_cr, sd_cl9, sd_cu, sd_cat0, sd_cat1, sd_rfS, sd_n01, sd_n11, sd_n1, sd_n10, sd_n00, sd_b01, sd_b0, true_and, and_true, and_self, not_true_eq_false, not_false_eq_true, false_implies, true_implies, implies_true, or_true, true_or, or_false, false_or, Option.toList_some, Option.toList_none, List.cons_append, List.nil_append, Nat.reduceAdd, Nat.reduceLeDiff, nz_sub, nz_lt0, nz_ge0, nz_le0, nz_gt0, nz_eq0, nz_eq1, nz_lt, nz_le, nz_eq, nz_cl, nz_in, nz_add, nz_mul, nz_m1, nz_m1', Nat.reduceMul, Nat.reduceSub, Nat.reduceLT, Nat.reduceEqDiff, not_false_eq_true, false_implies, true_implies, true_and, and_true, h_0, h_1, t_2, n_2, h_3, t_4, n_4, t_5, n_5, h_6, t_7, n_7, t_8, n_8, t_9, n_9, t_10, n_10, t_11, n_11, t_12, n_12, t_13, n_13, t_14, n_14, t_15, n_15, t_16, n_16, h_17, h_18, t_19, n_19, t_20, n_20, t_21, n_21, t_22, n_22, h_28, t_29, n_29, t_30, n_30, t_31, n_31, t_32, n_32, h_38, t_39, n_39, t_240, n_240, t_246, n_246, t_252, n_252, h_253, t_254, n_254, t_255, n_255, t_256, n_256, t_257, n_257, h_258, t_259, n_259, t_260, n_260, t_261, n_261, t_262, n_262, t_263, n_263, t_264, n_264, h_265, t_266, n_266, t_267, n_267, t_268, n_268, t_269, n_269, t_270, n_270, r_0_0, r_0_1, r_0_2, r_0_3, r_0_6, r_0_7, r_0_8, r_0_9, r_0_11, r_0_12, r_0_13, r_0_14, r_0_15, r_1_0, r_3_0, r_3_1, r_3_2, r_6_0, r_6_1, r_6_4, r_6_5, r_6_7, r_7_0, r_7_1, r_7_2, r_7_3, r_7_4, r_17_0, r_17_1, r_18_1, r_18_2, r_18_3, r_18_4, r_18_6, r_28_1, r_28_2, r_28_3, r_28_4, r_28_6, r_38_0, r_253_0, r_253_1, r_253_2, r_253_3, r_258_0, r_258_1, r_258_3, r_258_4, r_258_6, r_258_8, r_265_0, r_265_1, r_265_3, r_265_4, r_265_5, r_0_4, r_0_5, cp, hp, cl, hl, hc0, hc1, hc2, k0, rr4, k1', k2', cr']
    exact hq
  · have h0 := (hm.w (v := nI 0)).1
    have bP := h0.2.2.2.1.2.1
    have hvb := sw_vb_lt W p hW.2.2.2.2.1
    obtain ⟨f', g⟩ := l_M_strike (L := L) (xs := xs) (fm := fm) (p := p) h0 hl hvb (fun v _ hv => sw_vb_k hv) r1 r2 r3 (sw_pc b) 0 ((sd_wI σ 271 0 (nI 0)).1 293) (by omega)
    rw [wA_same] at g
    refine ⟨sd_wA (sd_wI σ 271 0 (nI 0)) 293 f', sw_fr_tr.1, sw_fr_tr.2, fun d Q => sd_Call.iff (fun Q hq => ?_) Q⟩
    have g2 := g (d + 6) Q hq
    rw [sd_Call.start (ls := [.ref 271, .int (nI p), .int (nI l), sd_un, sd_un, sd_un]) m_M_strike (by decide) (Nat.le_of_ble_eq_true rfl) rfl]
    simp (disch := first | exact sd_cr | exact sd_ci | exact sd_cu | exact sd_cl9 | assumption | omega) only [z_M_strike_0, z_M_strike_1, z_M_strike_2, false_and, and_false, if_true, if_false, Decidable.not_not, sd_ci, sd_cr, sd_cl9, sd_cu, sd_cat0, sd_cat1, sd_rfS, sd_n01, sd_n11, sd_n1, sd_n10, sd_n00, sd_b01, sd_b0, true_and, and_true, and_self, not_true_eq_false, not_false_eq_true, false_implies, true_implies, implies_true, or_true, true_or, or_false, false_or, Option.toList_some, Option.toList_none, List.cons_append, List.nil_append, Nat.reduceAdd, Nat.reduceLeDiff, h_271]
    have hm1 : 1 ≤ l ∧ l ≤ 5 := hl
    have cp := fun Q => c_M_isPerson (L := L) (xs := xs) (fm := fm) (d := d + 9) (Q := Q) h0 (p := p) (by omega)
    have cv := fun Q => c_M_vowsOf (L := L) (xs := xs) (fm := fm) (d := d + 8) (Q := Q) h0 (p := p) (by omega)
    simp (disch := first | exact sd_cr | exact sd_ci | exact sd_cu | exact sd_cl9 | assumption | omega | exact t_285 | exact t_283 | exact t_278 | exact t_281 | exact t_276 | exact t_274 | exact t_275 | exact t_277 | exact t_279 | exact t_280 | exact t_282 | exact t_284 | exact t_286 | exact t_287 | exact t_288 | exact t_289 | exact t_290 | exact t_291 | exact t_292 | exact t_293 | exact t_294 | exact t_295 | exact t_296 | exact t_297 | exact t_298 | exact t_299 | exact t_300) only [z_M_strike_5, z_M_strike_6, z_M_strike_7, z_M_strike_10, z_M_strike_13, z_M_strike_14, z_M_strike_15, z_M_strike_16, z_M_strike_19, z_M_strike_22, z_M_strike_25, z_M_strike_26, z_M_strike_27, z_M_strike_28, z_M_strike_29, z_M_strike_32, z_M_strike_33, z_M_strike_34, false_and, and_false, if_true, if_false, Decidable.not_not, sd_ci, sd_cr, sd_cl9, sd_cu, sd_cat0, sd_cat1, sd_rfS, sd_n01, sd_n11, sd_n1, sd_n10, sd_n00, sd_b01, sd_b0, true_and, and_true, and_self, not_true_eq_false, not_false_eq_true, false_implies, true_implies, implies_true, or_true, true_or, or_false, false_or, Option.toList_some, Option.toList_none, List.cons_append, List.nil_append, Nat.reduceAdd, Nat.reduceLeDiff, nz_sub, nz_lt0, nz_ge0, nz_le0, nz_gt0, nz_eq0, nz_eq1, nz_lt, nz_le, nz_eq, nz_cl, nz_in, nz_add, nz_mul, nz_m1, nz_m1', Nat.reduceMul, Nat.reduceSub, Nat.reduceLT, Nat.reduceEqDiff, not_false_eq_true, false_implies, true_implies, true_and, and_true, cp, hp, c_M_isIn, lz_i, lz_le, hm1, h_271, cv]
    exact g2 _
end SDAB
