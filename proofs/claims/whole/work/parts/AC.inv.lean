/-! the whole invariant; a step of the law -/
def sw_lt (j h i r x q k : Nat) : Int32 := nI (if k = 0 then j else if k = 1 then h else if k = 2 then i else if k = 3 then r else if k = 4 then x else q)
/-- the worth of a taste by its letters -/
def sw_wv (U : sw_T) (t j h i r x q : Nat) : Int32 := sw_wt (U 5 t) (U 4 t 0) (sw_lt j h i r x q)
/-- the reference's letters -/
def sw_l6 (σ : sd_Mem) (ℓ : Nat → Int32) : Prop := σ.1 275 106 = ℓ 0 ∧ σ.1 275 104 = ℓ 1 ∧ σ.1 275 105 = ℓ 2 ∧ σ.1 275 114 = ℓ 3 ∧ σ.1 275 120 = ℓ 4 ∧ σ.1 275 113 = ℓ 5
/-- what the reference's reading may change -/
def sw_fM (σ σ' : sd_Mem) : Prop := (∀ e, e ≠ 271 → σ'.1 e = σ.1 e) ∧ (∀ j, j < 8 ∨ (14 < j ∧ j ≠ 17) → σ'.1 271 j = σ.1 271 j) ∧ σ'.2.1 = σ.2.1 ∧ ∀ k i, k ≠ 271 → σ'.2.2 k i = σ.2.2 k i
theorem sw_fM.rf {σ : sd_Mem} : sw_fM σ σ := ⟨fun _ _ => rfl, fun _ _ => rfl, rfl, fun _ _ _ => rfl⟩
theorem sw_fM.tr {σ σ1 σ2 : sd_Mem} (h1 : sw_fM σ σ1) (h2 : sw_fM σ1 σ2) : sw_fM σ σ2 := ⟨fun e a => (h2.1 e a).trans (h1.1 e a), fun j a => (h2.2.1 j a).trans (h1.2.1 j a), h2.2.2.1.trans h1.2.2.1, fun k i a => (h2.2.2.2 k i a).trans (h1.2.2.2 k i a)⟩
/-- a text of n bytes is a taste of these steps -/
def sw_gt (L : Nat) (xs : Nat → Int32) (fm : Option Nat) (b : Nat → Nat) (n : Nat) (sp : Nat → Nat) (sn : Nat) : Prop := ∀ (σ : sd_Mem) (a o : Nat) (ℓ : Nat → Int32), (a = 272 ∨ a = 273) → o + n ≤ sd_ln a → (∀ i, i < n → σ.1 a (o + i) = sw_by (b i)) → sw_l6 σ ℓ → (∀ k, k < 6 → ∃ m, m < 100 ∧ ℓ k = nI m) → ∃ σ', sw_fM σ σ' ∧ σ'.1 271 14 = sw_wt sp sn ℓ ∧ ∀ (d : Nat) Q, sd_Call (sd_E1 L xs fm) (d + 60) y_M_goThrough [.ref 271, .ref a, .int (nI o), .int (nI n)] σ Q ↔ Q none σ'
def sw_vT (L : Nat) (xs : Nat → Int32) (fm : Option Nat) (U : sw_T) : Prop := ∀ t, t < U 2 0 0 → sw_gt L xs fm (U 7 t) (U 6 t 0) (U 5 t) (U 4 t 0) ∧ ∀ i, i < U 4 t 0 → sw_spk (U 5 t i)
/-- the reference's tastes, letters, and what it has kept of JOY -/
def sw_vM (σ : sd_Mem) (U : sw_T) : Prop := σ.1 271 7 = nI (U 2 0 0) ∧ σ.1 271 36 = sw_hd (U 3 0 0) ∧ (∀ t, t < U 2 0 0 → σ.1 274 t = nI (U 6 t 0) ∧ ∀ i, i < U 6 t 0 → σ.1 273 (240 * t + i) = sw_by (U 7 t i)) ∧ (∀ k, k < 128 → ∃ n, n < 100 ∧ σ.1 275 k = nI n) ∧ (∀ s, s < 5760 → σ.1 295 s = nI 0 ∨ ∃ t m, t < U 2 0 0 ∧ m < 100 ∧ σ.1 295 s = nI (1 + t + 4 * m)) ∧ ∀ d i r p t j h, d < 8 → i < 12 → r < 12 → p < 5 → t < U 2 0 0 → j ≤ 9 → h ≤ 9 → σ.1 295 (((d * 12 + i) * 12 + r) * 5 + p) = nI (1 + t + 4 * (j + 10 * h)) → σ.1 296 (((d * 12 + i) * 12 + r) * 5 + p) = sw_wv U t j h i r d p
def sw_Inv (L : Nat) (xs : Nat → Int32) (fm : Option Nat) (B : Nat) (σ : sd_Mem) (c : Nat) (A W : sw_T) (T : Nat) (V : Nat → sw_T) (im : Nat) (I U : sw_T) : Prop := sw_pI B A W T V im I ∧ sw_sI σ c A W T V im I ∧ sw_mI σ A W T V im I ∧ sw_pU U ∧ sw_tX σ U ∧ sw_vX σ U ∧ sw_tM σ U ∧ sw_vM σ U ∧ sw_vT L xs fm U
def sw_step (L : Nat) (xs : Nat → Int32) (fm : Option Nat) (n yX yM : Nat) (av : List Value) : Prop := ∀ B σ c A W T V im I U, B ≤ 100000 → sw_Inv L xs fm B σ c A W T V im I U → ∃ (r : Int32) (σ1 σ2 : sd_Mem) (c' : Nat) (A' W' : sw_T) (T' : Nat) (V' : Nat → sw_T) (im' : Nat) (I' U' : sw_T), (∀ (d : Nat) Q, sd_Call (sd_E1 L xs fm) (d + n) yX (.ref 0 :: av) σ Q ↔ Q (some (.int r)) σ1) ∧ (∀ (d : Nat) Q, sd_Call (sd_E1 L xs fm) (d + n) yM (.ref 271 :: av) σ1 Q ↔ Q (some (.int r)) σ2) ∧ sw_Inv L xs fm (B + 60) σ2 c' A' W' T' V' im' I' U'
section SDAC
variable {L : Nat} {xs : Nat → Int32} {fm : Option Nat} {A W : sw_T} {B T : Nat} {V : Nat → sw_T} {im : Nat} {I U : sw_T} {σ σ' : sd_Mem} {c : Nat}
theorem sw_mI.lo (h : sw_mI σ A W T V im I) (e : ∀ k, 271 ≤ k → σ'.1 k = σ.1 k) : sw_mI σ' A W T V im I := by
  obtain ⟨h1, h2, h3, h4, h5, h6⟩ := h
  refine ⟨h1.fr ⟨by rw [e 271 (by decide)], by rw [e 271 (by decide)], by rw [e 271 (by decide)], by rw [e 271 (by decide)], by rw [e 271 (by decide)]⟩ ⟨e _ (by decide), e _ (by decide), e _ (by decide), e _ (by decide), e _ (by decide), e _ (by decide), e _ (by decide)⟩, by rw [e 285 (by decide)]; exact h2, h3.fr (by rw [e 271 (by decide)]) (e _ (by decide)), h4, by rw [e 271 (by decide)]; exact h5, by rw [e 300 (by decide)]; exact h6⟩
theorem sw_sI.up (h : sw_sI σ c A W T V im I) (e : ∀ k, k < 271 → σ'.1 k = σ.1 k) (e2 : ∀ k i, k ≠ 271 → σ'.2.2 k i = σ.2.2 k i) : sw_sI σ' c A W T V im I := by
  obtain ⟨⟨hc, hC, hX, hT, hS, hA, hW⟩, h2, h3, h4, h5, ⟨h6, h7, h8⟩, h9⟩ := h
  have hcc := hC.2.2.2.2.2.2.2.2.2.2.2
  refine ⟨⟨(e2 0 4 (by decide)).trans hc, hC, hX.fr (fun j hj => e _ (by omega)), hT.fr (by rw [e 258 (by decide)]) (by rw [e 258 (by decide)]) (by rw [e 0 (by decide)]) (e _ (by decide)) (e _ (by decide)) (e _ (by decide)) (e _ (by decide)), hS.fr (fun j hj => e _ (by omega)), hA, hW⟩, (e2 0 5 (by decide)).trans h2, h3.fr (fun k _ _ => e k (by omega)), h4.fr (e _ (by decide)), fun j hj => (h5 j hj).fr (e _ (by decide)), ⟨h6, by rw [e 0 (by decide)]; exact h7, fun q => ⟨(h8 q).1.fr (fun j hj => e _ (by omega)), (h8 q).2.fr (e _ (by decide))⟩⟩, by rw [e 270 (by decide)]; exact h9⟩
theorem sw_tX.fr (h : sw_tX σ U) (e1 : σ'.1 1 1 = σ.1 1 1) (e2 : σ'.1 2 = σ.1 2) : sw_tX σ' U := by
  unfold sw_tX at h ⊢
  rw [e1, e2]; exact h
theorem sw_vX.fr (h : sw_vX σ U) (e1 : ∀ j, j ≠ 6 → σ'.1 6 j = σ.1 6 j) (e2 : ∀ k, 8 ≤ k → k ≤ 13 → σ'.1 k = σ.1 k) (hU : U 2 0 0 ≤ 4) : sw_vX σ' U := by
  obtain ⟨h1, h2, h3⟩ := h
  refine ⟨by rw [e1 2 (by decide)]; exact h1, by rw [e1 3 (by decide)]; exact h2, fun t ht => ?_⟩
  rw [e2 13 (by decide) (by decide), e2 (8 + t) (by omega) (by omega)]
  exact h3 t ht
theorem sw_tM.fr (h : sw_tM σ U) (e1 : σ'.1 271 6 = σ.1 271 6) (e2 : σ'.1 272 = σ.1 272) : sw_tM σ' U := by
  unfold sw_tM at h ⊢
  rw [e1, e2]; exact h
theorem sw_vM.fr (h : sw_vM σ U) (e1 : σ'.1 271 7 = σ.1 271 7) (e2 : σ'.1 271 36 = σ.1 271 36) (e3 : ∀ k, k = 273 ∨ k = 274 ∨ k = 275 ∨ k = 295 ∨ k = 296 → σ'.1 k = σ.1 k) : sw_vM σ' U := by
  unfold sw_vM at h ⊢
  rw [e1, e2, e3 273 (by omega), e3 274 (by omega), e3 275 (by omega), e3 295 (by omega), e3 296 (by omega)]
  exact h
/-- acts are steps -/
theorem sw_act_step {n yX yM : Nat} {av : List Value} (ha : ∀ B A W T V im I, B ≤ 100000 → sw_pI B A W T V im I → ∃ A' W' T' V' im' I', sw_pI (B + 60) A' W' T' V' im' I' ∧ sw_act L xs fm n yX yM av A W T V im I A' W' T' V' im' I') : sw_step L xs fm n yX yM av := by
  intro B σ c A W T V im I U hB ⟨hp, hs, hm, hU, htX, hvX, htM, hvM, hvT⟩
  obtain ⟨A', W', T', V', im', I', hp', r, h1, h2⟩ := ha B A W T V im I hB hp
  obtain ⟨σ1, s1, f1, c1⟩ := h1 σ c hs
  have lo1 : ∀ k, 271 ≤ k → σ1.1 k = σ.1 k := fun k hk => f1.cell k (fun i => by
    unfold sw_aX
    rw [decide_eq_false (by omega), decide_eq_false (show ¬ k = 0 by omega), decide_eq_false (show ¬ k = 258 by omega), decide_eq_false (show ¬ (k = 261 ∨ k = 262) by omega), decide_eq_false (show ¬ k < 271 by omega)]
    rfl)
  obtain ⟨σ2, s2, f2, c2⟩ := h2 σ1 (hm.lo lo1)
  have up2 : ∀ k, k < 271 → σ2.1 k = σ1.1 k := fun k hk => f2.cell k (fun i => by
    unfold sw_aM
    rw [decide_eq_false (show ¬ k ∈ [285, 290, 298, 299, 300] by simp only [List.mem_cons, List.not_mem_nil, or_false]; omega), decide_eq_false (show ¬ k = 271 by omega), decide_eq_false (show ¬ 271 ≤ k by omega)]
    rfl)
  refine ⟨r, σ1, σ2, c, A', W', T', V', im', I', U, c1, c2, hp', s1.up up2 f2.2, s2, hU, ?_, ?_, ?_, ?_, hvT⟩
  · exact htX.fr (by rw [up2 1 (by decide)]; exact f1.1 1 1 rfl) (by rw [up2 2 (by decide)]; exact f1.cell 2 (fun _ => rfl))
  · refine hvX.fr (fun j hj => ?_) (fun k h1 h2 => ?_) hU.2.2.1
    · rw [up2 6 (by decide)]
      refine f1.1 6 j ?_
      unfold sw_aX sw_scr
      rw [decide_eq_false (show ¬ j = 6 from hj)]
      rfl
    · rw [up2 k (by omega)]
      refine f1.cell k (fun i => ?_)
      have : k = 8 ∨ k = 9 ∨ k = 10 ∨ k = 11 ∨ k = 12 ∨ k = 13 := by omega
      rcases this with rfl | rfl | rfl | rfl | rfl | rfl <;> rfl
  · refine htM.fr ?_ ?_
    · rw [f2.1 271 6 rfl, lo1 271 (by decide)]
    · rw [f2.cell 272 (fun _ => rfl), lo1 272 (by decide)]
  · refine hvM.fr ?_ ?_ (fun k hk => ?_)
    · rw [f2.1 271 7 rfl, lo1 271 (by decide)]
    · rw [f2.1 271 36 rfl, lo1 271 (by decide)]
    · rw [f2.cell k (fun i => by rcases hk with rfl | rfl | rfl | rfl | rfl <;> rfl), lo1 k (by omega)]
/-- a question that changes nothing, or scratch -/
theorem sw_act_same {n yX yM : Nat} {av : List Value} (ha : ∀ B A W T V im I, B ≤ 100000 → sw_pI B A W T V im I → sw_act L xs fm n yX yM av A W T V im I A W T V im I) : sw_step L xs fm n yX yM av := sw_act_step (fun B A W T V im I hB hp => ⟨A, W, T, V, im, I, hp.mono (by omega), ha B A W T V im I hB hp⟩)
theorem sw_q_step {n yX yM : Nat} {av : List Value} (ha : ∀ A W, sw_q L xs fm A W n yX yM av) : sw_step L xs fm n yX yM av := sw_act_same (fun B A W T V im I hB hp => (ha A W).act)
/-- both sides once more, from any state that the class leaves -/
theorem sw_Inv_step {n yX yM : Nat} {av : List Value} {r : Int32} {σ1 σ2 : sd_Mem} {A' W' : sw_T} {T' : Nat} {V' : Nat → sw_T} {im' : Nat} {I' U' : sw_T} {c' B' : Nat} (hc1 : ∀ (d : Nat) Q, sd_Call (sd_E1 L xs fm) (d + n) yX (.ref 0 :: av) σ Q ↔ Q (some (.int r)) σ1) (hc2 : ∀ (d : Nat) Q, sd_Call (sd_E1 L xs fm) (d + n) yM (.ref 271 :: av) σ1 Q ↔ Q (some (.int r)) σ2) (hI : sw_Inv L xs fm B' σ2 c' A' W' T' V' im' I' U') (hB : B' ≤ B + 60) : ∃ (r : Int32) (σ1 σ2 : sd_Mem) (c' : Nat) (A' W' : sw_T) (T' : Nat) (V' : Nat → sw_T) (im' : Nat) (I' U' : sw_T), (∀ (d : Nat) Q, sd_Call (sd_E1 L xs fm) (d + n) yX (.ref 0 :: av) σ Q ↔ Q (some (.int r)) σ1) ∧ (∀ (d : Nat) Q, sd_Call (sd_E1 L xs fm) (d + n) yM (.ref 271 :: av) σ1 Q ↔ Q (some (.int r)) σ2) ∧ sw_Inv L xs fm (B + 60) σ2 c' A' W' T' V' im' I' U' := ⟨r, σ1, σ2, c', A', W', T', V', im', I', U', hc1, hc2, hI.1.mono hB, hI.2⟩
end SDAC
