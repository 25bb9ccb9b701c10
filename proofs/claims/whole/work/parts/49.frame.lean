/-! what may change: cells and slots in K; scratch -/
def sw_fr (K : Nat → Nat → Bool) (σ σ' : sd_Mem) : Prop := (∀ k i, K k i = false → σ'.1 k i = σ.1 k i) ∧ ∀ k i, k ≠ 271 → σ'.2.2 k i = σ.2.2 k i
theorem sw_fr.rf {K : Nat → Nat → Bool} {σ : sd_Mem} : sw_fr K σ σ := ⟨fun _ _ _ => rfl, fun _ _ _ => rfl⟩
theorem sw_fr.tr {K : Nat → Nat → Bool} {σ σ1 σ2 : sd_Mem} (h1 : sw_fr K σ σ1) (h2 : sw_fr K σ1 σ2) : sw_fr K σ σ2 := ⟨fun k i h => (h2.1 k i h).trans (h1.1 k i h), fun k i h => (h2.2 k i h).trans (h1.2 k i h)⟩
theorem sw_fr.mono {K K' : Nat → Nat → Bool} {σ σ' : sd_Mem} (h : sw_fr K σ σ') (hK : ∀ k i, K' k i = false → K k i = false) : sw_fr K' σ σ' := ⟨fun k i q => h.1 k i (hK k i q), h.2⟩
theorem sw_fr.wI {K : Nat → Nat → Bool} {σ σ' : sd_Mem} {k i : Nat} {v : Int32} (h : sw_fr K σ σ') (hK : K k i = true) : sw_fr K σ (sd_wI σ' k i v) := ⟨fun a j q => (wI_1).trans ((if_neg (fun z => by rw [z.1, z.2, hK] at q; cases q)).trans (h.1 a j q)), h.2⟩
theorem sw_fr.wA {K : Nat → Nat → Bool} {σ σ' : sd_Mem} {k : Nat} {f : Nat → Int32} (h : sw_fr K σ σ') (hK : ∀ j, K k j = true) : sw_fr K σ (sd_wA σ' k f) := ⟨fun a j q => (wA_1).trans ((if_neg (fun z => by rw [z, hK] at q; cases q)).trans (h.1 a j q)), h.2⟩
theorem sw_fr.wL {K : Nat → Nat → Bool} {σ σ' : sd_Mem} {k i : Nat} {v : Int64} (h : sw_fr K σ σ') : sw_fr K σ (sd_wL σ' k i v) := ⟨fun a j q => h.1 a j q, h.2⟩
theorem sw_fr.wR {K : Nat → Nat → Bool} {σ σ' : sd_Mem} {i : Nat} {v : Option Nat} (h : sw_fr K σ σ') : sw_fr K σ (sd_wR σ' 271 i v) := ⟨fun a j q => h.1 a j q, fun k j hk => (wR_3).trans ((if_neg (fun z => hk z.1)).trans (h.2 k j hk))⟩
/-- scratch of the class and of the reference -/
def sw_scr (k i : Nat) : Bool := decide (k ∈ [4, 5, 14, 15, 16, 247, 248, 249, 250, 251, 252, 254, 255, 256, 257, 263, 264, 265, 266, 267, 268, 269, 277, 279, 280, 282, 284, 286, 287, 288, 289, 291, 292, 293, 294, 297, 301]) || (decide (k = 1) && decide (i = 2)) || (decide (k = 6) && decide (i = 6)) || (decide (k = 258) && decide (i = 7)) || (decide (k = 271) && decide (i ∈ [0, 8, 9, 10, 11, 12, 13, 14, 17, 30, 31, 32, 33, 41, 51, 52]))
abbrev sw_same (σ σ' : sd_Mem) : Prop := sw_fr sw_scr σ σ'
theorem sw_S.fr {σ σ' : sd_Mem} {k P : Nat} {W : sw_T} (h : sw_S σ k P W) (hf : ∀ j, j < 5 → σ'.1 (k + j) = σ.1 (k + j)) : sw_S σ' k P W := by
  have e0 := hf 0 (by decide)
  rw [Nat.add_zero] at e0
  unfold sw_S sd_VS at h ⊢
  rw [e0, hf 1 (by decide), hf 2 (by decide), hf 3 (by decide), hf 4 (by decide)]
  exact h
theorem sw_X.fr {σ σ' : sd_Mem} {c : Nat} {A : sw_T} (h : sw_X σ c A) (hf : ∀ j, j < 5 → σ'.1 (c + j) = σ.1 (c + j)) : sw_X σ' c A := by
  have e0 := hf 0 (by decide)
  rw [Nat.add_zero] at e0
  unfold sw_X at h ⊢
  rw [e0, hf 1 (by decide), hf 2 (by decide), hf 3 (by decide), hf 4 (by decide)]
  exact h
theorem sw_XT.fr {σ σ' : sd_Mem} {A : sw_T} (h : sw_XT σ A) (h1 : σ'.1 258 2 = σ.1 258 2) (h2 : σ'.1 258 5 = σ.1 258 5) (h3 : σ'.1 0 16 = σ.1 0 16) (h4 : σ'.1 259 = σ.1 259) (h5 : σ'.1 260 = σ.1 260) (h6 : σ'.1 261 = σ.1 261) (h7 : σ'.1 262 = σ.1 262) : sw_XT σ' A := by
  unfold sw_XT at h ⊢
  rw [h1, h2, h3, h4, h5, h6, h7]
  exact h
theorem sw_fr.cell {K : Nat → Nat → Bool} {σ σ' : sd_Mem} (h : sw_fr K σ σ') (k : Nat) (hk : ∀ i, K k i = false) : σ'.1 k = σ.1 k := funext fun i => h.1 k i (hk i)
theorem sw_scr_lo {k i : Nat} (h : k < 240 ∧ k ≠ 1 ∧ k ≠ 4 ∧ k ≠ 5 ∧ k ≠ 6 ∧ k ≠ 14 ∧ k ≠ 15 ∧ k ≠ 16) : sw_scr k i = false := by
  unfold sw_scr
  simp only [List.mem_cons, List.not_mem_nil, or_false, Bool.or_eq_false_iff, Bool.and_eq_false_iff, decide_eq_false_iff_not]
  omega
theorem sw_RX.fr {σ σ' : sd_Mem} {c : Nat} {A W : sw_T} (h : sw_RX σ c A W) (hf : sw_same σ σ') : sw_RX σ' c A W := by
  obtain ⟨hc, hC, hX, hT, hS, hA, hW⟩ := h
  have hcc := hC.2.2.2.2.2.2.2.2.2.2.2
  refine ⟨(hf.2 0 4 (by decide)).trans hc, hC, hX.fr (fun j hj => hf.cell _ (fun i => sw_scr_lo (by omega))), ?_, hS.fr (fun j hj => hf.cell _ (fun i => sw_scr_lo (by omega))), hA, hW⟩
  exact hT.fr (hf.1 _ _ rfl) (hf.1 _ _ rfl) (hf.1 _ _ rfl) (hf.cell _ (fun _ => rfl)) (hf.cell _ (fun _ => rfl)) (hf.cell _ (fun _ => rfl)) (hf.cell _ (fun _ => rfl))
theorem sw_RM.same {σ σ' : sd_Mem} {A W : sw_T} (h : sw_RM σ A W) (hf : sw_same σ σ') : sw_RM σ' A W :=
  h.fr ⟨hf.1 _ _ rfl, hf.1 _ _ rfl, hf.1 _ _ rfl, hf.1 _ _ rfl, hf.1 _ _ rfl⟩ ⟨funext fun i => hf.1 _ i rfl, funext fun i => hf.1 _ i rfl, funext fun i => hf.1 _ i rfl, funext fun i => hf.1 _ i rfl, funext fun i => hf.1 _ i rfl, funext fun i => hf.1 _ i rfl, funext fun i => hf.1 _ i rfl⟩
/-- both answer r, and nothing but scratch changes -/
def sw_qs (L : Nat) (xs : Nat → Int32) (fm : Option Nat) (A W : sw_T) (n yX yM : Nat) (av : List Value) : Prop := ∃ r : Int32, (∀ (σ : sd_Mem) (c d : Nat), sw_RX σ c A W → ∃ σ', sw_same σ σ' ∧ ∀ Q, sd_Call (sd_E1 L xs fm) (d + n) yX (.ref 0 :: av) σ Q ↔ Q (some (.int r)) σ') ∧ (∀ (σ : sd_Mem) (d : Nat), sw_RM σ A W → ∃ σ', sw_same σ σ' ∧ ∀ Q, sd_Call (sd_E1 L xs fm) (d + n) yM (.ref 271 :: av) σ Q ↔ Q (some (.int r)) σ')
theorem sw_q.s {L : Nat} {xs : Nat → Int32} {fm : Option Nat} {A W : sw_T} {n yX yM : Nat} {av : List Value} (h : sw_q L xs fm A W n yX yM av) : sw_qs L xs fm A W n yX yM av := by
  obtain ⟨r, h1, h2⟩ := h
  exact ⟨r, fun σ c d hR => ⟨σ, sw_fr.rf, fun Q => h1 σ c d Q hR⟩, fun σ d hR => ⟨_, sw_fr.rf.wI rfl, fun Q => h2 σ d Q hR⟩⟩
