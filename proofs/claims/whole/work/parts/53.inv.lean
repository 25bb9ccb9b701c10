/-! all that the class holds, all that the reference holds, of the country, its states, what is told -/
def sw_sI (σ : sd_Mem) (c : Nat) (A W : sw_T) (T : Nat) (V : Nat → sw_T) (im : Nat) (I : sw_T) : Prop := sw_RX σ c A W ∧ σ.2.2 0 5 = some (46 - c) ∧ sw_P σ (A 0 0 0) T V ∧ sw_dy σ 240 W ∧ (∀ j, j < T → sw_dy σ 240 (V j)) ∧ (im ≤ 1 ∧ σ.1 0 10 = nI im ∧ (im = 1 → sw_S σ 241 (A 0 0 0) I ∧ sw_dy σ 246 I)) ∧ ∀ i, i < 8 → σ.1 270 i = nI 0
def sw_mI (σ : sd_Mem) (A W : sw_T) (T : Nat) (V : Nat → sw_T) (im : Nat) (I : sw_T) : Prop := sw_RM σ A W ∧ sw_Mf (σ.1 285) (A 0 0 0) W ∧ sw_PM σ (A 0 0 0) T V ∧ (im ≤ 1 ∧ σ.1 271 58 = nI im ∧ (im = 1 → sw_Mf (σ.1 300) (A 0 0 0) I))
/-- what holds of the states: the day is B at most -/
def sw_pI (B : Nat) (A W : sw_T) (T : Nat) (V : Nat → sw_T) (im : Nat) (I : sw_T) : Prop := sw_AK A ∧ sw_OK (A 0 0 0) W ∧ (∀ j, j < T → sw_OK (A 0 0 0) (V j)) ∧ (im = 1 → sw_OK (A 0 0 0) I ∧ I 5 0 0 ≤ B) ∧ T ≤ 40 ∧ W 5 0 0 ≤ B ∧ (∀ j, j + 1 < T → V j 5 0 0 ≤ V (j + 1) 5 0 0 ∧ V (j + 1) 5 0 0 ≤ V j 5 0 0 + 1) ∧ (0 < T → V (T - 1) 5 0 0 ≤ W 5 0 0 ∧ W 5 0 0 ≤ V (T - 1) 5 0 0 + 1)
/-- what acts of the class, of the reference, may change -/
def sw_aX (k i : Nat) : Bool := decide (18 ≤ k ∧ k < 258) || (decide (k = 0) && (decide (i = 10) || decide (i = 16))) || (decide (k = 258) && decide (i = 5)) || decide (k = 261 ∨ k = 262) || (decide (k < 271) && sw_scr k i)
def sw_aM (k i : Nat) : Bool := decide (k ∈ [285, 290, 298, 299, 300]) || (decide (k = 271) && decide (i ∈ [37, 43, 56, 58])) || (decide (271 ≤ k) && sw_scr k i)
/-! one vow's cell, one place of a row -/
def sw_set (W : sw_T) (a b c x : Nat) : sw_T := fun a' b' c' => if a' = a ∧ b' = b ∧ c' = c then x else W a' b' c'
theorem sw_set_n {W : sw_T} {a b c x a' b' c' : Nat} (h : ¬ (a' = a ∧ b' = b ∧ c' = c)) : sw_set W a b c x a' b' c' = W a' b' c' := if_neg h
theorem sw_set_y {W : sw_T} {a b c x : Nat} : sw_set W a b c x a b c = x := if_pos ⟨rfl, rfl, rfl⟩
theorem sw_OK.vow {P v x : Nat} {W : sw_T} (h : sw_OK P W) (hx : x < 1000) : sw_OK P (sw_set W 1 v 5 x) := by
  obtain ⟨bP2, bW, bz, bf, bs, bv, bu⟩ := h
  refine ⟨bP2, fun a b c => ?_, fun p hp => ?_, fun p i => ?_, ?_, fun w hw => ?_, fun w j => ?_⟩
  · unfold sw_set; split
    · omega
    · exact bW a b c
  · rw [sw_set_n (by omega), sw_set_n (by omega)]; exact bz p hp
  · rw [sw_set_n (by omega)]; exact bf p i
  · rw [sw_set_n (by omega)]; exact bs
  · rw [sw_set_n (by omega)] at hw
    rw [sw_set_n (by omega), sw_set_n (by omega), sw_set_n (by omega), sw_set_n (by omega), sw_set_n (by omega), sw_set_n (by omega)]
    exact bv w hw
  · unfold sw_set; split
    · exact hx
    · exact bu w j
theorem sw_S.vow {σ : sd_Mem} {k P v x : Nat} {W : sw_T} (h : sw_S σ k P W) (hv : v < W 0 0 0) (hx : x < 1000) : sw_S (sd_wI σ (k + 4) (v * 6 + 5) (nI x)) k P (sw_set W 1 v 5 x) := by
  obtain ⟨⟨w1, w2, w3, w4⟩, w5, w6⟩ := h
  refine ⟨⟨?_, ?_, fun w hw j hj => ?_, fun w j => ?_⟩, fun p hp => ?_, ?_⟩
  · rw [wI_c (by omega), sw_set_n (by omega)]; exact w1
  · rw [sw_set_n (by omega)]; exact w2
  · rw [sw_set_n (by omega)] at hw
    rw [wI_1]
    unfold sw_set
    by_cases hq : w = v ∧ j = 5
    · rw [if_pos ⟨rfl, by omega⟩, if_pos ⟨rfl, hq⟩]
    · rw [if_neg (by omega), if_neg (by omega)]; exact w3 w hw j hj
  · unfold sw_set; split
    · exact hx
    · exact w4 w j
  · rw [wI_c (by omega), wI_c (by omega), wI_c (by omega), sw_set_n (by omega), sw_set_n (by omega)]
    obtain ⟨q1, q2, q3⟩ := w5 p hp
    exact ⟨q1, q2, fun i hi => by rw [sw_set_n (by omega)]; exact q3 i hi⟩
  · rw [wI_c (by omega), sw_set_n (by omega)]; exact w6
theorem sw_Mf.vow {g g' : Nat → Int32} {P v x : Nat} {W : sw_T} (h : sw_Mf g P W) (hW : sw_OK P W) (hv : v < W 0 0 0) (hg : ∀ i, g' i = if i = 70 + 6 * v + 5 then nI x else g i) : sw_Mf g' P (sw_set W 1 v 5 x) := by
  obtain ⟨h1, h2, h3, h4, h5, h6⟩ := h
  obtain ⟨bP2, bW, bz, bf, bs, bv, bu⟩ := hW
  have e5 : sw_set W 1 v 5 x 5 0 0 = W 5 0 0 := sw_set_n (by omega)
  refine ⟨?_, fun w hw j hj => ?_, fun p hp => ?_, ?_, ?_, fun i hi j hj => ?_⟩
  · rw [hg, if_neg (by omega), sw_set_n (by omega)]; exact h1
  · rw [sw_set_n (by omega)] at hw
    rw [hg]
    unfold sw_set
    by_cases hq : w = v ∧ j = 5
    · rw [if_pos (by omega), if_pos ⟨rfl, hq⟩]
    · rw [if_neg (by omega), if_neg (by omega)]; exact h2 w hw j hj
  · have hz := bz p hp
    obtain ⟨q1, q2, q3⟩ := h3 p hp
    rw [sw_set_n (by omega), sw_set_n (by omega), hg, hg, if_neg (by omega), if_neg (by omega)]
    exact ⟨q1, q2, fun i hi => by rw [hg, if_neg (by omega), sw_set_n (by omega)]; exact q3 i hi⟩
  · rw [hg, if_neg (by omega), e5]; exact h4
  · rw [hg, if_neg (by omega), e5]; exact h5
  · rw [e5] at hi ⊢
    rw [hg, if_neg (by omega), sw_set_n (by omega)]; exact h6 i hi j hj
/-! frames -/
theorem sw_dy.fr {σ σ' : sd_Mem} {k : Nat} {W : sw_T} (h : sw_dy σ k W) (e : σ'.1 k = σ.1 k) : sw_dy σ' k W := by
  unfold sw_dy at h ⊢
  rw [e]
  exact h
theorem sw_dy.W {σ : sd_Mem} {k : Nat} {W W' : sw_T} (h : sw_dy σ k W) (e5 : W' 5 0 0 = W 5 0 0) (e6 : ∀ i j, W' 6 i j = W 6 i j) : sw_dy σ k W' := by
  intro i hi j hj
  rw [e5] at hi ⊢
  rw [e6]
  exact h i hi j hj
theorem sw_P.fr {σ σ' : sd_Mem} {P T : Nat} {V : Nat → sw_T} (h : sw_P σ P T V) (e : ∀ k, 38 ≤ k → k < 240 → σ'.1 k = σ.1 k) : sw_P σ' P T V := by
  obtain ⟨hT, nx, hn, n1, n2, hV⟩ := h
  refine ⟨hT, nx, hn, by rw [e 38 (by omega) (by omega)]; exact n1, by rw [e 38 (by omega) (by omega)]; exact n2, fun j hj => (hV j hj).fr (fun i hi => e _ (by omega) (by omega))⟩
theorem sw_RX.fr2 {σ σ' : sd_Mem} {c : Nat} {A W : sw_T} (h : sw_RX σ c A W) (e1 : ∀ k, (k < 38 ∨ 258 ≤ k) → k < 271 → σ'.1 k = σ.1 k) (e2 : σ'.2 = σ.2) : sw_RX σ' c A W := by
  obtain ⟨hc, hC, hX, hT, hS, hA, hW⟩ := h
  have hcc := hC.2.2.2.2.2.2.2.2.2.2.2
  refine ⟨by rw [e2]; exact hc, hC, hX.fr (fun j hj => e1 _ (by omega) (by omega)), ?_, hS.fr (fun j hj => e1 _ (by omega) (by omega)), hA, hW⟩
  have g : ∀ k, 258 ≤ k → k < 271 → σ'.1 k = σ.1 k := fun k a b => e1 k (Or.inr a) b
  exact hT.fr (by rw [g _ (by decide) (by decide)]) (by rw [g _ (by decide) (by decide)]) (by rw [e1 0 (by omega) (by omega)]) (g _ (by decide) (by decide)) (g _ (by decide) (by decide)) (g _ (by decide) (by decide)) (g _ (by decide) (by decide))
/-- the class's country, its state another one -/
theorem sw_RX.st {σ σ' : sd_Mem} {c : Nat} {A W W' : sw_T} (h : sw_RX σ c A W) (e1 : ∀ k, (k < c + 5 ∨ c + 10 ≤ k) → (k < 38 ∨ 258 ≤ k) → k < 271 → σ'.1 k = σ.1 k) (e2 : σ'.2 = σ.2) (hS' : sw_S σ' (c + 5) (A 0 0 0) W') (hW' : sw_OK (A 0 0 0) W') : sw_RX σ' c A W' := by
  obtain ⟨hc, hC, hX, hT, hS, hA, hW⟩ := h
  have hcc := hC.2.2.2.2.2.2.2.2.2.2.2
  refine ⟨by rw [e2]; exact hc, hC, hX.fr (fun j hj => e1 _ (by omega) (by omega) (by omega)), ?_, hS', hA, hW'⟩
  have g : ∀ k, 258 ≤ k → k < 271 → σ'.1 k = σ.1 k := fun k a b => e1 k (by omega) (Or.inr a) b
  exact hT.fr (by rw [g _ (by decide) (by decide)]) (by rw [g _ (by decide) (by decide)]) (by rw [e1 0 (by omega) (by omega) (by omega)]) (g _ (by decide) (by decide)) (g _ (by decide) (by decide)) (g _ (by decide) (by decide)) (g _ (by decide) (by decide))
