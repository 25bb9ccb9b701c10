/-! the picture: A the country and what is told, W a state; what the class holds of them, what the reference holds.
A: 0 persons; 1 p wants; 2 d joy; 3 d harm; 4 e j eye; 5 eyes; 6 rows told; 7 r length of a row told; 8 r i its deeds; 9 seen days; 10 i whose; 11 i which row; 12 tempted.
W: 0 vows; 1 v j vow; 2 p length of the row; 3 p slips; 4 p i deeds; 5 day; 6 i j log, the latest first -/
abbrev sw_T : Type := Nat → Nat → Nat → Nat
abbrev sw_bd (A : sw_T) : Prop := ∀ a b c, A a b c < 1000000
theorem nz_m {a : Nat} (h : a < 1000000) : a < 2147483648 := Nat.lt_trans h (by decide)
def sd_isC (c : Nat) : Prop := sd_sh c = .inl 0 ∧ (sd_tg (c + 1) = 0 ∧ sd_ln (c + 1) = 5) ∧ (sd_tg (c + 2) = 0 ∧ sd_ln (c + 2) = 8) ∧ (sd_tg (c + 3) = 0 ∧ sd_ln (c + 3) = 8) ∧ (sd_tg (c + 4) = 0 ∧ sd_ln (c + 4) = 32) ∧ sd_ft c 1 = some (c + 1) ∧ sd_ft c 2 = some (c + 2) ∧ sd_ft c 3 = some (c + 3) ∧ sd_ft c 4 = some (c + 4) ∧ sd_ft c 6 = some (c + 5) ∧ sd_isS (c + 5) ∧ (c = 18 ∨ c = 28)
theorem sd_isC.all {L : Nat} {xs : Nat → Int32} {fm : Option Nat} {k : Nat} (h : sd_isC k) : sd_sh k = .inl 0 ∧ sd_tg (k + 1) = 0 ∧ sd_ln (k + 1) = 5 ∧ sd_tg (k + 2) = 0 ∧ sd_ln (k + 2) = 8 ∧ sd_tg (k + 3) = 0 ∧ sd_ln (k + 3) = 8 ∧ sd_tg (k + 4) = 0 ∧ sd_ln (k + 4) = 32 ∧ (∀ σ, va_rf (sd_gR (sd_E1 L xs fm) σ k 1) = .ref (k + 1)) ∧ (∀ σ, va_rf (sd_gR (sd_E1 L xs fm) σ k 2) = .ref (k + 2)) ∧ (∀ σ, va_rf (sd_gR (sd_E1 L xs fm) σ k 3) = .ref (k + 3)) ∧ (∀ σ, va_rf (sd_gR (sd_E1 L xs fm) σ k 4) = .ref (k + 4)) ∧ (∀ σ, va_rf (sd_gR (sd_E1 L xs fm) σ k 6) = .ref (k + 5)) ∧ sd_isS (k + 5) := by
  obtain ⟨h0, ⟨h1, h2⟩, ⟨h3, h4⟩, ⟨h5, h6⟩, ⟨h7, h8⟩, f0, f1, f2, f3, f4, f5, hk⟩ := h
  have hk : k < 271 := by omega
  exact ⟨h0, h1, h2, h3, h4, h5, h6, h7, h8, fun _ => sd_gRft hk f0, fun _ => sd_gRft hk f1, fun _ => sd_gRft hk f2, fun _ => sd_gRft hk f3, fun _ => sd_gRft hk f4, f5⟩
theorem sd_C18 : sd_isC 18 := by unfold sd_isC; exact ⟨by decide +kernel, by decide +kernel, by decide +kernel, by decide +kernel, by decide +kernel, by decide +kernel, by decide +kernel, by decide +kernel, by decide +kernel, by decide +kernel, sd_S23, Or.inl rfl⟩
theorem sd_C28 : sd_isC 28 := by unfold sd_isC; exact ⟨by decide +kernel, by decide +kernel, by decide +kernel, by decide +kernel, by decide +kernel, by decide +kernel, by decide +kernel, by decide +kernel, by decide +kernel, by decide +kernel, sd_S33, Or.inr rfl⟩
/-- a State of the class -/
def sw_S (σ : sd_Mem) (k P : Nat) (W : sw_T) : Prop := sd_VS σ k (W 0 0 0) (W 1) ∧ (∀ p, p < P → σ.1 (k + 2) p = nI (W 2 p 0) ∧ σ.1 (k + 3) p = nI (W 3 p 0) ∧ ∀ i, i < W 2 p 0 → σ.1 (k + 1) (p * 12 + i) = nI (W 4 p i)) ∧ σ.1 k 5 = nI (W 5 0 0)
/-- a row of the reference -/
def sw_M (σ : sd_Mem) (c P : Nat) (W : sw_T) : Prop := sd_VM σ c (W 0 0 0) (W 1) ∧ (∀ p, p < P → σ.1 c (14 * p) = nI (W 3 p 0) ∧ σ.1 c (14 * p + 1) = nI (W 2 p 0) ∧ ∀ i, i < W 2 p 0 → σ.1 c (14 * p + 2 + i) = nI (W 4 p i)) ∧ σ.1 c 143 = nI (W 5 0 0)
/-- what holds of a state -/
def sw_OK (P : Nat) (W : sw_T) : Prop := P ≤ 5 ∧ sw_bd W ∧ (∀ p, p < P → 0 < W 2 p 0 ∧ W 2 p 0 ≤ 12 ∧ W 3 p 0 ≤ 9) ∧ (∀ p i, W 4 p i < 8) ∧ W 0 0 0 ≤ 12 ∧ (∀ v, v < W 0 0 0 → W 1 v 0 < P ∧ W 1 v 1 ≤ 7 ∧ W 1 v 2 < 8 ∧ W 1 v 3 < 8 ∧ W 1 v 4 ≤ 9 ∧ (6 ≤ W 1 v 1 → W 1 v 2 < W 0 0 0)) ∧ ∀ v j, W 1 v j < 1000
/-- the class's country -/
def sw_X (σ : sd_Mem) (c : Nat) (A : sw_T) : Prop := σ.1 c 0 = nI (A 0 0 0) ∧ σ.1 c 5 = nI (A 5 0 0) ∧ (∀ p, p < A 0 0 0 → σ.1 (c + 1) p = nI (A 1 p 0)) ∧ (∀ e, e < 8 → σ.1 (c + 2) e = nI (A 2 e 0)) ∧ (∀ e, e < 8 → σ.1 (c + 3) e = nI (A 3 e 0)) ∧ ∀ e, e < A 5 0 0 → ∀ j, j < 4 → σ.1 (c + 4) (e * 4 + j) = nI (A 4 e j)
/-- the reference's country -/
def sw_Y (σ : sd_Mem) (A : sw_T) : Prop := σ.1 271 27 = nI (A 0 0 0) ∧ σ.1 271 28 = nI (A 5 0 0) ∧ (∀ p, p < A 0 0 0 → σ.1 276 (15 * p) = nI (A 1 p 0)) ∧ (∀ e, e < 8 → σ.1 278 (2 * e) = nI (A 2 e 0)) ∧ (∀ e, e < 8 → σ.1 278 (2 * e + 1) = nI (A 3 e 0)) ∧ ∀ e, e < A 5 0 0 → ∀ j, j < 4 → σ.1 281 (4 * e + j) = nI (A 4 e j)
/-- the class's rows told, seen days, tempted -/
def sw_XT (σ : sd_Mem) (A : sw_T) : Prop := σ.1 258 2 = nI (A 6 0 0) ∧ (∀ r, r < A 6 0 0 → σ.1 260 r = nI (A 7 r 0)) ∧ (∀ r, r < A 6 0 0 → ∀ i, i < A 7 r 0 → σ.1 259 (r * 12 + i) = nI (A 8 r i)) ∧ σ.1 258 5 = nI (A 9 0 0) ∧ (∀ i, i < A 9 0 0 → σ.1 261 i = nI (A 10 i 0)) ∧ (∀ i, i < A 9 0 0 → σ.1 262 i = nI (A 11 i 0)) ∧ σ.1 0 16 = nI (A 12 0 0)
def sw_YT (σ : sd_Mem) (A : sw_T) : Prop := σ.1 271 29 = nI (A 6 0 0) ∧ (∀ r, r < A 6 0 0 → σ.1 283 (13 * r) = nI (A 7 r 0)) ∧ (∀ r, r < A 6 0 0 → ∀ i, i < A 7 r 0 → σ.1 283 (13 * r + 1 + i) = nI (A 8 r i)) ∧ σ.1 271 56 = nI (A 9 0 0) ∧ (∀ i, i < A 9 0 0 → σ.1 298 i = nI (A 10 i 0)) ∧ (∀ i, i < A 9 0 0 → σ.1 299 i = nI (A 11 i 0)) ∧ σ.1 271 37 = nI (A 12 0 0)
/-- what holds of a country and of what is told -/
def sw_AK (A : sw_T) : Prop := sw_bd A ∧ A 0 0 0 ≤ 5 ∧ A 5 0 0 ≤ 8 ∧ (∀ p, A 1 p 0 ≤ 8) ∧ (∀ e, A 2 e 0 ≤ 9) ∧ (∀ e, A 3 e 0 ≤ 9) ∧ (∀ e, e < A 5 0 0 → A 4 e 1 < A 0 0 0 ∧ A 4 e 2 ≤ A 4 e 3 ∧ A 4 e 3 ≤ 11) ∧ A 6 0 0 ≤ 6 ∧ (∀ r, r < A 6 0 0 → 0 < A 7 r 0 ∧ A 7 r 0 ≤ 12) ∧ (∀ r i, A 8 r i < 8) ∧ A 9 0 0 ≤ 8 ∧ (∀ i, i < A 9 0 0 → A 10 i 0 < A 0 0 0 ∧ A 11 i 0 < A 6 0 0) ∧ A 12 0 0 ≤ 99
/-- all that the class holds of A and W, its country at c -/
def sw_RX (σ : sd_Mem) (c : Nat) (A W : sw_T) : Prop := σ.2.2 0 4 = some c ∧ sd_isC c ∧ sw_X σ c A ∧ sw_XT σ A ∧ sw_S σ (c + 5) (A 0 0 0) W ∧ sw_AK A ∧ sw_OK (A 0 0 0) W
/-- all that the reference holds -/
def sw_RM (σ : sd_Mem) (A W : sw_T) : Prop := sw_Y σ A ∧ sw_YT σ A ∧ sw_M σ 285 (A 0 0 0) W ∧ sw_AK A ∧ sw_OK (A 0 0 0) W
/-- the reference holds the same where its cells are the same -/
theorem sw_RM.fr {σ σ' : sd_Mem} {A W : sw_T} (h : sw_RM σ A W) (hf : σ'.1 271 27 = σ.1 271 27 ∧ σ'.1 271 28 = σ.1 271 28 ∧ σ'.1 271 29 = σ.1 271 29 ∧ σ'.1 271 56 = σ.1 271 56 ∧ σ'.1 271 37 = σ.1 271 37) (hc : σ'.1 276 = σ.1 276 ∧ σ'.1 278 = σ.1 278 ∧ σ'.1 281 = σ.1 281 ∧ σ'.1 283 = σ.1 283 ∧ σ'.1 285 = σ.1 285 ∧ σ'.1 298 = σ.1 298 ∧ σ'.1 299 = σ.1 299) : sw_RM σ' A W := by
  obtain ⟨f1, f2, f3, f4, f5⟩ := hf
  obtain ⟨g1, g2, g3, g4, g5, g6, g7⟩ := hc
  unfold sw_RM sw_Y sw_YT sw_M sd_VM at h ⊢
  rw [f1, f2, f3, f4, f5, g1, g2, g3, g4, g5, g6, g7]
  exact h
theorem sw_RM.w {σ : sd_Mem} {A W : sw_T} {i : Nat} {v : Int32} (h : sw_RM σ A W) (hi : i ≠ 27 ∧ i ≠ 28 ∧ i ≠ 29 ∧ i ≠ 56 ∧ i ≠ 37) : sw_RM (sd_wI σ 271 i v) A W := by
  have e1 : ∀ j, j ≠ i → (sd_wI σ 271 i v).1 271 j = σ.1 271 j := fun j hj => if_neg (fun q => hj q.2)
  have e2 : ∀ c, c ≠ 271 → (sd_wI σ 271 i v).1 c = σ.1 c := fun c hc => funext fun j => if_neg (fun q => hc q.1)
  exact h.fr ⟨e1 _ (by omega), e1 _ (by omega), e1 _ (by omega), e1 _ (by omega), e1 _ (by omega)⟩ ⟨e2 _ (by decide), e2 _ (by decide), e2 _ (by decide), e2 _ (by decide), e2 _ (by decide), e2 _ (by decide), e2 _ (by decide)⟩
