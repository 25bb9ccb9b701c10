/-! reading a row leaves the invariant -/
section SDBD
variable {L : Nat} {xs : Nat → Int32} {fm : Option Nat} {A W : sw_T} {B T : Nat} {V : Nat → sw_T} {im : Nat} {I U : sw_T} {σ σ' : sd_Mem} {c : Nat}
theorem sw_Inv.rd (h : sw_Inv L xs fm B σ c A W T V im I U) (e : ∀ k j, k < 271 → ¬ (k = 1 ∧ j = 2) → ¬ (k = 259 ∧ 12 * A 6 0 0 ≤ j) → ¬ (k = 260 ∧ j = A 6 0 0) → σ'.1 k j = σ.1 k j) (e1 : ∀ j, 0 < j → (j < 8 ∨ 11 < j) → σ'.1 271 j = σ.1 271 j) (e3 : ∀ j, j < 78 → σ'.1 283 j = σ.1 283 j) (eo : ∀ k, 271 < k → k ≠ 283 → σ'.1 k = σ.1 k) (e2 : ∀ k i, k ≠ 271 → σ'.2.2 k i = σ.2.2 k i) : sw_Inv L xs fm B σ' c A W T V im I U := by
  obtain ⟨hp, hs, hm, hU, htX, hvX, htM, hvM, hvT⟩ := h
  have hA := hp.1
  have h6 := hA.2.2.2.2.2.2.2.1
  have h7 := hA.2.2.2.2.2.2.2.2.1
  have hm1 : sw_sI (fun k j => if k = 259 ∨ k = 260 then σ.1 k j else σ'.1 k j, σ'.2) c A W T V im I := hs.fr3 (fun k hk hk2 => funext fun j => by
    show (if k = 259 ∨ k = 260 then σ.1 k j else σ'.1 k j) = σ.1 k j
    split
    · rfl
    · exact e k j hk2 (by omega) (by omega) (by omega)) e2
  obtain ⟨x1, x2, x3, x4, x5, x6, x7⟩ := hs.1.2.2.2.1
  obtain ⟨y1, y2, y3, y4, y5, y6, y7⟩ := hm.1.2.1
  have hXT : sw_XT σ' A := ⟨by rw [e 258 2 (by decide) (by decide) (by omega) (by omega)]; exact x1, fun r hr => by rw [e 260 r (by decide) (by omega) (by omega) (by omega)]; exact x2 r hr, fun r hr i hi => by rw [e 259 (r * 12 + i) (by decide) (by omega) (by have := (h7 r hr).2; omega) (by omega)]; exact x3 r hr i hi, by rw [e 258 5 (by decide) (by decide) (by omega) (by omega)]; exact x4, fun i hi => by rw [e 261 i (by decide) (by omega) (by omega) (by omega)]; exact x5 i hi, fun i hi => by rw [e 262 i (by decide) (by omega) (by omega) (by omega)]; exact x6 i hi, by rw [e 0 16 (by decide) (by decide) (by omega) (by omega)]; exact x7⟩
  have hYT : sw_YT σ' A := ⟨by rw [e1 29 (by decide) (by decide)]; exact y1, fun r hr => by rw [e3 (13 * r) (by omega)]; exact y2 r hr, fun r hr i hi => by rw [e3 (13 * r + 1 + i) (by have := (h7 r hr).2; omega)]; exact y3 r hr i hi, by rw [e1 56 (by decide) (by decide)]; exact y4, fun i hi => by rw [eo 298 (by decide) (by decide)]; exact y5 i hi, fun i hi => by rw [eo 299 (by decide) (by decide)]; exact y6 i hi, by rw [e1 37 (by decide) (by decide)]; exact y7⟩
  refine ⟨hp, hm1.chA (fun _ _ _ _ => rfl) hA hXT (fun k => ⟨?_, ?_⟩) rfl rfl, hm.chA (fun _ _ _ _ => rfl) hA hYT (fun k hk => eo k (by omega) (by omega)) (fun i hi => e1 i (by omega) (by omega)), hU, ?_, ?_, ?_, ?_, hvT⟩
  · by_cases q : k < 258
    · exact Or.inr (Or.inr (funext fun j => (if_neg (by omega)).symm))
    · exact Or.inr (Or.inl (by omega))
  · intro q
    subst q
    exact funext fun j => rfl
  · exact htX.fr (e 1 1 (by decide) (by decide) (by omega) (by omega)) (funext fun j => e 2 j (by decide) (by omega) (by omega) (by omega))
  · exact hvX.fr (fun j _ => e 6 j (by decide) (by omega) (by omega) (by omega)) (fun k h1 h2 => funext fun j => e k j (by omega) (by omega) (by omega) (by omega)) hU.2.2.1
  · exact htM.fr (e1 6 (by decide) (by decide)) (eo 272 (by decide) (by decide))
  · exact hvM.fr (e1 7 (by decide) (by decide)) (e1 36 (by decide) (by decide)) (fun k hk => eo k (by omega) (by omega))
end SDBD
