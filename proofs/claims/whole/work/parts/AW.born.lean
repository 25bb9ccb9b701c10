/-! the invariant at the law's loop; the claim, but for fault and text -/
section SDAW
variable {L : Nat} {xs : Nat → Int32} {fm : Option Nat} {σ : sd_Mem}
def sd_okI (k i : Nat) : Bool := match sd_sh k with
  | .inl ci => decide (i < (sd_C ci).2.2) && (decide (sd_kd ci i ≠ 1) && decide (sd_kd ci i ≠ 2))
  | _ => false
def sd_okR (k i : Nat) : Bool := match sd_sh k with
  | .inl ci => decide (i < (sd_C ci).2.2) && decide (sd_kd ci i = 2)
  | _ => false
def sd_okA (k : Nat) : Bool := match sd_sh k with
  | .inl _ => false
  | .inr _ => true
theorem sd_Born.i (hB : sd_Born σ) {k i : Nat} (hk : k < 301) (h : sd_okI k i = true) : σ.1 k i = sd_bI k i := by
  have h1 := hB.1 k hk
  unfold sd_okI at h
  unfold sd_bchk at h1
  split at h
  · rename_i ci hs
    rw [hs] at h1
    simp only [Bool.and_eq_true, decide_eq_true_eq] at h
    have h3 := List.all_eq_true.mp h1 i (List.mem_range.mpr h.1)
    split at h3
    · exact absurd (by assumption) h.2.1
    · exact absurd (by assumption) h.2.2
    · exact of_decide_eq_true h3
  · cases h
theorem sd_Born.r (hB : sd_Born σ) {k i : Nat} (hk : k < 271) (h : sd_okR k i = true) : σ.2.2 k i = sd_bR k i := by
  have h1 := hB.1 k (by omega)
  unfold sd_okR at h
  unfold sd_bchk at h1
  split at h
  · rename_i ci hs
    rw [hs] at h1
    simp only [Bool.and_eq_true, decide_eq_true_eq] at h
    have h3 := List.all_eq_true.mp h1 i (List.mem_range.mpr h.1)
    rw [h.2] at h3
    simp only [Bool.or_eq_true, decide_eq_true_eq] at h3
    rcases h3 with q | q
    · omega
    · exact q
  · cases h
theorem sd_Born.a (hB : sd_Born σ) {k : Nat} (i : Nat) (h : sd_okA k = true) : σ.1 k i = nI 0 := by
  refine congrFun (hB.2 k (fun ci q => ?_)).1 i
  unfold sd_okA at h
  rw [q] at h
  cases h
def sw_A0 : sw_T := fun _ _ _ => 0
def sw_U0 : sw_T := fun a _ _ => if a = 1 ∨ a = 7 then 1 else 0
theorem sw_A0_AK : sw_AK sw_A0 := ⟨fun _ _ _ => (by show 0 < 1000000; decide), Nat.zero_le _, Nat.zero_le _, fun _ => Nat.zero_le _, fun _ => Nat.zero_le _, fun _ => Nat.zero_le _, fun _ h => absurd h (Nat.not_lt_zero _), Nat.zero_le _, fun _ h => absurd h (Nat.not_lt_zero _), fun _ _ => (by show 0 < 8; decide), Nat.zero_le _, fun _ h => absurd h (Nat.not_lt_zero _), Nat.zero_le _⟩
theorem sw_A0_OK : sw_OK 0 sw_A0 := ⟨Nat.zero_le _, fun _ _ _ => (by show 0 < 1000000; decide), fun _ h => absurd h (Nat.not_lt_zero _), fun _ _ => (by show 0 < 8; decide), Nat.zero_le _, fun _ h => absurd h (Nat.not_lt_zero _), fun _ _ => (by show 0 < 1000; decide)⟩
theorem sw_A0_Mf (g : Nat → Int32) (h : ∀ i, g i = nI 0) : sw_Mf g 0 sw_A0 := ⟨h _, fun _ q => absurd q (Nat.not_lt_zero _), fun _ q => absurd q (Nat.not_lt_zero _), h _, h _, fun i q => absurd q (by show ¬ i < min 0 60; omega)⟩
theorem sw_born (hB : sd_Born σ) : sw_Inv L xs fm 0 σ 18 sw_A0 sw_A0 0 (fun _ => sw_A0) 0 sw_A0 sw_U0 := by
  have no : ∀ {P : Nat → Prop} (i : Nat), i < 0 → P i := fun i h => absurd h (Nat.not_lt_zero _)
  refine ⟨⟨sw_A0_AK, sw_A0_OK, fun j h => absurd h (Nat.not_lt_zero _), fun h => absurd h (by decide), Nat.zero_le _, Nat.zero_le _, fun j h => absurd h (Nat.not_lt_zero _), fun h => absurd h (Nat.not_lt_zero _)⟩, ?_, ?_, ?_, ?_, ?_, ?_, ?_, ?_⟩
  · refine ⟨⟨hB.r (by decide) (by decide +kernel), sd_C18, ⟨hB.i (by decide) (by decide +kernel), hB.i (by decide) (by decide +kernel), fun p h => absurd h (Nat.not_lt_zero _), fun e _ => hB.a e (by decide +kernel), fun e _ => hB.a e (by decide +kernel), fun e h => absurd h (Nat.not_lt_zero _)⟩, ⟨hB.i (by decide) (by decide +kernel), fun e h => absurd h (Nat.not_lt_zero _), fun e h => absurd h (Nat.not_lt_zero _), hB.i (by decide) (by decide +kernel), fun e h => absurd h (Nat.not_lt_zero _), fun e h => absurd h (Nat.not_lt_zero _), hB.i (by decide) (by decide +kernel)⟩, ⟨⟨hB.i (by decide) (by decide +kernel), Nat.zero_le _, fun e h => absurd h (Nat.not_lt_zero _), fun _ _ => (by show 0 < 1000; decide)⟩, fun e h => absurd h (Nat.not_lt_zero _), hB.i (by decide) (by decide +kernel)⟩, sw_A0_AK, sw_A0_OK⟩, hB.r (by decide) (by decide +kernel), ⟨Nat.zero_le _, 0, by decide, hB.i (by decide) (by decide +kernel), hB.i (by decide) (by decide +kernel), fun e h => absurd h (Nat.not_lt_zero _)⟩, fun i h => absurd h (by show ¬ i < min 0 60; omega), fun e h => absurd h (Nat.not_lt_zero _), ⟨Nat.zero_le _, hB.i (by decide) (by decide +kernel), fun h => absurd h (by decide)⟩, fun i _ => hB.a i (by decide +kernel)⟩
  · refine ⟨⟨⟨hB.i (by decide) (by decide +kernel), hB.i (by decide) (by decide +kernel), fun p h => absurd h (Nat.not_lt_zero _), fun e _ => hB.a _ (by decide +kernel), fun e _ => hB.a _ (by decide +kernel), fun e h => absurd h (Nat.not_lt_zero _)⟩, ⟨hB.i (by decide) (by decide +kernel), fun e h => absurd h (Nat.not_lt_zero _), fun e h => absurd h (Nat.not_lt_zero _), hB.i (by decide) (by decide +kernel), fun e h => absurd h (Nat.not_lt_zero _), fun e h => absurd h (Nat.not_lt_zero _), hB.i (by decide) (by decide +kernel)⟩, ⟨⟨t_285, n_285, hB.a _ (by decide +kernel), Nat.zero_le _, fun e h => absurd h (Nat.not_lt_zero _), fun _ _ => (by show 0 < 1000; decide)⟩, fun e h => absurd h (Nat.not_lt_zero _), hB.a _ (by decide +kernel)⟩, sw_A0_AK, sw_A0_OK⟩, sw_A0_Mf _ (fun i => hB.a i (by decide +kernel)), ⟨Nat.zero_le _, hB.i (by decide) (by decide +kernel), fun e h => absurd h (Nat.not_lt_zero _)⟩, ⟨Nat.zero_le _, hB.i (by decide) (by decide +kernel), fun h => absurd h (by decide)⟩⟩
  · exact ⟨by decide, fun _ => (by show 0 < 1 ∧ 1 < 256; decide), by decide, by decide, fun _ => (by show 0 ≤ 240 ∧ 0 ≤ 240; decide), fun _ _ => (by show 0 < 30000; decide), fun _ _ => (by show 0 < 1 ∧ 1 < 256; decide)⟩
  · exact ⟨hB.i (by decide) (by decide +kernel), fun e h => absurd h (Nat.not_lt_zero _)⟩
  · exact ⟨hB.i (by decide) (by decide +kernel), hB.i (by decide) (by decide +kernel), fun e h => absurd h (Nat.not_lt_zero _)⟩
  · exact ⟨hB.i (by decide) (by decide +kernel), fun e h => absurd h (Nat.not_lt_zero _)⟩
  · exact ⟨hB.i (by decide) (by decide +kernel), hB.i (by decide) (by decide +kernel), fun e h => absurd h (Nat.not_lt_zero _), fun k _ => ⟨0, by decide, hB.a _ (by decide +kernel)⟩, fun s _ => Or.inl (hB.a _ (by decide +kernel)), fun d i r p t j h _ _ _ _ ht => absurd ht (Nat.not_lt_zero _)⟩
  · exact fun t h => absurd h (Nat.not_lt_zero _)
/-- the law, once fault and text are steps -/
theorem lw_law {n1 n2 : Nat} (hn1 : n1 ≤ 1000) (hn2 : n2 ≤ 1000) (h_fault : ∀ L xs fm (x : Int32), sw_step L xs fm n1 y_X_fault y_M_fault [.int x]) (h_text : ∀ L xs fm (x : Int32), sw_step L xs fm n2 y_X_text y_M_text [.int x]) : sd_LawOK := by
  intro L xs fm σ hL hB
  obtain ⟨n, r, σ', h, hr⟩ := lw_loop (fm := fm) hn1 hn2 (h_fault L xs fm) (h_text L xs fm) hL 512 0 0 512 σ _ _ _ _ _ _ _ _ (sw_born hB) (by omega) (by omega) (by omega) (Nat.le_refl _) sd_un sd_un
  subst hr
  exact ⟨n, σ', h⟩
end SDAW
