/-! acts: what they keep -/
theorem sw_pI.push {B : Nat} {A W W' : sw_T} {T : Nat} {V : Nat → sw_T} {im : Nat} {I : sw_T} (h : sw_pI B A W T V im I) (hW : sw_OK (A 0 0 0) W') (hd : W' 5 0 0 = W 5 0 0 ∨ W' 5 0 0 = W 5 0 0 + 1) : sw_pI (B + 1) A W' (sw_psn T) (sw_psh T V W) im I := by
  obtain ⟨h1, h2, h3, h4, h5, h6, h7, h8⟩ := h
  refine ⟨h1, hW, fun j hj => ?_, fun q => ⟨(h4 q).1, by have := (h4 q).2; omega⟩, by unfold sw_psn; split <;> omega, by omega, fun j hj => ?_, fun hj => ?_⟩
  · unfold sw_psn at hj
    unfold sw_psh
    split at hj
    · rw [if_pos (by assumption)]
      split
      · exact h2
      · exact h3 j (by omega)
    · rw [if_neg (by assumption)]
      split
      · exact h2
      · exact h3 (j + 1) (by omega)
  · unfold sw_psn at hj
    unfold sw_psh
    split at hj
    · rename_i hT
      rw [if_pos hT, if_pos hT, if_neg (show ¬ j = T by omega)]
      by_cases hj2 : j + 1 = T
      · rw [if_pos hj2]
        have := h8 (by omega)
        rw [show T - 1 = j by omega] at this
        exact this
      · rw [if_neg hj2]; exact h7 j (by omega)
    · rename_i hT
      rw [if_neg hT, if_neg hT, if_neg (show ¬ j = 39 by omega)]
      by_cases hj2 : j + 1 = 39
      · rw [if_pos hj2]
        have := h8 (by omega)
        rw [show T - 1 = j + 1 by omega] at this
        exact this
      · rw [if_neg hj2]; exact h7 (j + 1) (by omega)
  · have e : sw_psh T V W (sw_psn T - 1) = W := by
      unfold sw_psn sw_psh
      by_cases hT : T < 40
      · rw [if_pos hT, if_pos hT, if_pos (by omega)]
      · rw [if_neg hT, if_neg hT, if_pos (by decide)]
    rw [e]
    omega
theorem sw_pI.mono {B B' : Nat} {A W : sw_T} {T : Nat} {V : Nat → sw_T} {im : Nat} {I : sw_T} (h : sw_pI B A W T V im I) (hB : B ≤ B') : sw_pI B' A W T V im I := by
  obtain ⟨h1, h2, h3, h4, h5, h6, h7, h8⟩ := h
  exact ⟨h1, h2, h3, fun q => ⟨(h4 q).1, by have := (h4 q).2; omega⟩, h5, by omega, h7, h8⟩
/-- how far back the days of the past lie -/
theorem sw_pI.days {B : Nat} {A W : sw_T} {T : Nat} {V : Nat → sw_T} {im : Nat} {I : sw_T} (h : sw_pI B A W T V im I) : ∀ n j, j + 1 + n = T → V j 5 0 0 ≤ W 5 0 0 ∧ W 5 0 0 ≤ V j 5 0 0 + (T - j)
  | 0, j, hj => by
    have := h.2.2.2.2.2.2.2 (by omega)
    rw [show T - 1 = j by omega] at this
    omega
  | n + 1, j, hj => by
    have h1 := sw_pI.days h n (j + 1) (by omega)
    have h2 := h.2.2.2.2.2.2.1 j (by omega)
    omega
theorem sw_Mf.M {σ : sd_Mem} {P : Nat} {W : sw_T} (h : sw_Mf (σ.1 285) P W) (hW : sw_OK P W) : sw_M σ 285 P W := by
  obtain ⟨h1, h2, h3, h4, h5, h6⟩ := h
  exact ⟨⟨rfl, rfl, h1, hW.2.2.2.2.1, h2, hW.2.2.2.2.2.2⟩, h3, h4⟩
theorem sw_RM.st {σ σ' : sd_Mem} {A W W' : sw_T} (h : sw_RM σ A W) (hf : ∀ i, i = 27 ∨ i = 28 ∨ i = 29 ∨ i = 56 ∨ i = 37 → σ'.1 271 i = σ.1 271 i) (hc : ∀ e, e = 276 ∨ e = 278 ∨ e = 281 ∨ e = 283 ∨ e = 298 ∨ e = 299 → σ'.1 e = σ.1 e) (hM : sw_Mf (σ'.1 285) (A 0 0 0) W') (hW : sw_OK (A 0 0 0) W') : sw_RM σ' A W' := by
  obtain ⟨hY, hT, hS, hA, hW0⟩ := h
  refine ⟨?_, ?_, hM.M hW, hA, hW⟩
  · unfold sw_Y at hY ⊢
    rw [hf 27 (by omega), hf 28 (by omega), hc 276 (by omega), hc 278 (by omega), hc 281 (by omega)]
    exact hY
  · unfold sw_YT at hT ⊢
    rw [hf 29 (by omega), hf 56 (by omega), hf 37 (by omega), hc 283 (by omega), hc 298 (by omega), hc 299 (by omega)]
    exact hT
theorem sw_PM.fr {σ σ' : sd_Mem} {P T : Nat} {V : Nat → sw_T} (h : sw_PM σ P T V) (e1 : σ'.1 271 43 = σ.1 271 43) (e2 : σ'.1 290 = σ.1 290) : sw_PM σ' P T V := by
  unfold sw_PM at h ⊢
  rw [e1, e2]
  exact h
/-- an act: both answer r; the class's side, the reference's -/
def sw_act (L : Nat) (xs : Nat → Int32) (fm : Option Nat) (n yX yM : Nat) (av : List Value) (A W : sw_T) (T : Nat) (V : Nat → sw_T) (im : Nat) (I : sw_T) (A' W' : sw_T) (T' : Nat) (V' : Nat → sw_T) (im' : Nat) (I' : sw_T) : Prop := ∃ r : Int32,
  (∀ (σ : sd_Mem) (c : Nat), sw_sI σ c A W T V im I → ∃ σ', sw_sI σ' c A' W' T' V' im' I' ∧ sw_fr sw_aX σ σ' ∧ ∀ (d : Nat) Q, sd_Call (sd_E1 L xs fm) (d + n) yX (.ref 0 :: av) σ Q ↔ Q (some (.int r)) σ') ∧
  (∀ (σ : sd_Mem), sw_mI σ A W T V im I → ∃ σ', sw_mI σ' A' W' T' V' im' I' ∧ sw_fr sw_aM σ σ' ∧ ∀ (d : Nat) Q, sd_Call (sd_E1 L xs fm) (d + n) yM (.ref 271 :: av) σ Q ↔ Q (some (.int r)) σ')
section SD54
variable {L : Nat} {xs : Nat → Int32} {fm : Option Nat} {A W : sw_T} {T : Nat} {V : Nat → sw_T} {im : Nat} {I : sw_T}
theorem sw_scr_M {k i : Nat} (h : sw_scr k i = true) (hk : 271 ≤ k) : sw_aM k i = true := by
  unfold sw_aM
  rw [h, decide_eq_true hk, Bool.and_self, Bool.or_true]
theorem sw_mI.w {σ : sd_Mem} (h : sw_mI σ A W T V im I) {v : Int32} : sw_mI (sd_wI σ 271 0 v) A W T V im I := by
  obtain ⟨h1, h2, h3, h4, h5, h6⟩ := h
  refine ⟨h1.w (by decide), ?_, h3.fr (wI_o (by decide)) (wI_c (by decide)), h4, ?_, ?_⟩
  · rw [wI_c (by decide)]; exact h2
  · rw [wI_o (by decide)]; exact h5
  · rw [wI_c (by decide)]; exact h6
/-- a question refuses, or is only asked -/
theorem sw_q.act {n yX yM : Nat} {av : List Value} (h : sw_q L xs fm A W n yX yM av) : sw_act L xs fm n yX yM av A W T V im I A W T V im I := by
  obtain ⟨r, h1, h2⟩ := h
  exact ⟨r, fun σ c hs => ⟨σ, hs, sw_fr.rf, fun d Q => h1 σ c d Q hs.1⟩, fun σ hm => ⟨_, hm.w, sw_fr.rf.wI rfl, fun d Q => h2 σ d Q hm.1⟩⟩
/-- the class keeps its state, and goes on from there -/
theorem sw_sI.keep {σ σ' : sd_Mem} {c : Nat} (h : sw_sI σ c A W T V im I) (hP : sw_P σ' (A 0 0 0) (sw_psn T) (sw_psh T V W)) (e1 : ∀ e, (e < 38 ∨ 240 ≤ e) → σ'.1 e = σ.1 e) (e2 : σ'.2 = σ.2) : sw_sI σ' c A W (sw_psn T) (sw_psh T V W) im I := by
  obtain ⟨h1, h2, h3, h4, h5, ⟨h6, h7, h8⟩, h9⟩ := h
  refine ⟨h1.fr2 (fun k a b => e1 k (by omega)) e2, by rw [e2]; exact h2, hP, h4.fr (e1 _ (by omega)), fun j hj => ?_, ⟨h6, by rw [e1 0 (by omega)]; exact h7, fun q => ⟨(h8 q).1.fr (fun j hj => e1 _ (by omega)), (h8 q).2.fr (e1 _ (by omega))⟩⟩, by rw [e1 270 (by omega)]; exact h9⟩
  unfold sw_psn at hj
  unfold sw_psh
  split at hj
  · rw [if_pos (by assumption)]
    split
    · exact h4.fr (e1 _ (by omega))
    · exact (h5 j (by omega)).fr (e1 _ (by omega))
  · rw [if_neg (by assumption)]
    split
    · exact h4.fr (e1 _ (by omega))
    · exact (h5 (j + 1) (by omega)).fr (e1 _ (by omega))
/-- the class's state is another one, of the same day -/
theorem sw_sI.st {σ σ' : sd_Mem} {c : Nat} {W' : sw_T} (h : sw_sI σ c A W T V im I) (e1 : ∀ k, (k < c + 5 ∨ c + 10 ≤ k) → k < 271 → σ'.1 k = σ.1 k) (e2 : σ'.2 = σ.2) (hS' : sw_S σ' (c + 5) (A 0 0 0) W') (hW' : sw_OK (A 0 0 0) W') (e5 : W' 5 0 0 = W 5 0 0) (e6 : ∀ i j, W' 6 i j = W 6 i j) : sw_sI σ' c A W' T V im I := by
  obtain ⟨h1, h2, h3, h4, h5, ⟨h6, h7, h8⟩, h9⟩ := h
  have hcc := h1.2.1.2.2.2.2.2.2.2.2.2.2.2
  have g : ∀ k, 38 ≤ k → k < 271 → σ'.1 k = σ.1 k := fun k a b => e1 k (by omega) b
  refine ⟨h1.st (fun k a b d => e1 k a d) e2 hS' hW', by rw [e2]; exact h2, h3.fr (fun k a b => g k a (by omega)), (h4.fr (g _ (by omega) (by omega))).W e5 e6, fun j hj => (h5 j hj).fr (g _ (by omega) (by omega)), ⟨h6, by rw [e1 0 (by omega) (by omega)]; exact h7, fun q => ⟨(h8 q).1.fr (fun j hj => g _ (by omega) (by omega)), (h8 q).2.fr (g _ (by omega) (by omega))⟩⟩, by rw [g 270 (by omega) (by omega)]; exact h9⟩
/-- the reference's row is another one -/
theorem sw_mI.st {σ σ' : sd_Mem} {W' : sw_T} (h : sw_mI σ A W T V im I) (e1 : ∀ e, e ≠ 285 → σ'.1 e = σ.1 e) (hM : sw_Mf (σ'.1 285) (A 0 0 0) W') (hW : sw_OK (A 0 0 0) W') : sw_mI σ' A W' T V im I := by
  obtain ⟨h1, h2, h3, h4, h5, h6⟩ := h
  refine ⟨h1.st (fun i _ => by rw [e1 271 (by decide)]) (fun e he => e1 e (by omega)) hM hW, hM, h3.fr (by rw [e1 271 (by decide)]) (e1 _ (by decide)), h4, by rw [e1 271 (by decide)]; exact h5, by rw [e1 300 (by decide)]; exact h6⟩
theorem sw_mI.keep {σ σ' : sd_Mem} (h : sw_mI σ A W T V im I) (hP : sw_PM σ' (A 0 0 0) (sw_psn T) (sw_psh T V W)) (e1 : ∀ e, e ≠ 271 → e ≠ 290 → σ'.1 e = σ.1 e) (e2 : ∀ i, i ≠ 43 → σ'.1 271 i = σ.1 271 i) : sw_mI σ' A W (sw_psn T) (sw_psh T V W) im I := by
  obtain ⟨h1, h2, h3, h4, h5, h6⟩ := h
  have g : σ'.1 285 = σ.1 285 := e1 _ (by decide) (by decide)
  refine ⟨h1.st (fun i hi => e2 i (by omega)) (fun e he => e1 e (by omega) (by omega)) (by rw [g]; exact h2) h1.2.2.2.2, by rw [g]; exact h2, hP, h4, by rw [e2 58 (by decide)]; exact h5, by rw [e1 300 (by decide) (by decide)]; exact h6⟩
end SD54
