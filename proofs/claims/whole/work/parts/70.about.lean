/-! the reference: vows about vows by number -/
def sw_al (op : Nat → Bool) : Nat → List Nat
  | 0 => []
  | i + 1 => if op i = true then sw_al op i ++ [i] else sw_al op i
def sw_ag (op : Nat → Bool) (i j : Nat) : Nat := (sw_al op i).getD j 0
def sw_an (op : Nat → Bool) (i : Nat) : Nat := (sw_al op i).length
theorem sw_an_s (op : Nat → Bool) (i : Nat) : sw_an op (i + 1) = sw_an op i + (if op i = true then 1 else 0) := by
  unfold sw_an
  show (if op i = true then sw_al op i ++ [i] else sw_al op i).length = _
  split
  · rw [List.length_append]; rfl
  · rfl
theorem sw_an_le (op : Nat → Bool) : ∀ i, sw_an op i ≤ i
  | 0 => Nat.le_refl _
  | i + 1 => by
    have := sw_an_le op i
    rw [sw_an_s]
    split <;> omega
theorem sw_ag_old (op : Nat → Bool) (i j : Nat) (h : j < sw_an op i) : sw_ag op (i + 1) j = sw_ag op i j := by
  unfold sw_ag
  show (if op i = true then sw_al op i ++ [i] else sw_al op i).getD j 0 = _
  split
  · rw [List.getD_eq_getElem?_getD, List.getD_eq_getElem?_getD, List.getElem?_append_left h]
  · rfl
theorem sw_ag_new (op : Nat → Bool) (i : Nat) (h : op i = true) : sw_ag op (i + 1) (sw_an op i) = i := by
  unfold sw_ag sw_an
  show (if op i = true then sw_al op i ++ [i] else sw_al op i).getD (sw_al op i).length 0 = _
  rw [if_pos h, List.getD_eq_getElem?_getD, List.getElem?_append_right (Nat.le_refl _), Nat.sub_self]
  rfl
theorem sw_ag_all (op : Nat → Bool) : ∀ i, (∀ j, j < sw_an op i → op (sw_ag op i j) = true ∧ sw_ag op i j < i) ∧ (∀ v, v < i → op v = true → ∃ j, j < sw_an op i ∧ sw_ag op i j = v) ∧ ∀ j j', j < j' → j' < sw_an op i → sw_ag op i j < sw_ag op i j'
  | 0 => ⟨fun j h => absurd h (Nat.not_lt_zero _), fun v h => by omega, fun j j' _ h => absurd h (Nat.not_lt_zero _)⟩
  | i + 1 => by
    obtain ⟨h1, h2, h3⟩ := sw_ag_all op i
    have hs := sw_an_s op i
    cases ho : op i with
    | false =>
      rw [ho] at hs
      have hs : sw_an op (i + 1) = sw_an op i := hs
      refine ⟨fun j hj => ?_, fun v hv hov => ?_, fun j j' a1 a2 => ?_⟩
      · rw [sw_ag_old op i j (by omega)]
        have := h1 j (by omega)
        exact ⟨this.1, by omega⟩
      · have : v < i := by
          rcases Nat.lt_or_ge v i with q | q
          · exact q
          · rw [show v = i by omega, ho] at hov; cases hov
        obtain ⟨j, j1, j2⟩ := h2 v this hov
        exact ⟨j, by omega, by rw [sw_ag_old op i j j1]; exact j2⟩
      · rw [sw_ag_old op i j (by omega), sw_ag_old op i j' (by omega)]
        exact h3 j j' a1 (by omega)
    | true =>
      rw [ho] at hs
      have hs : sw_an op (i + 1) = sw_an op i + 1 := hs
      refine ⟨fun j hj => ?_, fun v hv hov => ?_, fun j j' a1 a2 => ?_⟩
      · rcases Nat.lt_or_ge j (sw_an op i) with q | q
        · rw [sw_ag_old op i j q]
          have := h1 j q
          exact ⟨this.1, by omega⟩
        · rw [show j = sw_an op i by omega, sw_ag_new op i ho]
          exact ⟨ho, by omega⟩
      · rcases Nat.lt_or_ge v i with q | q
        · obtain ⟨j, j1, j2⟩ := h2 v q hov
          exact ⟨j, by omega, by rw [sw_ag_old op i j j1]; exact j2⟩
        · exact ⟨sw_an op i, by omega, by rw [sw_ag_new op i ho]; omega⟩
      · rcases Nat.lt_or_ge j' (sw_an op i) with q | q
        · rw [sw_ag_old op i j (by omega), sw_ag_old op i j' q]
          exact h3 j j' a1 q
        · rw [show j' = sw_an op i by omega, sw_ag_new op i ho, sw_ag_old op i j (by omega)]
          exact (h1 j (by omega)).2
/-- the number of v among the first m -/
def sw_ix (g : Nat → Nat) (m v : Nat) : Option Nat := sd_fst (fun k => g k = v) m 0
/-- the way's word on v -/
def sw_kw (g : Nat → Nat) (m way v : Nat) : Bool := match sw_ix g m v with
  | some k => way.testBit k
  | none => false
/-- bits by p -/
def sw_bits (p : Nat → Bool) (n : Nat) : Nat := sd_fold (fun k b => if p k = true then b ||| 2 ^ k else b) n 0 0
theorem sw_bits_inv (p : Nat → Bool) : ∀ n, sw_bits p n < 2 ^ n ∧ ∀ v, (sw_bits p n).testBit v = (decide (v < n) && p v)
  | 0 => ⟨Nat.one_pos, fun v => by simp [sw_bits, sd_fold]⟩
  | n + 1 => by
    obtain ⟨ih1, ih2⟩ := sw_bits_inv p n
    have e : sw_bits p (n + 1) = if p n = true then sw_bits p n ||| 2 ^ n else sw_bits p n := by
      unfold sw_bits
      rw [sd_fold_succ, Nat.zero_add]
    have hlt : (2 : Nat) ^ n < 2 ^ (n + 1) := Nat.pow_lt_pow_right (by decide) (by omega)
    rw [e]
    split
    · rename_i hc
      refine ⟨Nat.or_lt_two_pow (Nat.lt_trans ih1 hlt) hlt, fun v => ?_⟩
      rw [Nat.testBit_or, ih2, Nat.testBit_two_pow]
      by_cases hv : v = n
      · subst hv; simp [hc]
      · have : (v < n + 1) ↔ v < n := by omega
        simp [this, Ne.symm hv]
    · rename_i hc
      refine ⟨Nat.lt_trans ih1 hlt, fun v => ?_⟩
      rw [ih2]
      by_cases hv : v = n
      · subst hv; simp [hc]
      · have : (v < n + 1) ↔ v < n := by omega
        simp [this]
/-- one vow of a way is as it says -/
def sw_wk (W : sw_T) (way k : Nat) : Bool := (way.testBit k) == ((if sw_op W (sw_tg W (sw_ag (sw_op W) (W 0 0 0) k)) = true then sw_kw (sw_ag (sw_op W) (W 0 0 0)) (sw_an (sw_op W) (W 0 0 0)) way (sw_tg W (sw_ag (sw_op W) (W 0 0 0) k)) else !sw_bb W (sw_tg W (sw_ag (sw_op W) (W 0 0 0) k))) ^^ sw_sv W (sw_ag (sw_op W) (W 0 0 0) k))
def sw_way (W : sw_T) (way : Nat) : Bool := !sw_any (fun k => !sw_wk W way k) (sw_an (sw_op W) (W 0 0 0)) 0
section SD70
variable {W : sw_T} {P : Nat}
theorem sw_kw_ag (W : sw_T) {k : Nat} (hk : k < sw_an (sw_op W) (W 0 0 0)) (way : Nat) : sw_kw (sw_ag (sw_op W) (W 0 0 0)) (sw_an (sw_op W) (W 0 0 0)) way (sw_ag (sw_op W) (W 0 0 0) k) = way.testBit k := by
  obtain ⟨h1, h2, h3⟩ := sw_ag_all (sw_op W) (W 0 0 0)
  have : sw_ix (sw_ag (sw_op W) (W 0 0 0)) (sw_an (sw_op W) (W 0 0 0)) (sw_ag (sw_op W) (W 0 0 0) k) = some k := sd_fst_eq (by omega) (by omega) rfl (fun j _ hj q => by
    have := h3 j k hj hk
    omega)
  unfold sw_kw
  rw [this]
theorem sw_way_sol (hW : sw_OK P W) (way : Nat) : (sw_way W way = true) ↔ sw_sol (sw_op W) (sw_sv W) (sw_bb W) (sw_tg W) (sw_kw (sw_ag (sw_op W) (W 0 0 0)) (sw_an (sw_op W) (W 0 0 0)) way) := by
  obtain ⟨h1, h2, h3⟩ := sw_ag_all (sw_op W) (W 0 0 0)
  unfold sw_way
  rw [Bool.not_eq_true', Bool.eq_false_iff, ne_eq, sw_any_iff]
  constructor
  · intro h v hv
    obtain ⟨k, k1, k2⟩ := h2 v (sw_op_lt hW v hv).1 hv
    have : sw_wk W way k = true := by
      cases hc : sw_wk W way k with
      | true => rfl
      | false => exact absurd ⟨k, by omega, by omega, by rw [hc]; rfl⟩ h
    unfold sw_wk at this
    rw [beq_iff_eq, ← sw_kw_ag W k1 way, k2] at this
    exact this
  · rintro h ⟨k, _, k1, k2⟩
    have hk : k < sw_an (sw_op W) (W 0 0 0) := by omega
    have := h _ (h1 k hk).1
    rw [sw_kw_ag W hk] at this
    have e : sw_wk W way k = true := by
      unfold sw_wk
      rw [beq_iff_eq]
      exact this
    rw [e] at k2
    cases k2
theorem sw_sol_way (hW : sw_OK P W) {κ : Nat → Bool} (hs : sw_sol (sw_op W) (sw_sv W) (sw_bb W) (sw_tg W) κ) : ∃ way, way < 2 ^ sw_an (sw_op W) (W 0 0 0) ∧ sw_way W way = true ∧ ∀ k, k < sw_an (sw_op W) (W 0 0 0) → way.testBit k = κ (sw_ag (sw_op W) (W 0 0 0) k) := by
  obtain ⟨h1, h2, h3⟩ := sw_ag_all (sw_op W) (W 0 0 0)
  obtain ⟨b1, b2⟩ := sw_bits_inv (fun k => κ (sw_ag (sw_op W) (W 0 0 0) k)) (sw_an (sw_op W) (W 0 0 0))
  have hb : ∀ k, k < sw_an (sw_op W) (W 0 0 0) → (sw_bits (fun k => κ (sw_ag (sw_op W) (W 0 0 0) k)) (sw_an (sw_op W) (W 0 0 0))).testBit k = κ (sw_ag (sw_op W) (W 0 0 0) k) := fun k hk => by
    rw [b2, decide_eq_true hk, Bool.true_and]
  refine ⟨_, b1, (sw_way_sol hW _).mpr ?_, hb⟩
  have hag : ∀ v, sw_op W v = true → sw_kw (sw_ag (sw_op W) (W 0 0 0)) (sw_an (sw_op W) (W 0 0 0)) (sw_bits (fun k => κ (sw_ag (sw_op W) (W 0 0 0) k)) (sw_an (sw_op W) (W 0 0 0))) v = κ v := fun v hv => by
    obtain ⟨k, k1, k2⟩ := h2 v (sw_op_lt hW v hv).1 hv
    rw [← k2, sw_kw_ag W k1, hb k k1]
  intro v hv
  rw [hag v hv, hs v hv]
  congr 1
  by_cases ho : sw_op W (sw_tg W v) = true
  · rw [if_pos ho, if_pos ho, hag _ ho]
  · rw [if_neg ho, if_neg ho]
end SD70
