/-! vows about vows: chains, rings, ways -/
def sw_it (tg : Nat → Nat) : Nat → Nat → Nat
  | 0, v => v
  | n + 1, v => sw_it tg n (tg v)
def sw_pr (sv : Nat → Bool) (tg : Nat → Nat) : Nat → Nat → Bool
  | 0, _ => false
  | n + 1, v => sv v ^^ sw_pr sv tg n (tg v)
def sw_or (sv : Nat → Bool) (tg : Nat → Nat) (start : Nat) : Nat → Nat → Bool → Bool
  | 0, _, odd => odd
  | n + 1, v, odd => if tg v = start then (odd ^^ sv v) else sw_or sv tg start n (tg v) (odd ^^ sv v)
def sw_ch (op sv b : Nat → Bool) (tg : Nat → Nat) : Nat → Nat → Bool → Nat
  | 0, v, _ => if sw_or sv tg v 12 v false = true then 3 else 2
  | n + 1, v, t => if op v = true then sw_ch op sv b tg n (tg v) (t ^^ sv v) else (if b v = t then 0 else 1)
theorem sw_php : ∀ (n : Nat) (f : Nat → Nat), (∀ i, i ≤ n → f i < n) → ∃ i j, i < j ∧ j ≤ n ∧ f i = f j
  | 0, f, h => by have := h 0 (Nat.le_refl _); omega
  | n + 1, f, h => by
    by_cases hm : ∃ i, i ≤ n ∧ f i = f (n + 1)
    · obtain ⟨i, h1, h2⟩ := hm
      exact ⟨i, n + 1, by omega, Nat.le_refl _, h2⟩
    · have hne : ∀ i, i ≤ n → f i ≠ f (n + 1) := fun i hi q => hm ⟨i, hi, q⟩
      obtain ⟨i, j, h1, h2, h3⟩ := sw_php n (fun i => if f i = n then f (n + 1) else f i) (fun i hi => by
        have a1 := h i (by omega)
        have a2 := h (n + 1) (Nat.le_refl _)
        have a3 := hne i hi
        split <;> omega)
      have b1 := hne i (by omega)
      have b2 := hne j (by omega)
      refine ⟨i, j, h1, by omega, ?_⟩
      split at h3 <;> split at h3 <;> omega
section SD64
variable {op sv b : Nat → Bool} {tg : Nat → Nat}
theorem sw_it_add : ∀ m n v, sw_it tg (m + n) v = sw_it tg n (sw_it tg m v)
  | 0, n, v => by rw [Nat.zero_add]; rfl
  | m + 1, n, v => by
    rw [show m + 1 + n = (m + n) + 1 by omega]
    exact sw_it_add m n (tg v)
theorem sw_it_s (n v : Nat) : sw_it tg (n + 1) v = tg (sw_it tg n v) := sw_it_add n 1 v
theorem sw_pr_add : ∀ m n v, sw_pr sv tg (m + n) v = (sw_pr sv tg m v ^^ sw_pr sv tg n (sw_it tg m v))
  | 0, n, v => by rw [Nat.zero_add]; show _ = (false ^^ _); rw [Bool.false_xor]; rfl
  | m + 1, n, v => by
    rw [show m + 1 + n = (m + n) + 1 by omega]
    show (sv v ^^ sw_pr sv tg (m + n) (tg v)) = ((sv v ^^ sw_pr sv tg m (tg v)) ^^ _)
    rw [sw_pr_add m n (tg v), Bool.xor_assoc]
    rfl
/-- the chain ends at a settled vow, or goes on -/
theorem sw_ch_cases : ∀ n v t, ((∀ i, i < n → op (sw_it tg i v) = true) ∧ sw_ch op sv b tg n v t = (if sw_or sv tg (sw_it tg n v) 12 (sw_it tg n v) false = true then 3 else 2)) ∨ (sw_ch op sv b tg n v t ≤ 1)
  | 0, v, t => Or.inl ⟨fun i h => by omega, rfl⟩
  | n + 1, v, t => by
    by_cases ho : op v = true
    · have e : sw_ch op sv b tg (n + 1) v t = sw_ch op sv b tg n (tg v) (t ^^ sv v) := by
        show (if op v = true then _ else _) = _
        rw [if_pos ho]
      rw [e]
      rcases sw_ch_cases n (tg v) (t ^^ sv v) with ⟨h1, h2⟩ | h
      · refine Or.inl ⟨fun i hi => ?_, h2⟩
        cases i with
        | zero => exact ho
        | succ i => exact h1 i (by omega)
      · exact Or.inr h
    · right
      show (if op v = true then _ else _) ≤ 1
      rw [if_neg ho]
      split <;> omega
/-- a way: each is kept just if what it says is so -/
def sw_sol (op sv b : Nat → Bool) (tg : Nat → Nat) (κ : Nat → Bool) : Prop := ∀ v, op v = true → κ v = ((if op (tg v) = true then κ (tg v) else !b (tg v)) ^^ sv v)
theorem sw_ch_end {κ : Nat → Bool} (hs : sw_sol op sv b tg κ) : ∀ n v t, sw_ch op sv b tg n v t ≤ 1 → ((if op v = true then κ v else !b v) ^^ t) = decide (sw_ch op sv b tg n v t = 0)
  | 0, v, t, h => by
    exfalso
    revert h
    show (if sw_or sv tg v 12 v false = true then 3 else 2) ≤ 1 → False
    split <;> omega
  | n + 1, v, t, h => by
    by_cases ho : op v = true
    · have e : sw_ch op sv b tg (n + 1) v t = sw_ch op sv b tg n (tg v) (t ^^ sv v) := by
        show (if op v = true then _ else _) = _
        rw [if_pos ho]
      rw [e] at h ⊢
      rw [← sw_ch_end hs n (tg v) (t ^^ sv v) h, if_pos ho, hs v ho, Bool.xor_assoc, Bool.xor_comm (sv v) t]
    · have e : sw_ch op sv b tg (n + 1) v t = (if b v = t then 0 else 1) := by
        show (if op v = true then _ else _) = _
        rw [if_neg ho]
      rw [e, if_neg ho]
      cases b v <;> cases t <;> rfl
/-- along open vows -/
theorem sw_sol_it {κ : Nat → Bool} (hs : sw_sol op sv b tg κ) : ∀ n v, (∀ i, i ≤ n → op (sw_it tg i v) = true) → κ v = (κ (sw_it tg n v) ^^ sw_pr sv tg n v)
  | 0, v, _ => by show κ v = (κ v ^^ false); rw [Bool.xor_false]
  | n + 1, v, h => by
    have h0 : op v = true := h 0 (by omega)
    have h1 : op (tg v) = true := h 1 (by omega)
    have := sw_sol_it hs n (tg v) (fun i hi => h (i + 1) (by omega))
    rw [hs v h0, if_pos h1, this]
    show ((κ (sw_it tg n (tg v)) ^^ sw_pr sv tg n (tg v)) ^^ sv v) = (κ (sw_it tg n (tg v)) ^^ (sv v ^^ sw_pr sv tg n (tg v)))
    rw [Bool.xor_assoc, Bool.xor_comm (sw_pr sv tg n (tg v)) (sv v)]
/-- twelve open vows in a row: all that follow are open, and there is a ring -/
theorem sw_lead (hlt : ∀ v, op v = true → v < 12 ∧ tg v < 12) {v : Nat} (h : ∀ i, i < 12 → op (sw_it tg i v) = true) : (∀ m, op (sw_it tg m v) = true) ∧ ∃ q, 0 < q ∧ q ≤ 12 ∧ ∀ m, 12 ≤ m + q → sw_it tg (m + q) v = sw_it tg m v := by
  obtain ⟨i, j, h1, h2, h3⟩ := sw_php 12 (fun i => sw_it tg i v) (fun i hi => by
    cases i with
    | zero => exact (hlt v (h 0 (by decide))).1
    | succ i =>
      rw [sw_it_s]
      exact (hlt _ (h i (by omega))).2)
  have per : ∀ m, i ≤ m → sw_it tg (m + (j - i)) v = sw_it tg m v := fun m hm => by
    rw [show m + (j - i) = j + (m - i) by omega, sw_it_add, ← h3, ← sw_it_add, show i + (m - i) = m by omega]
  refine ⟨fun m => ?_, j - i, by omega, by omega, fun m hm => per m (by omega)⟩
  induction m using Nat.strongRecOn with
  | ind m ih =>
    rcases Nat.lt_or_ge m 12 with hm | hm
    · exact h m hm
    · have := per (m - (j - i)) (by omega)
      rw [show m - (j - i) + (j - i) = m by omega] at this
      rw [this]
      exact ih _ (by omega)
/-- the parity of a ring, by its first return -/
theorem sw_or_first {a q : Nat} (h0 : 0 < q) (hq : sw_it tg q a = a) (hf : ∀ j, 0 < j → j < q → sw_it tg j a ≠ a) : ∀ n i, i < q → q ≤ i + n → sw_or sv tg a n (sw_it tg i a) (sw_pr sv tg i a) = sw_pr sv tg q a
  | 0, i, h1, h2 => by omega
  | n + 1, i, h1, h2 => by
    have e1 : tg (sw_it tg i a) = sw_it tg (i + 1) a := (sw_it_s i a).symm
    have e2 : (sw_pr sv tg i a ^^ sv (sw_it tg i a)) = sw_pr sv tg (i + 1) a := by
      rw [sw_pr_add i 1]
      show _ = (_ ^^ (sv (sw_it tg i a) ^^ false))
      rw [Bool.xor_false]
    show (if tg (sw_it tg i a) = a then _ else _) = _
    rw [e1, e2]
    by_cases hi : i + 1 = q
    · rw [if_pos (by rw [hi]; exact hq), hi]
    · rw [if_neg (hf (i + 1) (by omega) (by omega))]
      exact sw_or_first h0 hq hf n (i + 1) (by omega) (by omega)
theorem sw_first {a : Nat} : ∀ q, 0 < q → sw_it tg q a = a → ∃ p, 0 < p ∧ p ≤ q ∧ sw_it tg p a = a ∧ ∀ j, 0 < j → j < p → sw_it tg j a ≠ a := by
  intro q
  induction q using Nat.strongRecOn with
  | ind q ih =>
    intro h0 hq
    by_cases h : ∃ j, 0 < j ∧ j < q ∧ sw_it tg j a = a
    · obtain ⟨j, j1, j2, j3⟩ := h
      obtain ⟨p, p1, p2, p3, p4⟩ := ih j j2 j1 j3
      exact ⟨p, p1, by omega, p3, p4⟩
    · exact ⟨q, h0, Nat.le_refl _, hq, fun j j1 j2 j3 => h ⟨j, j1, j2, j3⟩⟩
/-- a ring of odd turns leaves no way -/
theorem sw_odd {κ : Nat → Bool} (hs : sw_sol op sv b tg κ) {a q : Nat} (h0 : 0 < q) (h12 : q ≤ 12) (hq : sw_it tg q a = a) (ho : ∀ m, op (sw_it tg m a) = true) : sw_or sv tg a 12 a false = false := by
  obtain ⟨p, p1, p2, p3, p4⟩ := sw_first q h0 hq
  have e := sw_or_first (sv := sv) p1 p3 p4 12 0 p1 (by omega)
  have e2 := sw_sol_it hs p a (fun i _ => ho i)
  rw [p3] at e2
  rw [show sw_or sv tg a 12 a false = sw_pr sv tg p a from e]
  cases h : sw_pr sv tg p a with
  | false => rfl
  | true => rw [h] at e2; cases h2 : κ a <;> rw [h2] at e2 <;> cases e2
end SD64
