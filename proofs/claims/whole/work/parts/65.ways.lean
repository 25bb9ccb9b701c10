/-! rings of even turns leave two ways -/
section SD65
variable {op sv b : Nat → Bool} {tg : Nat → Nat}
/-- the least of the first n + 1 of g -/
def sw_mn (g : Nat → Nat) : Nat → Nat
  | 0 => g 0
  | n + 1 => if g (n + 1) < sw_mn g n then g (n + 1) else sw_mn g n
theorem sw_mn_le (g : Nat → Nat) : ∀ n j, j ≤ n → sw_mn g n ≤ g j
  | 0, j, h => by rw [show j = 0 by omega]; exact Nat.le_refl _
  | n + 1, j, h => by
    unfold sw_mn
    rcases Nat.lt_or_ge j (n + 1) with q | q
    · have := sw_mn_le g n j (by omega)
      split <;> omega
    · rw [show j = n + 1 by omega]
      split <;> omega
theorem sw_mn_ex (g : Nat → Nat) : ∀ n, ∃ j, j ≤ n ∧ sw_mn g n = g j
  | 0 => ⟨0, Nat.le_refl _, rfl⟩
  | n + 1 => by
    unfold sw_mn
    split
    · exact ⟨n + 1, Nat.le_refl _, rfl⟩
    · obtain ⟨j, h1, h2⟩ := sw_mn_ex g n
      exact ⟨j, by omega, h2⟩
/-- the ring's least member; how far it is; the turns till there -/
def sw_rp (tg : Nat → Nat) (v : Nat) : Nat := sw_mn (fun i => sw_it tg (12 + i) v) 11
def sw_ds (tg : Nat → Nat) (v : Nat) : Nat := (sd_fst (fun i => sw_it tg i v = sw_rp tg v) 24 0).getD 0
def sw_ps (sv : Nat → Bool) (tg : Nat → Nat) (v : Nat) : Bool := sw_pr sv tg (sw_ds tg v) v
/-- v leads into a ring -/
def sw_ld (op : Nat → Bool) (tg : Nat → Nat) (v : Nat) : Prop := (∀ m, op (sw_it tg m v) = true) ∧ ∃ q, 0 < q ∧ q ≤ 12 ∧ ∀ m, 12 ≤ m + q → sw_it tg (m + q) v = sw_it tg m v
theorem sw_ld.next {v : Nat} (h : sw_ld op tg v) : sw_ld op tg (tg v) := by
  obtain ⟨h1, q, h2, h3, h4⟩ := h
  exact ⟨fun m => h1 (m + 1), q, h2, h3, fun m hm => by
    have := h4 (m + 1) (by omega)
    rw [show m + 1 + q = m + q + 1 by omega] at this
    exact this⟩
theorem sw_per {v q : Nat} (h4 : ∀ m, 12 ≤ m + q → sw_it tg (m + q) v = sw_it tg m v) (hq : q ≤ 12) : ∀ k m, 12 ≤ m → sw_it tg (m + k * q) v = sw_it tg m v
  | 0, m, _ => by rw [Nat.zero_mul, Nat.add_zero]
  | k + 1, m, hm => by
    rw [Nat.succ_mul, ← Nat.add_assoc, h4 _ (by omega), sw_per h4 hq k m hm]
/-- all of the ring lie at or above its least -/
theorem sw_rp_le {v : Nat} (h : sw_ld op tg v) (j : Nat) (hj : 12 ≤ j) : sw_rp tg v ≤ sw_it tg j v := by
  obtain ⟨h1, q, h2, h3, h4⟩ := h
  have e : sw_it tg j v = sw_it tg (12 + (j - 12) % q) v := by
    have := sw_per h4 h3 ((j - 12) / q) (12 + (j - 12) % q) (by omega)
    rw [← this]
    congr 1
    have := Nat.mod_add_div (j - 12) q
    rw [Nat.mul_comm] at this
    omega
  rw [e]
  have := Nat.mod_lt (j - 12) h2
  exact sw_mn_le (fun i => sw_it tg (12 + i) v) 11 ((j - 12) % q) (by omega)
theorem sw_rp_ex (tg : Nat → Nat) (v : Nat) : ∃ j, 12 ≤ j ∧ j < 24 ∧ sw_it tg j v = sw_rp tg v := by
  obtain ⟨j, h1, h2⟩ := sw_mn_ex (fun i => sw_it tg (12 + i) v) 11
  exact ⟨12 + j, by omega, by omega, h2.symm⟩
theorem sw_rp_next {v : Nat} (h : sw_ld op tg v) : sw_rp tg (tg v) = sw_rp tg v := by
  have hn := h.next
  obtain ⟨j, j1, j2, j3⟩ := sw_rp_ex tg v
  obtain ⟨k, k1, k2, k3⟩ := sw_rp_ex tg (tg v)
  have a1 : sw_rp tg v ≤ sw_rp tg (tg v) := by
    rw [← k3]
    exact sw_rp_le h (k + 1) (by omega)
  have a2 : sw_rp tg (tg v) ≤ sw_rp tg v := by
    obtain ⟨h1, q, h2, h3, h4⟩ := id h
    rw [← j3, ← h4 j (by omega), show j + q = (j + q - 1) + 1 by omega]
    exact sw_rp_le hn (j + q - 1) (by omega)
  omega
theorem sw_ds_spec (tg : Nat → Nat) (v : Nat) : sw_it tg (sw_ds tg v) v = sw_rp tg v ∧ ∀ k, k < sw_ds tg v → sw_it tg k v ≠ sw_rp tg v := by
  obtain ⟨j, j1, j2, j3⟩ := sw_rp_ex tg v
  unfold sw_ds
  cases h : sd_fst (fun i => sw_it tg i v = sw_rp tg v) 24 0 with
  | none => exact absurd j3 ((sd_fst_none 24 0).mp h j (by omega) (by omega))
  | some d =>
    obtain ⟨a1, a2, a3, a4⟩ := sd_fst_some 24 0 d h
    exact ⟨a3, fun k hk => a4 k (by omega) hk⟩
theorem sw_ds_one {v d : Nat} (h1 : sw_it tg d v = sw_rp tg v) (h2 : ∀ k, k < d → sw_it tg k v ≠ sw_rp tg v) : sw_ds tg v = d := by
  obtain ⟨a1, a2⟩ := sw_ds_spec tg v
  rcases Nat.lt_trichotomy (sw_ds tg v) d with q | q | q
  · exact absurd a1 (h2 _ q)
  · exact q
  · exact absurd h1 (a2 _ q)
/-- turns till the ring's least, of a vow and of what it names -/
theorem sw_ps_next {v : Nat} (h : sw_ld op tg v) (hev : ∀ u, sw_ld op tg u → sw_or sv tg (sw_it tg 12 u) 12 (sw_it tg 12 u) false = false) : sw_ps sv tg v = (sw_ps sv tg (tg v) ^^ sv v) := by
  have hr := sw_rp_next h
  by_cases hv : v = sw_rp tg v
  · have d0 : sw_ds tg v = 0 := sw_ds_one (d := 0) hv (fun k hk => by omega)
    have e0 : sw_ps sv tg v = false := by unfold sw_ps; rw [d0]; rfl
    obtain ⟨a1, a2⟩ := sw_ds_spec tg (tg v)
    rw [hr, ← hv] at a1
    have a2' : ∀ k, k < sw_ds tg (tg v) → sw_it tg k (tg v) ≠ v := fun k hk => by
      have := a2 k hk
      rw [hr, ← hv] at this
      exact this
    obtain ⟨h1, q, h2, h3, h4⟩ := id h
    obtain ⟨j, j1, j2, j3⟩ := sw_rp_ex tg v
    rw [← hv] at j3
    have hqv : sw_it tg q v = v := by
      have := h4 j (by omega)
      rw [sw_it_add, j3] at this
      exact this
    have hk : ∀ k, sw_it tg (k * q) v = v := by
      intro k
      induction k with
      | zero => rw [Nat.zero_mul]; rfl
      | succ k ih => rw [Nat.succ_mul, sw_it_add, ih, hqv]
    have hu : sw_ld op tg (sw_it tg (12 * q - 12) v) := by
      refine ⟨fun m => ?_, q, h2, h3, fun m hm => ?_⟩
      · rw [← sw_it_add]; exact h1 _
      · rw [← sw_it_add, ← sw_it_add, ← Nat.add_assoc]
        rw [show 12 * q - 12 + m + q = q + (12 * q - 12 + m) by omega, sw_it_add, hqv]
    have hor := hev _ hu
    rw [← sw_it_add, show 12 * q - 12 + 12 = 12 * q by omega, hk 12] at hor
    have hfirst := sw_or_first (sv := sv) (tg := tg) (a := v) (q := sw_ds tg (tg v) + 1) (by omega) a1 (fun j j1 j2 => by
      cases j with
      | zero => omega
      | succ j => exact a2' j (by omega)) 12 0 (by omega) (by
        rcases Nat.lt_or_ge (sw_ds tg (tg v)) q with w | w
        · omega
        · exfalso
          cases q with
          | zero => omega
          | succ q => exact a2' q (by omega) hqv)
    have e9 : sw_pr sv tg (sw_ds tg (tg v) + 1) v = false := by rw [← hfirst]; exact hor
    have e10 : sw_pr sv tg (sw_ds tg (tg v) + 1) v = (sv v ^^ sw_ps sv tg (tg v)) := rfl
    rw [e0, Bool.xor_comm, ← e10, e9]
  · obtain ⟨a1, a2⟩ := sw_ds_spec tg (tg v)
    have d1 : sw_ds tg v = sw_ds tg (tg v) + 1 := sw_ds_one (by rw [← hr]; exact a1) (fun k hk => by
      cases k with
      | zero => exact hv
      | succ k => rw [← hr]; exact a2 k (by omega))
    unfold sw_ps
    rw [d1, Bool.xor_comm]
    rfl
theorem sw_ch_ge : ∀ n v t, (∀ m, op (sw_it tg m v) = true) → 2 ≤ sw_ch op sv b tg n v t
  | 0, v, t, _ => by
    show 2 ≤ (if _ then 3 else 2)
    split <;> omega
  | n + 1, v, t, hv => by
    have h0 : op v = true := hv 0
    show 2 ≤ (if op v = true then _ else _)
    rw [if_pos h0]
    exact sw_ch_ge n (tg v) _ (fun m => hv (m + 1))
theorem sw_ch_more : ∀ n v t, sw_ch op sv b tg n v t ≤ 1 → sw_ch op sv b tg (n + 1) v t = sw_ch op sv b tg n v t
  | 0, v, t, h => by
    exfalso
    revert h
    show (if sw_or sv tg v 12 v false = true then 3 else 2) ≤ 1 → False
    split <;> omega
  | n + 1, v, t, h => by
    by_cases ho : op v = true
    · have e : ∀ k, sw_ch op sv b tg (k + 1) v t = sw_ch op sv b tg k (tg v) (t ^^ sv v) := fun k => by
        show (if op v = true then _ else _) = _
        rw [if_pos ho]
      rw [e, e] at *
      exact sw_ch_more n (tg v) _ h
    · have e : ∀ k, sw_ch op sv b tg (k + 1) v t = (if b v = t then 0 else 1) := fun k => by
        show (if op v = true then _ else _) = _
        rw [if_neg ho]
      rw [e, e]
theorem sw_ch_not : ∀ n v t, sw_ch op sv b tg n v t ≤ 1 → sw_ch op sv b tg n v (!t) = 1 - sw_ch op sv b tg n v t
  | 0, v, t, h => by
    exfalso
    revert h
    show (if sw_or sv tg v 12 v false = true then 3 else 2) ≤ 1 → False
    split <;> omega
  | n + 1, v, t, h => by
    by_cases ho : op v = true
    · have e : ∀ t, sw_ch op sv b tg (n + 1) v t = sw_ch op sv b tg n (tg v) (t ^^ sv v) := fun t => by
        show (if op v = true then _ else _) = _
        rw [if_pos ho]
      rw [e] at h ⊢
      rw [e, ← sw_ch_not n (tg v) _ h]
      congr 1
      cases t <;> cases sv v <;> rfl
    · have e : ∀ t, sw_ch op sv b tg (n + 1) v t = (if b v = t then 0 else 1) := fun t => by
        show (if op v = true then _ else _) = _
        rw [if_neg ho]
      rw [e, e]
      cases b v <;> cases t <;> rfl
/-- all the ways, by the chains -/
theorem sw_fates (hlt : ∀ v, op v = true → v < 12 ∧ tg v < 12) :
    ((∃ v, op v = true ∧ sw_ch op sv b tg 12 v false = 3) → ∀ κ, ¬ sw_sol op sv b tg κ) ∧
    (¬ (∃ v, op v = true ∧ sw_ch op sv b tg 12 v false = 3) → (∃ κ, sw_sol op sv b tg κ) ∧ ∀ v, op v = true → (sw_ch op sv b tg 12 v false ≤ 2) ∧ (sw_ch op sv b tg 12 v false = 0 → ∀ κ, sw_sol op sv b tg κ → κ v = true) ∧ (sw_ch op sv b tg 12 v false = 1 → ∀ κ, sw_sol op sv b tg κ → κ v = false) ∧ (sw_ch op sv b tg 12 v false = 2 → (∃ κ, sw_sol op sv b tg κ ∧ κ v = true) ∧ ∃ κ, sw_sol op sv b tg κ ∧ κ v = false)) := by
  constructor
  · rintro ⟨v, ho, h3⟩ κ hs
    rcases sw_ch_cases (op := op) (sv := sv) (b := b) (tg := tg) 12 v false with ⟨h1, h2⟩ | h
    · obtain ⟨l1, q, l2, l3, l4⟩ := sw_lead hlt h1
      have := sw_odd hs l2 l3 (a := sw_it tg 12 v) (by rw [← sw_it_add]; exact l4 12 (by omega)) (fun m => by rw [← sw_it_add]; exact l1 _)
      rw [this, if_neg (by decide)] at h2
      omega
    · omega
  · intro hno
    have hev : ∀ u, sw_ld op tg u → sw_or sv tg (sw_it tg 12 u) 12 (sw_it tg 12 u) false = false := fun u hu => by
      rcases sw_ch_cases (op := op) (sv := sv) (b := b) (tg := tg) 12 u false with ⟨h1, h2⟩ | h
      · cases hc : sw_or sv tg (sw_it tg 12 u) 12 (sw_it tg 12 u) false with
        | false => rfl
        | true =>
          rw [hc, if_pos rfl] at h2
          exact absurd ⟨u, hu.1 0, h2⟩ hno
      · exfalso
        have := sw_ch_ge (sv := sv) (b := b) 12 u false hu.1
        omega
    have hle : ∀ v, op v = true → sw_ch op sv b tg 12 v false ≤ 2 := fun v ho => by
      rcases sw_ch_cases (op := op) (sv := sv) (b := b) (tg := tg) 12 v false with ⟨h1, h2⟩ | h
      · have hl : sw_ld op tg v := sw_lead hlt h1
        rw [hev v hl, if_neg (by decide)] at h2
        omega
      · omega
    have hsol : ∀ c : Bool, sw_sol op sv b tg (fun v => if sw_ch op sv b tg 12 v false ≤ 1 then decide (sw_ch op sv b tg 12 v false = 0) else (c ^^ sw_ps sv tg v)) := by
      intro c v ho
      show (if sw_ch op sv b tg 12 v false ≤ 1 then decide (sw_ch op sv b tg 12 v false = 0) else (c ^^ sw_ps sv tg v)) = ((if op (tg v) = true then (if sw_ch op sv b tg 12 (tg v) false ≤ 1 then decide (sw_ch op sv b tg 12 (tg v) false = 0) else (c ^^ sw_ps sv tg (tg v))) else !b (tg v)) ^^ sv v)
      have e12 : sw_ch op sv b tg 12 v false = sw_ch op sv b tg 11 (tg v) (sv v) := by
        show (if op v = true then sw_ch op sv b tg 11 (tg v) (false ^^ sv v) else _) = _
        rw [if_pos ho, Bool.false_xor]
      by_cases h1 : sw_ch op sv b tg 12 v false ≤ 1
      · rw [if_pos h1]
        by_cases ho2 : op (tg v) = true
        · rw [if_pos ho2]
          have h11 : sw_ch op sv b tg 11 (tg v) (sv v) ≤ 1 := by rw [← e12]; exact h1
          have m12 := sw_ch_more 11 (tg v) (sv v) h11
          have h12 : sw_ch op sv b tg 12 (tg v) (sv v) ≤ 1 := by rw [m12]; exact h11
          cases hsv : sv v with
          | false =>
            rw [hsv] at m12 h12 e12
            rw [if_pos h12, e12, ← m12, Bool.xor_false]
          | true =>
            rw [hsv] at m12 h12 e12
            have hn := sw_ch_not 12 (tg v) true h12
            rw [show (!true) = false from rfl] at hn
            have h13 : sw_ch op sv b tg 12 (tg v) false ≤ 1 := by omega
            rw [if_pos h13, e12, ← m12, hn]
            rcases (show sw_ch op sv b tg 12 (tg v) true = 0 ∨ sw_ch op sv b tg 12 (tg v) true = 1 by omega) with q | q <;> rw [q] <;> rfl
        · rw [if_neg ho2, e12]
          have e11 : sw_ch op sv b tg 11 (tg v) (sv v) = (if b (tg v) = sv v then 0 else 1) := by
            show (if op (tg v) = true then _ else _) = _
            rw [if_neg ho2]
          rw [e11]
          cases b (tg v) <;> cases sv v <;> rfl
      · rw [if_neg h1]
        rcases sw_ch_cases (op := op) (sv := sv) (b := b) (tg := tg) 12 v false with ⟨g1, g2⟩ | g
        · have hl : sw_ld op tg v := sw_lead hlt g1
          have hn := hl.next
          have ho2 : op (tg v) = true := hn.1 0
          have g3 := sw_ch_ge (sv := sv) (b := b) 12 (tg v) false hn.1
          rw [if_pos ho2, if_neg (by omega), sw_ps_next hl hev, Bool.xor_assoc]
        · exact absurd g h1
    refine ⟨⟨_, hsol true⟩, fun v ho => ⟨hle v ho, fun h0 κ hs => ?_, fun h1 κ hs => ?_, fun h2 => ?_⟩⟩
    · have := sw_ch_end hs 12 v false (by omega)
      rw [if_pos ho, Bool.xor_false, h0] at this
      exact this
    · have := sw_ch_end hs 12 v false (by omega)
      rw [if_pos ho, Bool.xor_false, h1] at this
      exact this
    · cases hps : sw_ps sv tg v with
      | false => exact ⟨⟨_, hsol true, by rw [h2, if_neg (by omega), hps]; rfl⟩, ⟨_, hsol false, by rw [h2, if_neg (by omega), hps]; rfl⟩⟩
      | true => exact ⟨⟨_, hsol false, by rw [h2, if_neg (by omega), hps]; rfl⟩, ⟨_, hsol true, by rw [h2, if_neg (by omega), hps]; rfl⟩⟩
end SD65
