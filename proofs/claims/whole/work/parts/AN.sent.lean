/-! sentence: which vow is chosen -/
def sw_kwx (l kd a b n x : Nat) : Bool := (sw_pb (sw_dg l x) l kd a b n).isNone
/-- does row x the deed -/
def sw_do (l d x : Nat) : Bool := sw_any (fun i => decide (x / 8 ^ i % 8 = d)) l 0
theorem sw_do_iff {l d x : Nat} : sw_do l d x = true ↔ ∃ i, i < l ∧ sw_dg l x i = d := by
  unfold sw_do
  rw [sw_any_iff]
  constructor
  · rintro ⟨k, _, hk, h⟩
    refine ⟨l - 1 - k, by omega, ?_⟩
    unfold sw_dg
    rw [show l - 1 - (l - 1 - k) = k by omega]
    exact of_decide_eq_true h
  · rintro ⟨i, hi, h⟩
    refine ⟨l - 1 - i, Nat.zero_le _, by omega, decide_eq_true ?_⟩
    exact h
theorem sw_kw0 {l a b n x : Nat} : sw_kwx l 0 a b n x = !sw_do l a x := by
  have h : sw_kwx l 0 a b n x = true ↔ ¬ sw_do l a x = true := by
    unfold sw_kwx
    rw [Option.isNone_iff_eq_none, sw_pb_none, sw_do_iff]
    constructor
    · rintro h ⟨i, hi, e⟩
      have := h i hi
      unfold sw_ba sd_bs at this
      have := of_decide_eq_false this
      exact this (Or.inl ⟨rfl, e⟩)
    · intro h i hi
      unfold sw_ba sd_bs
      refine decide_eq_false (fun q => ?_)
      have e : sw_dg l x i = a := by omega
      exact h ⟨i, hi, e⟩
  cases h1 : sw_kwx l 0 a b n x <;> cases h2 : sw_do l a x <;> simp [h1, h2] at h ⊢
section SDAN
variable {K : Nat → Bool} {v : Nat → Int32}
theorem sw_ile {a b : Int32} : a ≤ b ↔ a.toInt ≤ b.toInt := Int32.le_iff_toInt_le
/-- the best of the first n rows -/
theorem sw_bs_best : ∀ n, ((sd_fold (sw_bs K v) n 0 (none, nI 0)).1 = none → (∀ y, y < n → K y = false)) ∧ ∀ x, (sd_fold (sw_bs K v) n 0 (none, nI 0)).1 = some x → x < n ∧ K x = true ∧ (sd_fold (sw_bs K v) n 0 (none, nI 0)).2 = v x ∧ ∀ y, y < n → K y = true → v y ≤ v x
  | 0 => ⟨fun _ y hy => by omega, fun x h => by cases h⟩
  | n + 1 => by
    have ih := sw_bs_best n
    rw [sd_fold_succ, Nat.zero_add]
    generalize sd_fold (sw_bs K v) n 0 (none, nI 0) = s at ih
    obtain ⟨o, j⟩ := s
    obtain ⟨i1, i2⟩ := ih
    unfold sw_bs
    by_cases hc : K n = true ∧ (o = none ∨ ¬ v n ≤ j)
    · rw [if_pos hc]
      refine ⟨fun q => (by cases q), fun x hx => ?_⟩
      cases hx
      refine ⟨by omega, hc.1, rfl, fun y hy hk => ?_⟩
      by_cases hyn : y = n
      · rw [hyn]; exact Int32.le_refl _
      · cases ho : o with
        | none =>
          have := i1 ho y (by omega)
          rw [hk] at this; cases this
        | some z =>
          obtain ⟨z1, z2, z3, z4⟩ := i2 z ho
          have h1 := z4 y (by omega) hk
          have h2 := hc.2.resolve_left (by rw [ho]; intro q; cases q)
          have z3 : j = v z := z3
          rw [z3, sw_ile] at h2
          rw [sw_ile] at h1 ⊢
          omega
    · rw [if_neg hc]
      refine ⟨fun q y hy => ?_, fun x hx => ?_⟩
      · have q : o = none := q
        by_cases hyn : y = n
        · cases hk : K n with
          | false => rw [hyn]; exact hk
          | true => exact absurd ⟨hk, Or.inl q⟩ hc
        · exact i1 q y (by omega)
      · obtain ⟨z1, z2, z3, z4⟩ := i2 x hx
        refine ⟨by omega, z2, z3, fun y hy hk => ?_⟩
        by_cases hyn : y = n
        · subst hyn
          have : v y ≤ j := Classical.byContradiction fun w => hc ⟨hk, Or.inr w⟩
          have z3 : j = v x := z3
          rw [z3] at this
          exact this
        · exact z4 y (by omega) hk
end SDAN
/-- the best row under one vow -/
def sw_b1 (v : Nat → Int32) (l kd a b n : Nat) : Option Nat × Int32 := sd_fold (sw_bs (sw_kwx l kd a b n) v) (8 ^ l) 0 (none, nI 0)
def sw_ok2 (l d : Nat) : Option Nat → Bool
  | none => false
  | some x => !sw_do l d x
/-- the class's step, the reference's -/
def sw_c2x (v : Nat → Int32) (l d a : Nat) (s : Option Nat × Int32) : Option Nat × Int32 := if sw_ok2 l d (sw_b1 v l 0 a 0 0).1 = true ∧ (s.1 = none ∨ ¬ (sw_b1 v l 0 a 0 0).2 ≤ s.2) then (some (100 * a), (sw_b1 v l 0 a 0 0).2) else s
def sw_m2 (v : Nat → Int32) (l d kd k : Nat) (s : Option Nat × Int32) : Option Nat × Int32 := if sw_ok2 l d (sw_b1 v l kd (k / 32) (k / 4 % 8) (k % 4)).1 = true ∧ (s.1 = none ∨ ¬ (sw_b1 v l kd (k / 32) (k / 4 % 8) (k % 4)).2 ≤ s.2) then (some (1000 * kd + 100 * (k / 32) + 10 * (k / 4 % 8) + k % 4), (sw_b1 v l kd (k / 32) (k / 4 % 8) (k % 4)).2) else s
def sw_cs (v : Nat → Int32) (l d : Nat) : Option Nat × Int32 := sd_fold (sw_c2x v l d) (d + 1) 0 (none, nI 0)
def sw_mk (v : Nat → Int32) (l d kd : Nat) (s : Option Nat × Int32) : Option Nat × Int32 := sd_fold (sw_m2 v l d kd) 256 0 s
def sw_ms (v : Nat → Int32) (l d : Nat) : Option Nat × Int32 := sd_fold (sw_mk v l d) 6 0 (none, nI 0)
theorem sd_fold_c {α : Type} {g : Nat → α → α} {n i : Nat} {a : α} : sd_fold g (n + 1) i a = sd_fold g n (i + 1) (g i a) := rfl
section SDAN2
variable {v : Nat → Int32} {l d : Nat}
theorem sw_b1_0 {a b n : Nat} : sw_b1 v l 0 a b n = sw_b1 v l 0 a 0 0 := by
  unfold sw_b1
  rw [show sw_kwx l 0 a b n = sw_kwx l 0 a 0 0 from funext fun x => by rw [sw_kw0, sw_kw0]]
/-- a block of the reference is a step of the class -/
theorem sw_m2_blk {a : Nat} (s : Option Nat × Int32) : sd_fold (sw_m2 v l d 0) 32 (32 * a) s = sw_c2x v l d a s := by
  have hstep : ∀ t j, j < 32 → sw_m2 v l d 0 (32 * a + j) t = if sw_ok2 l d (sw_b1 v l 0 a 0 0).1 = true ∧ (t.1 = none ∨ ¬ (sw_b1 v l 0 a 0 0).2 ≤ t.2) then (some (1000 * 0 + 100 * a + 10 * ((32 * a + j) / 4 % 8) + (32 * a + j) % 4), (sw_b1 v l 0 a 0 0).2) else t := fun t j hj => by
    unfold sw_m2
    rw [show (32 * a + j) / 32 = a by omega, sw_b1_0]
  rw [show sd_fold (sw_m2 v l d 0) 32 (32 * a) s = sd_fold (sw_m2 v l d 0) 31 (32 * a + 1) (sw_m2 v l d 0 (32 * a) s) from sd_fold_c]
  have h0 : sw_m2 v l d 0 (32 * a) s = sw_c2x v l d a s := by
    have := hstep s 0 (by decide)
    rw [Nat.add_zero] at this
    rw [this]
    unfold sw_c2x
    rw [show 1000 * 0 + 100 * a + 10 * (32 * a / 4 % 8) + 32 * a % 4 = 100 * a by omega]
  rw [h0]
  refine sd_fold_id _ _ _ (fun x h1 h2 => ?_)
  have := hstep (sw_c2x v l d a s) (x - 32 * a) (by omega)
  rw [show 32 * a + (x - 32 * a) = x by omega] at this
  rw [this]
  rw [if_neg]
  rintro ⟨q1, q2⟩
  by_cases hc : sw_ok2 l d (sw_b1 v l 0 a 0 0).1 = true ∧ (s.1 = none ∨ ¬ (sw_b1 v l 0 a 0 0).2 ≤ s.2)
  · have e : sw_c2x v l d a s = (some (100 * a), (sw_b1 v l 0 a 0 0).2) := if_pos hc
    rw [e] at q2
    rcases q2 with q2 | q2
    · cases q2
    · exact q2 (Int32.le_refl _)
  · have e : sw_c2x v l d a s = s := if_neg hc
    rw [e] at q2
    exact hc ⟨q1, q2⟩
/-- never this deed: its best is best of all that lack it -/
theorem sw_b1_d (hl : 0 < l) (hd : d < 8) : ∃ x, (sw_b1 v l 0 d 0 0).1 = some x ∧ sw_do l d x = false ∧ (sw_b1 v l 0 d 0 0).2 = v x ∧ ∀ y, y < 8 ^ l → sw_do l d y = false → v y ≤ v x := by
  obtain ⟨h1, h2⟩ := sw_bs_best (K := sw_kwx l 0 d 0 0) (v := v) (8 ^ l)
  cases ho : (sw_b1 v l 0 d 0 0).1 with
  | none =>
    exfalso
    have h1 := h1 ho
    by_cases h0 : d = 0
    · -- all ones
      have key : ∀ m, ∃ x, x < 8 ^ m ∧ ∀ i, i < m → x / 8 ^ i % 8 = 1 := by
        intro m
        induction m with
        | zero => exact ⟨0, by decide, fun i hi => by omega⟩
        | succ m ih =>
          obtain ⟨x, hx, hi⟩ := ih
          refine ⟨8 * x + 1, by rw [Nat.pow_succ]; omega, fun i him => ?_⟩
          cases i with
          | zero => rw [Nat.pow_zero, Nat.div_one]; omega
          | succ i =>
            rw [Nat.pow_succ, Nat.mul_comm (8 ^ i) 8, ← Nat.div_div_eq_div_mul, show (8 * x + 1) / 8 = x by omega]
            exact hi i (by omega)
      obtain ⟨x, hx, hi⟩ := key l
      have := h1 x hx
      rw [sw_kw0, Bool.not_eq_false'] at this
      unfold sw_do at this
      rw [sw_any_iff] at this
      obtain ⟨i, _, hi2, he⟩ := this
      have := hi i (by omega)
      have he := of_decide_eq_true he
      omega
    · have := h1 0 (Nat.pow_pos (by decide))
      rw [sw_kw0, Bool.not_eq_false'] at this
      unfold sw_do at this
      rw [sw_any_iff] at this
      obtain ⟨i, _, hi2, he⟩ := this
      have he := of_decide_eq_true he
      rw [Nat.zero_div] at he
      omega
  | some x =>
    obtain ⟨z1, z2, z3, z4⟩ := h2 x ho
    rw [sw_kw0, Bool.not_eq_true'] at z2
    exact ⟨x, rfl, z2, z3, fun y hy hk => z4 y hy (by rw [sw_kw0, hk]; rfl)⟩
/-- nothing beats what the class has chosen -/
theorem sw_cs_top (hl : 0 < l) (hd : d < 8) : ¬ (sw_cs v l d).1 = none ∧ ∀ y, y < 8 ^ l → sw_do l d y = false → v y ≤ (sw_cs v l d).2 := by
  obtain ⟨x, e1, e2, e3, e4⟩ := sw_b1_d (v := v) hl hd
  unfold sw_cs
  rw [sd_fold_succ, Nat.zero_add]
  generalize sd_fold (sw_c2x v l d) d 0 (none, nI 0) = s
  have hm : sw_ok2 l d (sw_b1 v l 0 d 0 0).1 = true := by rw [e1]; show (!sw_do l d x) = true; rw [e2]; rfl
  unfold sw_c2x
  by_cases hc : s.1 = none ∨ ¬ (sw_b1 v l 0 d 0 0).2 ≤ s.2
  · rw [if_pos ⟨hm, hc⟩]
    refine ⟨fun q => (by cases q), fun y hy hk => ?_⟩
    show v y ≤ (sw_b1 v l 0 d 0 0).2
    rw [e3]; exact e4 y hy hk
  · rw [if_neg (fun q => hc q.2)]
    refine ⟨fun q => hc (Or.inl q), fun y hy hk => ?_⟩
    have h1 : (sw_b1 v l 0 d 0 0).2 ≤ s.2 := Classical.byContradiction fun w => hc (Or.inr w)
    have h2 := e4 y hy hk
    rw [e3, sw_ile] at h1
    rw [sw_ile] at h2 ⊢
    omega
theorem sw_m2_id (hl : 0 < l) (hd : d < 8) {kd k : Nat} : sw_m2 v l d kd k (sw_cs v l d) = sw_cs v l d := by
  obtain ⟨t1, t2⟩ := sw_cs_top (v := v) hl hd
  unfold sw_m2
  rw [if_neg]
  rintro ⟨q1, q2⟩
  rcases q2 with q2 | q2
  · exact t1 q2
  · obtain ⟨_, h2⟩ := sw_bs_best (K := sw_kwx l kd (k / 32) (k / 4 % 8) (k % 4)) (v := v) (8 ^ l)
    cases ho : (sw_b1 v l kd (k / 32) (k / 4 % 8) (k % 4)).1 with
    | none => rw [ho] at q1; cases q1
    | some x =>
      rw [ho] at q1
      obtain ⟨z1, z2, z3, z4⟩ := h2 x ho
      refine q2 ?_
      have z3 : (sw_b1 v l kd (k / 32) (k / 4 % 8) (k % 4)).2 = v x := z3
      rw [z3]
      exact t2 x z1 (by have q1 : (!sw_do l d x) = true := q1; rw [Bool.not_eq_true'] at q1; exact q1)
/-- the reference chooses as the class -/
theorem sw_ms_cs (hl : 0 < l) (hd : d < 8) : sw_ms v l d = sw_cs v l d := by
  have hid : ∀ kd, sw_mk v l d kd (sw_cs v l d) = sw_cs v l d := fun kd => sd_fold_id _ _ _ (fun x _ _ => sw_m2_id hl hd)
  have h0 : sw_mk v l d 0 (none, nI 0) = sw_cs v l d := by
    unfold sw_mk
    have e1 : sd_fold (sw_m2 v l d 0) ((d + 1) * 32) 0 (none, nI 0) = sw_cs v l d := by
      rw [sd_fold_mul]
      unfold sw_cs
      refine sd_fold_congr _ _ _ (fun a s _ _ => ?_)
      rw [Nat.zero_add, Nat.mul_comm]
      exact sw_m2_blk s
    have e2 : 256 = (d + 1) * 32 + (256 - (d + 1) * 32) := by omega
    rw [e2, sd_fold_add, e1]
    exact sd_fold_id _ _ _ (fun x _ _ => sw_m2_id hl hd)
  unfold sw_ms
  rw [show (6 : Nat) = 5 + 1 from rfl, sd_fold_c, h0]
  exact sd_fold_id _ _ _ (fun kd _ _ => hid kd)
end SDAN2
