/-! rows of l as numbers; folds -/
def sw_dg (m N k : Nat) : Nat := N / 8 ^ (m - 1 - k) % 8
def sw_dc : Nat → Nat → Nat
  | 0, _ => 0
  | m + 1, N => 10 * sw_dc m (N / 8) + N % 8
theorem sw_dg_lt (m N k : Nat) : sw_dg m N k < 8 := Nat.mod_lt _ (by decide)
theorem sw_dg_s {m N d k : Nat} (hd : d < 8) (hk : k < m) : sw_dg (m + 1) (8 * N + d) k = sw_dg m N k := by
  unfold sw_dg
  rw [show m + 1 - 1 - k = (m - 1 - k) + 1 by omega, Nat.pow_succ, Nat.mul_comm (8 ^ (m - 1 - k)) 8, ← Nat.div_div_eq_div_mul, show (8 * N + d) / 8 = N by omega]
theorem sw_dg_e {m N d : Nat} (hd : d < 8) : sw_dg (m + 1) (8 * N + d) m = d := by
  unfold sw_dg
  rw [show m + 1 - 1 - m = 0 by omega, Nat.pow_zero, Nat.div_one]
  omega
theorem sw_dg_p {m j x N k : Nat} (h : x / 8 ^ j = N) (hk : k < m) : sw_dg (m + j) x k = sw_dg m N k := by
  unfold sw_dg
  rw [show m + j - 1 - k = j + (m - 1 - k) by omega, Nat.pow_add, ← Nat.div_div_eq_div_mul, h]
theorem sw_dc_s {m N d : Nat} (hd : d < 8) : sw_dc (m + 1) (8 * N + d) = 10 * sw_dc m N + d := by
  show 10 * sw_dc m ((8 * N + d) / 8) + (8 * N + d) % 8 = _
  rw [show (8 * N + d) / 8 = N by omega, show (8 * N + d) % 8 = d by omega]
theorem sw_dc_lt : ∀ m N, sw_dc m N < 10 ^ m
  | 0, _ => Nat.zero_lt_one
  | m + 1, N => by
    have h1 := sw_dc_lt m (N / 8)
    have h2 := Nat.mod_lt N (show 0 < 8 by decide)
    show 10 * sw_dc m (N / 8) + N % 8 < _
    rw [Nat.pow_succ]
    omega
theorem sw_dc_5 {m N : Nat} (hm : m ≤ 5) : sw_dc m N < 100000 := Nat.lt_of_lt_of_le (sw_dc_lt m N) (Nat.pow_le_pow_right (by decide) hm)
theorem sw_dc_m {m N d : Nat} (hd : d < 8) : sw_dc (m + 1) (8 * N + d) % 10 = d := by
  rw [sw_dc_s hd]; omega
theorem sd_fold_add {α : Type} {g : Nat → α → α} : ∀ n m i (a : α), sd_fold g (n + m) i a = sd_fold g m (i + n) (sd_fold g n i a)
  | 0, m, i, a => by rw [Nat.zero_add]; rfl
  | n + 1, m, i, a => by
    rw [show n + 1 + m = (n + m) + 1 by omega]
    show sd_fold g (n + m) (i + 1) (g i a) = _
    rw [sd_fold_add n m (i + 1) (g i a), show i + 1 + n = i + (n + 1) by omega]
    rfl
theorem sd_fold_mul {α : Type} {g : Nat → α → α} {m i : Nat} : ∀ n (a : α), sd_fold g (n * m) i a = sd_fold (fun k a => sd_fold g m (i + k * m) a) n 0 a
  | 0, a => by rw [Nat.zero_mul]; rfl
  | n + 1, a => by
    rw [Nat.succ_mul, sd_fold_add, sd_fold_mul n a, sd_fold_succ, Nat.zero_add]
theorem sd_fold_id {α : Type} {g : Nat → α → α} : ∀ n i (a : α), (∀ x, i ≤ x → x < i + n → g x a = a) → sd_fold g n i a = a
  | 0, _, _, _ => rfl
  | n + 1, i, a, h => by
    show sd_fold g n (i + 1) (g i a) = a
    rw [h i (by omega) (by omega)]
    exact sd_fold_id n (i + 1) a (fun x h1 h2 => h x (by omega) (by omega))
/-- going down: br strikes, hp sees no hope, ar arrives, en has ended -/
def sw_D {α : Type} (br : Nat → Nat → Nat → Nat) (hp : α → Nat → Bool) (ar : Nat → Nat → α → α) (en : α → Bool) : Nat → Nat → Nat → Nat → α → α
  | 0, _, N, st, s => ar N st s
  | j + 1, m, N, st, s => sd_fold (fun d s => if en s = true then s else if hp s (br (m + 1) (8 * N + d) st) = true then s else sw_D br hp ar en j (m + 1) (8 * N + d) (br (m + 1) (8 * N + d) st) s) 8 0 s
/-- what is struck by the first m deeds -/
def sw_st (br : Nat → Nat → Nat → Nat) : Nat → Nat → Nat
  | 0, _ => 0
  | m + 1, N => br (m + 1) N (sw_st br m (N / 8))
/-- one row -/
def sw_g {α : Type} (br : Nat → Nat → Nat → Nat) (hp : α → Nat → Bool) (ar : Nat → Nat → α → α) (en : α → Bool) (l x : Nat) (s : α) : α := if en s = true then s else if hp s (sw_st br l x) = true then s else ar x (sw_st br l x) s
theorem sw_st_s {br : Nat → Nat → Nat → Nat} {m N d : Nat} (hd : d < 8) : sw_st br (m + 1) (8 * N + d) = br (m + 1) (8 * N + d) (sw_st br m N) := by
  show br (m + 1) (8 * N + d) (sw_st br m ((8 * N + d) / 8)) = _
  rw [show (8 * N + d) / 8 = N by omega]
/-- struck of a beginning is struck of the row -/
theorem sw_st_p {br : Nat → Nat → Nat → Nat} (hb : ∀ m N st, st ||| br m N st = br m N st) {m : Nat} : ∀ j x, sw_st br m (x / 8 ^ j) ||| sw_st br (m + j) x = sw_st br (m + j) x
  | 0, x => by
    rw [Nat.pow_zero, Nat.div_one, Nat.add_zero, Nat.or_self]
  | j + 1, x => by
    have ih := sw_st_p hb (m := m) j (x / 8)
    rw [show x / 8 ^ (j + 1) = x / 8 / 8 ^ j by rw [Nat.div_div_eq_div_mul, Nat.pow_succ, Nat.mul_comm]]
    show _ ||| br (m + j + 1) x (sw_st br (m + j) (x / 8)) = br (m + j + 1) x (sw_st br (m + j) (x / 8))
    have h1 := hb (m + j + 1) x (sw_st br (m + j) (x / 8))
    rw [← h1, ← Nat.or_assoc, ih]
theorem sw_D_g {α : Type} {br : Nat → Nat → Nat → Nat} {hp : α → Nat → Bool} {ar : Nat → Nat → α → α} {en : α → Bool} (hb : ∀ m N st, st ||| br m N st = br m N st) (hm : ∀ s a b, a ||| b = b → hp s a = true → hp s b = true) {l : Nat} : ∀ j m N (s : α), m + j = l → en s = false → (j = 0 → hp s (sw_st br m N) = false) → sw_D br hp ar en j m N (sw_st br m N) s = sd_fold (sw_g br hp ar en l) (8 ^ j) (N * 8 ^ j) s
  | 0, m, N, s, hl, he, hh => by
    have e : m = l := by omega
    subst e
    rw [Nat.pow_zero, Nat.mul_one]
    show ar N (sw_st br m N) s = sw_g br hp ar en m N s
    unfold sw_g
    rw [he, hh rfl, if_neg (by decide), if_neg (by decide)]
  | j + 1, m, N, s, hl, he, hh => by
    rw [Nat.pow_succ, Nat.mul_comm (8 ^ j) 8, sd_fold_mul]
    show sd_fold _ 8 0 s = _
    refine sd_fold_congr 8 0 s (fun d s h1 h2 => ?_)
    have hd : d < 8 := by omega
    have e1 : N * (8 * 8 ^ j) + d * 8 ^ j = (8 * N + d) * 8 ^ j := by
      rw [Nat.add_mul, ← Nat.mul_assoc, Nat.mul_comm N 8]
    rw [e1, ← sw_st_s (br := br) (m := m) (N := N) hd]
    cases hes : en s with
    | true =>
      rw [if_pos rfl]
      symm
      refine sd_fold_id _ _ _ (fun x _ _ => ?_)
      unfold sw_g
      rw [hes, if_pos rfl]
    | false =>
      rw [if_neg (by decide)]
      cases hps : hp s (sw_st br (m + 1) (8 * N + d)) with
      | true =>
        rw [if_pos rfl]
        symm
        refine sd_fold_id _ _ _ (fun x q1 q2 => ?_)
        have hx : x / 8 ^ j = 8 * N + d := by
          refine Nat.div_eq_of_lt_le q1 ?_
          rw [Nat.add_mul, Nat.one_mul]
          exact q2
        have hsup := sw_st_p hb (m := m + 1) j x
        rw [hx, show m + 1 + j = l by omega] at hsup
        unfold sw_g
        rw [hes, if_neg (by decide), hm s _ _ hsup hps, if_pos rfl]
      | false =>
        rw [if_neg (by decide)]
        exact sw_D_g hb hm j (m + 1) (8 * N + d) s (by omega) hes (fun _ => hps)
/-! counting bits -/
theorem sw_pcf {a : Nat} : ∀ n i t, t ≤ sd_fold (fun i t => if a.testBit i = true then t + 1 else t) n i t
  | 0, _, _ => Nat.le_refl _
  | n + 1, i, t => by
    show t ≤ sd_fold _ n (i + 1) (if a.testBit i = true then t + 1 else t)
    have := sw_pcf (a := a) n (i + 1) (if a.testBit i = true then t + 1 else t)
    split at this <;> split <;> first | omega | contradiction
theorem sw_pcm {a b : Nat} (h : a ||| b = b) : ∀ n i t u, t ≤ u → sd_fold (fun i t => if a.testBit i = true then t + 1 else t) n i t ≤ sd_fold (fun i t => if b.testBit i = true then t + 1 else t) n i u ∧ (sd_fold (fun i t => if a.testBit i = true then t + 1 else t) n i t = sd_fold (fun i t => if b.testBit i = true then t + 1 else t) n i u → t = u ∧ ∀ k, i ≤ k → k < i + n → a.testBit k = b.testBit k)
  | 0, i, t, u, htu => ⟨htu, fun q => ⟨q, fun k h1 h2 => by omega⟩⟩
  | n + 1, i, t, u, htu => by
    have hsub : a.testBit i = true → b.testBit i = true := fun q => by
      rw [← h, Nat.testBit_or, q, Bool.true_or]
    have key : ∀ t' u', t' ≤ u' → (t' = u' → t = u ∧ a.testBit i = b.testBit i) → sd_fold (fun i t => if a.testBit i = true then t + 1 else t) n (i + 1) t' ≤ sd_fold (fun i t => if b.testBit i = true then t + 1 else t) n (i + 1) u' ∧ (sd_fold (fun i t => if a.testBit i = true then t + 1 else t) n (i + 1) t' = sd_fold (fun i t => if b.testBit i = true then t + 1 else t) n (i + 1) u' → t = u ∧ ∀ k, i ≤ k → k < i + (n + 1) → a.testBit k = b.testBit k) := fun t' u' h1 h2 => by
      obtain ⟨g1, g2⟩ := sw_pcm h n (i + 1) t' u' h1
      refine ⟨g1, fun q => ?_⟩
      obtain ⟨q1, q2⟩ := g2 q
      obtain ⟨q3, q4⟩ := h2 q1
      refine ⟨q3, fun k k1 k2 => ?_⟩
      by_cases hk : k = i
      · rw [hk]; exact q4
      · exact q2 k (by omega) (by omega)
    show sd_fold _ n (i + 1) (if a.testBit i = true then t + 1 else t) ≤ sd_fold _ n (i + 1) (if b.testBit i = true then u + 1 else u) ∧ (sd_fold _ n (i + 1) (if a.testBit i = true then t + 1 else t) = sd_fold _ n (i + 1) (if b.testBit i = true then u + 1 else u) → _)
    refine key _ _ ?_ ?_
    · by_cases ha : a.testBit i = true
      · rw [if_pos ha, if_pos (hsub ha)]; omega
      · rw [if_neg ha]; split <;> omega
    · by_cases ha : a.testBit i = true
      · rw [if_pos ha, if_pos (hsub ha), ha, hsub ha]
        exact fun q => ⟨by omega, rfl⟩
      · rw [if_neg ha]
        by_cases hb : b.testBit i = true
        · rw [if_pos hb]; exact fun q => by omega
        · rw [if_neg hb]
          refine fun q => ⟨q, ?_⟩
          rw [Bool.not_eq_true] at ha hb
          rw [ha, hb]
theorem sw_pc_sub {a b : Nat} (h : a ||| b = b) : sw_pc a ≤ sw_pc b := (sw_pcm h 12 0 0 0 (Nat.le_refl _)).1
theorem sw_pc_eq {a b : Nat} (h : a ||| b = b) (ha : a < 4096) (hb : b < 4096) (he : sw_pc a = sw_pc b) : a = b := by
  have h1 := ((sw_pcm h 12 0 0 0 (Nat.le_refl _)).2 he).2
  refine Nat.eq_of_testBit_eq (fun k => ?_)
  by_cases hk : k < 12
  · exact h1 k (Nat.zero_le _) (by omega)
  · have e : (2 : Nat) ^ 12 ≤ 2 ^ k := Nat.pow_le_pow_right (by decide) (by omega)
    rw [Nat.testBit_lt_two_pow (by omega), Nat.testBit_lt_two_pow (by omega)]
