/-! the reference lays the fates -/
theorem nz_band {a b : Nat} : nI a &&& nI b = nI (a &&& b) := Int32.toBitVec_inj.mp (by
  show BitVec.ofNat 32 a &&& BitVec.ofNat 32 b = BitVec.ofNat 32 (a &&& b)
  apply BitVec.eq_of_toNat_eq
  rw [BitVec.toNat_and, BitVec.toNat_ofNat, BitVec.toNat_ofNat, BitVec.toNat_ofNat, Nat.and_mod_two_pow])
/-- all ways gone through: is there one, what is in all, what is in some -/
def sw_wg (W : sw_T) (way : Nat) (s : Bool × Nat × Nat) : Bool × Nat × Nat := if sw_way W way = true then (true, s.2.1 &&& way, s.2.2 ||| way) else s
def sw_wf (W : sw_T) : Bool × Nat × Nat := sd_fold (sw_wg W) (2 ^ sw_an (sw_op W) (W 0 0 0)) 0 (false, 2 ^ sw_an (sw_op W) (W 0 0 0) - 1, 0)
theorem sw_wf_inv (W : sw_T) : ∀ n, n ≤ 2 ^ sw_an (sw_op W) (W 0 0 0) → (sd_fold (sw_wg W) n 0 (false, 2 ^ sw_an (sw_op W) (W 0 0 0) - 1, 0)).2.1 < 2 ^ sw_an (sw_op W) (W 0 0 0) ∧ (sd_fold (sw_wg W) n 0 (false, 2 ^ sw_an (sw_op W) (W 0 0 0) - 1, 0)).2.2 < 2 ^ sw_an (sw_op W) (W 0 0 0) ∧ ((sd_fold (sw_wg W) n 0 (false, 2 ^ sw_an (sw_op W) (W 0 0 0) - 1, 0)).1 = true ↔ ∃ w, w < n ∧ sw_way W w = true) ∧ ∀ k, k < sw_an (sw_op W) (W 0 0 0) → (((sd_fold (sw_wg W) n 0 (false, 2 ^ sw_an (sw_op W) (W 0 0 0) - 1, 0)).2.1.testBit k = true ↔ ∀ w, w < n → sw_way W w = true → w.testBit k = true) ∧ ((sd_fold (sw_wg W) n 0 (false, 2 ^ sw_an (sw_op W) (W 0 0 0) - 1, 0)).2.2.testBit k = true ↔ ∃ w, w < n ∧ sw_way W w = true ∧ w.testBit k = true)) := by
  intro n
  induction n with
  | zero =>
    intro _
    refine ⟨?_, Nat.two_pow_pos _, ⟨fun q => (by cases q), fun ⟨w, h, _⟩ => by omega⟩, fun k hk => ⟨⟨fun _ w h => by omega, fun _ => ?_⟩, ⟨fun q => ?_, fun ⟨w, h, _⟩ => by omega⟩⟩⟩
    · exact Nat.sub_lt (Nat.two_pow_pos _) (by decide)
    · show (2 ^ sw_an (sw_op W) (W 0 0 0) - 1).testBit k = true
      rw [Nat.testBit_two_pow_sub_one]
      exact decide_eq_true hk
    · have q : (0 : Nat).testBit k = true := q
      rw [Nat.zero_testBit] at q
      cases q
  | succ n ih =>
    intro hn
    obtain ⟨i1, i2, i3, i4⟩ := ih (by omega)
    rw [sd_fold_succ, Nat.zero_add]
    generalize sd_fold (sw_wg W) n 0 (false, 2 ^ sw_an (sw_op W) (W 0 0 0) - 1, 0) = s at i1 i2 i3 i4 ⊢
    unfold sw_wg
    cases hw : sw_way W n with
    | true =>
      rw [if_pos rfl]
      refine ⟨Nat.lt_of_le_of_lt Nat.and_le_left i1, Nat.or_lt_two_pow i2 (by omega), ⟨fun _ => ⟨n, by omega, hw⟩, fun _ => rfl⟩, fun k hk => ⟨?_, ?_⟩⟩
      · show (s.2.1 &&& n).testBit k = true ↔ _
        rw [Nat.testBit_and, Bool.and_eq_true, (i4 k hk).1]
        constructor
        · rintro ⟨a1, a2⟩ w h1 h2
          rcases Nat.lt_or_ge w n with q | q
          · exact a1 w q h2
          · rw [show w = n by omega]; exact a2
        · intro h
          exact ⟨fun w h1 h2 => h w (by omega) h2, h n (by omega) hw⟩
      · show (s.2.2 ||| n).testBit k = true ↔ _
        rw [Nat.testBit_or, Bool.or_eq_true, (i4 k hk).2]
        constructor
        · rintro (⟨w, a1, a2⟩ | a)
          · exact ⟨w, by omega, a2⟩
          · exact ⟨n, by omega, hw, a⟩
        · rintro ⟨w, a1, a2, a3⟩
          rcases Nat.lt_or_ge w n with q | q
          · exact Or.inl ⟨w, q, a2, a3⟩
          · rw [show w = n by omega] at a3; exact Or.inr a3
    | false =>
      rw [if_neg (by decide)]
      have up : ∀ w, w < n + 1 → sw_way W w = true → w < n := fun w h1 h2 => by
        rcases Nat.lt_or_ge w n with q | q
        · exact q
        · rw [show w = n by omega, hw] at h2; cases h2
      refine ⟨i1, i2, i3.trans ⟨fun ⟨w, a, b⟩ => ⟨w, by omega, b⟩, fun ⟨w, a, b⟩ => ⟨w, up w a b, b⟩⟩, fun k hk => ⟨(i4 k hk).1.trans ⟨fun h w a b => h w (up w a b) b, fun h w a b => h w (by omega) b⟩, (i4 k hk).2.trans ⟨fun ⟨w, a, b⟩ => ⟨w, by omega, b⟩, fun ⟨w, a, b, e⟩ => ⟨w, up w a b, b, e⟩⟩⟩⟩
/-- what the reference makes of it is the fate by chains -/
theorem sw_wf_fate {P : Nat} {W : sw_T} (hW : sw_OK P W) {k : Nat} (hk : k < sw_an (sw_op W) (W 0 0 0)) : (if ¬ (sw_wf W).1 = true then 2 else if (sw_wf W).2.1.testBit k = true then 0 else if (sw_wf W).2.2.testBit k = true then 2 else 1) = sw_fate W (sw_ag (sw_op W) (W 0 0 0) k) := by
  obtain ⟨_, _, w1, w2⟩ := sw_wf_inv W _ (Nat.le_refl (2 ^ sw_an (sw_op W) (W 0 0 0)))
  obtain ⟨w3, w4⟩ := w2 k hk
  obtain ⟨g1, g2, g3⟩ := sw_ag_all (sw_op W) (W 0 0 0)
  have ho := (g1 k hk).1
  obtain ⟨f1, f2⟩ := sw_fates (sv := sw_sv W) (b := sw_bb W) (sw_op_12 hW)
  have ef : sw_fate W (sw_ag (sw_op W) (W 0 0 0) k) = if sw_par W = true then 2 else sw_cw W (sw_ag (sw_op W) (W 0 0 0) k) := by
    show (if sw_op W (sw_ag (sw_op W) (W 0 0 0) k) = true then _ else _) = _
    rw [if_pos ho]
  rw [ef]
  have hw1 : (sw_wf W).1 = true ↔ ∃ κ, sw_sol (sw_op W) (sw_sv W) (sw_bb W) (sw_tg W) κ := by
    rw [show (sw_wf W).1 = (sd_fold (sw_wg W) (2 ^ sw_an (sw_op W) (W 0 0 0)) 0 (false, 2 ^ sw_an (sw_op W) (W 0 0 0) - 1, 0)).1 from rfl, w1]
    constructor
    · rintro ⟨w, a, b⟩; exact ⟨_, (sw_way_sol hW w).mp b⟩
    · rintro ⟨κ, h⟩
      obtain ⟨w, a, b, _⟩ := sw_sol_way hW h
      exact ⟨w, a, b⟩
  have hw3 : (sw_wf W).2.1.testBit k = true ↔ ∀ κ, sw_sol (sw_op W) (sw_sv W) (sw_bb W) (sw_tg W) κ → κ (sw_ag (sw_op W) (W 0 0 0) k) = true := by
    refine w3.trans ⟨fun h κ hs => ?_, fun h w a b => ?_⟩
    · obtain ⟨w, a, b, e⟩ := sw_sol_way hW hs
      rw [← e k hk]; exact h w a b
    · have := h _ ((sw_way_sol hW w).mp b)
      rw [sw_kw_ag W hk] at this
      exact this
  have hw4 : (sw_wf W).2.2.testBit k = true ↔ ∃ κ, sw_sol (sw_op W) (sw_sv W) (sw_bb W) (sw_tg W) κ ∧ κ (sw_ag (sw_op W) (W 0 0 0) k) = true := by
    refine w4.trans ⟨fun ⟨w, a, b, e⟩ => ?_, fun ⟨κ, hs, e⟩ => ?_⟩
    · refine ⟨_, (sw_way_sol hW w).mp b, ?_⟩
      rw [sw_kw_ag W hk]; exact e
    · obtain ⟨w, a, b, e'⟩ := sw_sol_way hW hs
      exact ⟨w, a, b, by rw [e' k hk]; exact e⟩
  by_cases hp : sw_par W = true
  · rw [if_pos hp]
    have hex := (sw_par_iff hW).mp hp
    rw [if_pos (fun q => by
      obtain ⟨κ, h⟩ := hw1.mp q
      exact f1 hex κ h)]
  · rw [if_neg hp]
    have hno : ¬ ∃ v, sw_op W v = true ∧ sw_ch (sw_op W) (sw_sv W) (sw_bb W) (sw_tg W) 12 v false = 3 := fun q => hp ((sw_par_iff hW).mpr q)
    obtain ⟨e1, e2⟩ := f2 hno
    obtain ⟨c0, c1, c2, c3⟩ := e2 _ ho
    rw [if_neg (fun q => q (hw1.mpr e1))]
    rcases (show sw_cw W (sw_ag (sw_op W) (W 0 0 0) k) = 0 ∨ sw_cw W (sw_ag (sw_op W) (W 0 0 0) k) = 1 ∨ sw_cw W (sw_ag (sw_op W) (W 0 0 0) k) = 2 by unfold sw_cw; omega) with h | h | h
    · rw [h, if_pos (hw3.mpr (c1 h))]
    · obtain ⟨κ, hs⟩ := e1
      have hf := c2 h κ hs
      rw [h, if_neg (fun q => by have := hw3.mp q κ hs; rw [hf] at this; cases this), if_neg (fun q => by
        obtain ⟨κ', h1, h2⟩ := hw4.mp q
        rw [c2 h κ' h1] at h2
        cases h2)]
    · obtain ⟨⟨κ1, s1, t1⟩, κ2, s2, t2⟩ := c3 h
      rw [h, if_neg (fun q => by have := hw3.mp q κ2 s2; rw [t2] at this; cases this), if_pos (hw4.mpr ⟨κ1, s1, t1⟩)]
