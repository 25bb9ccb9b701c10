/-! strike: the least that is struck -/
def sw_kl (a b : Nat) : Prop := sw_pc a < sw_pc b ∨ (sw_pc a = sw_pc b ∧ a < b)
section SDA9
variable {u : Nat → Nat → Nat} {ix : Nat → Nat} {vt l : Nat}
theorem sw_and2 {b k : Nat} : b &&& 2 ^ k = 0 ↔ b.testBit k = false := by
  constructor
  · intro h
    have := congrArg (fun z => z.testBit k) h
    simp only [Nat.testBit_and, Nat.testBit_two_pow_self, Bool.and_true, Nat.zero_testBit] at this
    exact this
  · intro h
    refine Nat.eq_of_testBit_eq (fun i => ?_)
    rw [Nat.testBit_and, Nat.zero_testBit, Nat.testBit_two_pow]
    by_cases hk : k = i
    · subst hk; rw [h, Bool.false_and]
    · rw [decide_eq_false hk, Bool.and_false]
theorem sw_sb_tb {m N t : Nat} : ∀ n i b, (sd_fold (fun v b => if 1 = 0 ∧ ¬ b = 0 then b else if b &&& 2 ^ ix v = 0 ∧ sw_ba (sw_dg m N) l (u v 1) (u v 2) (u v 3) (u v 4) (m - 1) = true then b ||| 2 ^ ix v else b) n i b).testBit t = true ↔ (b.testBit t = true ∨ ∃ v, i ≤ v ∧ v < i + n ∧ ix v = t ∧ sw_ba (sw_dg m N) l (u v 1) (u v 2) (u v 3) (u v 4) (m - 1) = true)
  | 0, i, b => ⟨fun h => Or.inl h, fun h => by
    rcases h with h | ⟨v, h1, h2, _⟩
    · exact h
    · omega⟩
  | n + 1, i, b => by
    show (sd_fold _ n (i + 1) (if 1 = 0 ∧ ¬ b = 0 then b else if b &&& 2 ^ ix i = 0 ∧ sw_ba (sw_dg m N) l (u i 1) (u i 2) (u i 3) (u i 4) (m - 1) = true then b ||| 2 ^ ix i else b)).testBit t = true ↔ _
    rw [sw_sb_tb n (i + 1), if_neg (fun q => absurd q.1 (by decide))]
    have step : (if b &&& 2 ^ ix i = 0 ∧ sw_ba (sw_dg m N) l (u i 1) (u i 2) (u i 3) (u i 4) (m - 1) = true then b ||| 2 ^ ix i else b).testBit t = true ↔ (b.testBit t = true ∨ (ix i = t ∧ sw_ba (sw_dg m N) l (u i 1) (u i 2) (u i 3) (u i 4) (m - 1) = true)) := by
      split
      · rename_i q
        rw [Nat.testBit_or, Bool.or_eq_true, Nat.testBit_two_pow, decide_eq_true_eq]
        exact ⟨fun h => h.elim Or.inl (fun h => Or.inr ⟨h, q.2⟩), fun h => h.elim Or.inl (fun h => Or.inr h.1)⟩
      · rename_i q
        refine ⟨Or.inl, fun h => ?_⟩
        rcases h with h | ⟨h1, h2⟩
        · exact h
        · have : ¬ b &&& 2 ^ ix i = 0 := fun w => q ⟨w, h2⟩
          rw [sw_and2, Bool.not_eq_false] at this
          rw [← h1]; exact this
    rw [step]
    constructor
    · rintro ((h | ⟨h1, h2⟩) | ⟨v, h1, h2, h3⟩)
      · exact Or.inl h
      · exact Or.inr ⟨i, Nat.le_refl _, by omega, h1, h2⟩
      · exact Or.inr ⟨v, by omega, by omega, h3⟩
    · rintro (h | ⟨v, h1, h2, h3⟩)
      · exact Or.inl (Or.inl h)
      · by_cases hv : v = i
        · subst hv; exact Or.inl (Or.inr h3)
        · exact Or.inr ⟨v, by omega, by omega, h3⟩
theorem sw_st_tb {t : Nat} : ∀ m N, (sw_st (sw_sb u (fun v => 2 ^ ix v) vt l 1) m N).testBit t = true ↔ ∃ v, v < vt ∧ ix v = t ∧ ∃ i, i < m ∧ sw_ba (sw_dg m N) l (u v 1) (u v 2) (u v 3) (u v 4) i = true
  | 0, N => ⟨fun h => (by rw [show sw_st (sw_sb u (fun v => 2 ^ ix v) vt l 1) 0 N = 0 from rfl, Nat.zero_testBit] at h; cases h), fun ⟨v, _, _, i, hi, _⟩ => by omega⟩
  | m + 1, N => by
    have ih := sw_st_tb (t := t) m (N / 8)
    have hpre : ∀ v i, i < m → sw_ba (sw_dg (m + 1) N) l (u v 1) (u v 2) (u v 3) (u v 4) i = sw_ba (sw_dg m (N / 8)) l (u v 1) (u v 2) (u v 3) (u v 4) i := fun v i hi => sw_ba_c (fun k hk => sw_dg_p (j := 1) (by rw [Nat.pow_one]) (by omega))
    show (sw_sb u (fun v => 2 ^ ix v) vt l 1 (m + 1) N (sw_st (sw_sb u (fun v => 2 ^ ix v) vt l 1) m (N / 8))).testBit t = true ↔ _
    unfold sw_sb at ih ⊢
    rw [sw_sb_tb, ih, Nat.add_sub_cancel]
    constructor
    · rintro (⟨v, h1, h2, i, h3, h4⟩ | ⟨v, _, h1, h2, h3⟩)
      · exact ⟨v, h1, h2, i, by omega, by rw [hpre v i h3]; exact h4⟩
      · exact ⟨v, by omega, h2, m, by omega, h3⟩
    · rintro ⟨v, h1, h2, i, h3, h4⟩
      by_cases him : i < m
      · exact Or.inl ⟨v, h1, h2, i, him, by rw [← hpre v i him]; exact h4⟩
      · rw [show i = m by omega] at h4
        exact Or.inr ⟨v, Nat.zero_le _, by omega, h2, h4⟩
end SDA9
/-- the vows of b that row x breaks -/
theorem sw_st_kv {W : sw_T} {il : List Nat} {l x t : Nat} : (sw_st (sw_sb (fun k => W 1 (il.getD k 0)) (fun k => 2 ^ il.getD k 0) il.length l 1) l x).testBit t = true ↔ (t ∈ il ∧ sw_kv W l x t = false) := by
  rw [sw_st_tb (u := fun k => W 1 (il.getD k 0)) (ix := fun k => il.getD k 0)]
  constructor
  · rintro ⟨v, h1, h2, i, h3, h4⟩
    have hm : t ∈ il := by rw [← h2, sw_gD h1]; exact List.getElem_mem h1
    refine ⟨hm, ?_⟩
    cases hk : sw_kv W l x t with
    | false => rfl
    | true =>
      unfold sw_kv at hk
      have := sw_pb_none.mp (Option.isNone_iff_eq_none.mp hk) i h3
      rw [← h2] at this
      rw [this] at h4
      cases h4
  · rintro ⟨h1, h2⟩
    obtain ⟨v, hv, e⟩ := List.getElem_of_mem h1
    refine ⟨v, hv, by rw [sw_gD hv, e], ?_⟩
    refine Classical.byContradiction fun q => ?_
    have : sw_kv W l x t = true := by
      unfold sw_kv
      rw [sw_pb_none.mpr (fun i hi => ?_)]
      · rfl
      · cases hb : sw_ba (sw_dg l x) l (W 1 t 1) (W 1 t 2) (W 1 t 3) (W 1 t 4) i with
        | false => rfl
        | true => exact absurd ⟨i, hi, by rw [sw_gD hv, e]; exact hb⟩ q
    rw [this] at h2
    cases h2
/-- what the search for the least has found among the first n rows -/
def sw_ki (S : Nat → Nat) (n : Nat) (s : Nat → Int32) : Prop := s 9 = nI 1 ∧ ((n = 0 ∧ s 11 = -1 ∧ s 10 = nI 0) ∨ ∃ b x, b < 4096 ∧ x < n ∧ b = S x ∧ s 11 = nI b ∧ s 10 = (if b = 0 then nI 1 else nI 0) ∧ ∀ y, y < n → ¬ sw_kl (S y) b)
theorem sw_run_ki {br : Nat → Nat → Nat → Nat} {wo : Nat → Int32} {H : Nat → Nat} {l : Nat} (hS : ∀ x, sw_st br l x < 4096) {s : Nat → Int32} (hs : sw_ki (sw_st br l) 0 s) : ∀ n, sw_ki (sw_st br l) n (sd_fold (sw_g br sw_hp (sw_ar wo H l) sw_en l) n 0 s)
  | 0 => hs
  | n + 1 => by
    have ih := sw_run_ki (wo := wo) (H := H) hS hs n
    rw [sd_fold_succ, Nat.zero_add]
    generalize sd_fold (sw_g br sw_hp (sw_ar wo H l) sw_en l) n 0 s = s at ih
    obtain ⟨h9, ih⟩ := ih
    have har : sw_ar wo H l n (sw_st br l n) s = sw_u (sw_u s 11 (nI (sw_st br l n))) 10 (if sw_st br l n = 0 then nI 1 else nI 0) := by
      unfold sw_ar
      rw [h9, if_pos (by decide)]
    unfold sw_g
    rcases ih with ⟨h0, h11, h10⟩ | ⟨b, x, hb, hx, hbx, h11, h10, hmin⟩
    · subst h0
      have he : sw_en s = false := by unfold sw_en; rw [h10]; decide
      have hhp : sw_hp s (sw_st br l 0) = false := by unfold sw_hp; rw [h9, if_neg (by decide), if_pos h11]
      rw [he, if_neg (by decide), hhp, if_neg (by decide), har]
      refine ⟨h9, Or.inr ⟨sw_st br l 0, 0, hS 0, by omega, rfl, rfl, rfl, fun y hy => ?_⟩⟩
      rw [show y = 0 by omega]
      unfold sw_kl
      omega
    · by_cases hb0 : b = 0
      · have he : sw_en s = true := by unfold sw_en; rw [h10, if_pos hb0]; decide
        rw [he, if_pos rfl]
        refine ⟨h9, Or.inr ⟨b, x, hb, by omega, hbx, h11, h10, fun y hy => ?_⟩⟩
        unfold sw_kl
        rw [hb0, show sw_pc 0 = 0 by decide]
        omega
      · have he : sw_en s = false := by unfold sw_en; rw [h10, if_neg hb0]; decide
        rw [he, if_neg (by decide)]
        have hhp : sw_hp s (sw_st br l n) = decide (sw_pc b < sw_pc (sw_st br l n) ∨ (sw_pc b = sw_pc (sw_st br l n) ∧ b ≤ sw_st br l n)) := by
          unfold sw_hp
          rw [h9, if_neg (by decide), h11, if_neg (fun q => (nz_m1 (by omega)).mp q), nz_cl (by omega)]
        rw [hhp]
        by_cases hc : sw_pc b < sw_pc (sw_st br l n) ∨ (sw_pc b = sw_pc (sw_st br l n) ∧ b ≤ sw_st br l n)
        · rw [if_pos (decide_eq_true hc)]
          refine ⟨h9, Or.inr ⟨b, x, hb, by omega, hbx, h11, h10, fun y hy => ?_⟩⟩
          by_cases hyn : y = n
          · rw [hyn]; unfold sw_kl; omega
          · exact hmin y (by omega)
        · rw [if_neg (by rw [decide_eq_true_eq]; exact hc), har]
          refine ⟨h9, Or.inr ⟨sw_st br l n, n, hS n, by omega, rfl, rfl, rfl, fun y hy => ?_⟩⟩
          by_cases hyn : y = n
          · rw [hyn]; unfold sw_kl; omega
          · have := hmin y (by omega)
            unfold sw_kl at this ⊢
            omega
/-! sets of vows -/
theorem nz_sub12 {S T : Nat} (hS : S < 4096) : nI S &&& (nI T ^^^ -1) = nI (S &&& (T ^^^ 4095)) := nz_andnot (fun i hi => by
  rw [Nat.testBit_and, Nat.testBit_xor]
  by_cases h : i < 12
  · have : (4095 : Nat).testBit i = true := by rw [show 4095 = 2 ^ 12 - 1 from rfl, Nat.testBit_two_pow_sub_one]; exact decide_eq_true h
    rw [this, Bool.xor_true]
  · have e : (2 : Nat) ^ 12 ≤ 2 ^ i := Nat.pow_le_pow_right (by decide) (by omega)
    rw [Nat.testBit_lt_two_pow (show S < 2 ^ i by omega), Bool.false_and, Bool.false_and])
theorem sw_dif_tb {S T t : Nat} (hS : S < 4096) : (S &&& (T ^^^ 4095)).testBit t = (S.testBit t && !T.testBit t) := by
  rw [Nat.testBit_and, Nat.testBit_xor]
  by_cases h : t < 12
  · have : (4095 : Nat).testBit t = true := by rw [show 4095 = 2 ^ 12 - 1 from rfl, Nat.testBit_two_pow_sub_one]; exact decide_eq_true h
    rw [this, Bool.xor_true]
  · have e : (2 : Nat) ^ 12 ≤ 2 ^ t := Nat.pow_le_pow_right (by decide) (by omega)
    rw [Nat.testBit_lt_two_pow (show S < 2 ^ t by omega), Bool.false_and, Bool.false_and]
theorem sw_dif_0 {S T : Nat} (hS : S < 4096) : S &&& (T ^^^ 4095) = 0 ↔ S ||| T = T := by
  constructor
  · intro h
    refine Nat.eq_of_testBit_eq (fun i => ?_)
    have := sw_dif_tb (T := T) (t := i) hS
    rw [h, Nat.zero_testBit] at this
    rw [Nat.testBit_or]
    cases hs : S.testBit i
    · rw [Bool.false_or]
    · rw [hs, Bool.true_and] at this
      cases ht : T.testBit i
      · rw [ht] at this; cases this
      · rfl
  · intro h
    refine Nat.eq_of_testBit_eq (fun i => ?_)
    rw [sw_dif_tb hS, Nat.zero_testBit]
    have := congrArg (fun z => z.testBit i) h
    simp only [Nat.testBit_or] at this
    rw [← this]
    cases S.testBit i <;> rfl
