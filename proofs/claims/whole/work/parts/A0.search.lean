/-! the class's search: what it does -/
def sw_u (s : Nat → Int32) (k : Nat) (v : Int32) : Nat → Int32 := fun j => if j = k then v else s j
theorem sw_u_y {s : Nat → Int32} {k : Nat} {v : Int32} : sw_u s k v k = v := if_pos rfl
theorem sw_u_n {s : Nat → Int32} {k j : Nat} {v : Int32} (h : j ≠ k) : sw_u s k v j = s j := if_neg h
theorem wA_u {σ : sd_Mem} {k i : Nat} {f : Nat → Int32} {v : Int32} : sd_wI (sd_wA σ k f) k i v = sd_wA σ k (sw_u f i v) := wA_wI
theorem wA_u2 {σ : sd_Mem} {k e i : Nat} {f s : Nat → Int32} {v : Int32} (h : k ≠ e) : sd_wI (sd_wA (sd_wA σ k f) e s) k i v = sd_wA (sd_wA σ k (sw_u f i v)) e s := by
  unfold sd_wI sd_wA sw_u
  refine congrArg (fun z => (z, σ.2)) (funext fun a => funext fun j => ?_)
  show (if a = k ∧ j = i then v else if a = e then s j else if a = k then f j else σ.1 a j) = if a = e then s j else if a = k then (if j = i then v else f j) else σ.1 a j
  by_cases h1 : a = k
  · subst h1
    by_cases h2 : j = i
    · simp [h2, h]
    · simp [h2, h]
  · simp [h1]
/-- JOY, HARM of the first m deeds -/
def sw_jy (wo : Nat → Int32) : Nat → Nat → Int32
  | 0, _ => nI 0
  | m + 1, N => sw_jy wo m (N / 8) + wo ((m * 5 + sw_cn (sw_dg m (N / 8)) (N % 8) m) * 8 + N % 8)
def sw_hm (H : Nat → Nat) : Nat → Nat → Nat
  | 0, _ => 0
  | m + 1, N => sw_hm H m (N / 8) + H (N % 8)
theorem sw_jy_s {wo : Nat → Int32} {m N d : Nat} (hd : d < 8) : sw_jy wo (m + 1) (8 * N + d) = sw_jy wo m N + wo ((m * 5 + sw_cn (sw_dg m N) d m) * 8 + d) := by
  show sw_jy wo m ((8 * N + d) / 8) + wo ((m * 5 + sw_cn (sw_dg m ((8 * N + d) / 8)) ((8 * N + d) % 8) m) * 8 + (8 * N + d) % 8) = _
  rw [show (8 * N + d) / 8 = N by omega, show (8 * N + d) % 8 = d by omega]
theorem sw_hm_s {H : Nat → Nat} {m N d : Nat} (hd : d < 8) : sw_hm H (m + 1) (8 * N + d) = sw_hm H m N + H d := by
  show sw_hm H m ((8 * N + d) / 8) + H ((8 * N + d) % 8) = _
  rw [show (8 * N + d) / 8 = N by omega, show (8 * N + d) % 8 = d by omega]
theorem sw_hm_le {H : Nat → Nat} (h : ∀ d, H d ≤ 9) : ∀ m N, sw_hm H m N ≤ 9 * m
  | 0, _ => Nat.le_refl _
  | m + 1, N => by
    have h1 := sw_hm_le h m (N / 8)
    have h2 := h (N % 8)
    show sw_hm H m (N / 8) + H (N % 8) ≤ _
    omega
theorem sw_cn_c {f g : Nat → Nat} {a : Nat} : ∀ i, (∀ k, k < i → f k = g k) → sw_cn f a i = sw_cn g a i
  | 0, _ => rfl
  | i + 1, h => by
    rw [sw_cn_s, sw_cn_s, sw_cn_c i (fun k hk => h k (by omega)), h i (by omega)]
theorem sw_ba_c {f g : Nat → Nat} {l kd a b n i : Nat} (h : ∀ k, k ≤ i → f k = g k) : sw_ba f l kd a b n i = sw_ba g l kd a b n i := by
  unfold sw_ba
  rw [sw_cn_c i (fun k hk => h k (by omega)), sw_cn_c i (fun k hk => h k (by omega)), h i (by omega)]
  by_cases hi : i = 0
  · rw [if_pos hi, if_pos hi]
  · rw [if_neg hi, if_neg hi, h (i - 1) (by omega)]
/-- what one deed more strikes -/
def sw_sb (u : Nat → Nat → Nat) (bt : Nat → Nat) (vt l sk m N st : Nat) : Nat := sd_fold (fun v b => if sk = 0 ∧ ¬ b = 0 then b else if b &&& bt v = 0 ∧ sw_ba (sw_dg m N) l (u v 1) (u v 2) (u v 3) (u v 4) (m - 1) = true then b ||| bt v else b) vt 0 st
theorem sw_sb_sup {u : Nat → Nat → Nat} {bt : Nat → Nat} {vt l sk : Nat} (m N st : Nat) : st ||| sw_sb u bt vt l sk m N st = sw_sb u bt vt l sk m N st := by
  have := sd_fold_inv (g := fun v b => if sk = 0 ∧ ¬ b = 0 then b else if b &&& bt v = 0 ∧ sw_ba (sw_dg m N) l (u v 1) (u v 2) (u v 3) (u v 4) (m - 1) = true then b ||| bt v else b) (fun _ b => st ||| b = b) vt 0 st (Nat.or_self st) (fun j b _ _ h => by
    split
    · exact h
    · split
      · rw [← Nat.or_assoc, h]
      · exact h)
  exact this
theorem sw_sb_lt {u : Nat → Nat → Nat} {bt : Nat → Nat} {vt l sk : Nat} (hb : ∀ v, v < vt → bt v < 4096) {m N st : Nat} (h : st < 4096) : sw_sb u bt vt l sk m N st < 4096 := by
  have := sd_fold_inv (g := fun v b => if sk = 0 ∧ ¬ b = 0 then b else if b &&& bt v = 0 ∧ sw_ba (sw_dg m N) l (u v 1) (u v 2) (u v 3) (u v 4) (m - 1) = true then b ||| bt v else b) (fun _ b => b < 4096) vt 0 st h (fun j b _ h2 h => by
    split
    · exact h
    · split
      · exact Nat.or_lt_two_pow (n := 12) h (hb j (by omega))
      · exact h)
  exact this
def sw_hp (s : Nat → Int32) (st : Nat) : Bool := if s 9 = 0 then decide (¬ st = 0) else if s 11 = -1 then false else decide (sw_pc (s 11).toNatClampNeg < sw_pc st ∨ (sw_pc (s 11).toNatClampNeg = sw_pc st ∧ (s 11).toNatClampNeg ≤ st))
theorem sw_hp_m (s : Nat → Int32) (a b : Nat) (h : a ||| b = b) (ha : sw_hp s a = true) : sw_hp s b = true := by
  have h1 := sw_pc_sub h
  have h2 : a ≤ b := by rw [← h]; exact Nat.left_le_or
  unfold sw_hp at ha ⊢
  split
  · rename_i q
    rw [if_pos q] at ha
    have ha := of_decide_eq_true ha
    refine decide_eq_true (fun q => ha (by omega))
  · rename_i q
    rw [if_neg q] at ha
    split
    · rename_i q2
      rw [if_pos q2] at ha
      exact ha
    · rename_i q2
      rw [if_neg q2] at ha
      have ha := of_decide_eq_true ha
      refine decide_eq_true ?_
      omega
def sw_ar2 (x j : Int32) (s : Nat → Int32) : Nat → Int32 := if s 14 = -1 ∨ ¬ j ≤ s 15 then sw_u (sw_u s 14 x) 15 j else s
def sw_ar1 (x : Int32) (s : Nat → Int32) : Nat → Int32 := sw_u (if s 12 = s 8 then sw_u (sw_u s 13 x) 10 (nI 1) else s) 12 (s 12 + nI 1)
/-- it arrives at a row -/
def sw_ar (wo : Nat → Int32) (H : Nat → Nat) (l x st : Nat) (s : Nat → Int32) : Nat → Int32 :=
  if ¬ s 9 = 0 then sw_u (sw_u s 11 (nI st)) 10 (if st = 0 then nI 1 else nI 0)
  else if ¬ s 7 ≤ nI (sw_hm H l x) then s
  else sw_ar2 (nI (sw_dc l x)) (sw_wi (nI 9999) (sw_jy wo l x)) (sw_ar1 (nI (sw_dc l x)) s)
def sw_en (s : Nat → Int32) : Bool := decide (¬ s 10 = 0)
/-- what holds of the search's own slots -/
def sw_slv (vt l sk : Nat) (s : Nat → Int32) : Prop := s 2 = nI vt ∧ s 6 = nI l ∧ s 9 = nI sk ∧ (s 10 = nI 0 ∨ s 10 = nI 1) ∧ (sk = 1 → s 11 = -1 ∨ ∃ b, b < 4096 ∧ s 11 = nI b)
theorem sw_ar_slv {wo : Nat → Int32} {H : Nat → Nat} {vt l sk x st : Nat} {s : Nat → Int32} (h : sw_slv vt l sk s) (hs : sk = 0 ∨ st < 4096) (hk : sk < 2) : sw_slv vt l sk (sw_ar wo H l x st s) := by
  obtain ⟨h1, h2, h3, h4, h5⟩ := id h
  unfold sw_ar
  split
  · rename_i q
    have hst : st < 4096 := by
      rcases hs with rfl | hs
      · exact absurd (h3.trans rfl) q
      · exact hs
    refine ⟨by rw [sw_u_n (by decide), sw_u_n (by decide)]; exact h1, by rw [sw_u_n (by decide), sw_u_n (by decide)]; exact h2, by rw [sw_u_n (by decide), sw_u_n (by decide)]; exact h3, ?_, fun _ => Or.inr ⟨st, hst, by rw [sw_u_n (by decide), sw_u_y]⟩⟩
    rw [sw_u_y]
    split
    · exact Or.inr rfl
    · exact Or.inl rfl
  · split
    · exact h
    · have g : sw_slv vt l sk (sw_ar1 (nI (sw_dc l x)) s) := by
        unfold sw_ar1
        split
        · refine ⟨by rw [sw_u_n (by decide), sw_u_n (by decide), sw_u_n (by decide)]; exact h1, by rw [sw_u_n (by decide), sw_u_n (by decide), sw_u_n (by decide)]; exact h2, by rw [sw_u_n (by decide), sw_u_n (by decide), sw_u_n (by decide)]; exact h3, Or.inr (by rw [sw_u_n (by decide), sw_u_y]), by rw [sw_u_n (by decide), sw_u_n (by decide), sw_u_n (by decide)]; exact h5⟩
        · refine ⟨by rw [sw_u_n (by decide)]; exact h1, by rw [sw_u_n (by decide)]; exact h2, by rw [sw_u_n (by decide)]; exact h3, by rw [sw_u_n (by decide)]; exact h4, by rw [sw_u_n (by decide)]; exact h5⟩
      obtain ⟨g1, g2, g3, g4, g5⟩ := id g
      unfold sw_ar2
      split
      · exact ⟨by rw [sw_u_n (by decide), sw_u_n (by decide)]; exact g1, by rw [sw_u_n (by decide), sw_u_n (by decide)]; exact g2, by rw [sw_u_n (by decide), sw_u_n (by decide)]; exact g3, by rw [sw_u_n (by decide), sw_u_n (by decide)]; exact g4, by rw [sw_u_n (by decide), sw_u_n (by decide)]; exact g5⟩
      · exact g
theorem sw_D_P {α : Type} {br : Nat → Nat → Nat → Nat} {hp : α → Nat → Bool} {ar : Nat → Nat → α → α} {en : α → Bool} {P : α → Prop} (ha : ∀ N st s, st < 4096 → P s → P (ar N st s)) (hb : ∀ m N st, st < 4096 → br m N st < 4096) : ∀ j m N st s, st < 4096 → P s → P (sw_D br hp ar en j m N st s)
  | 0, m, N, st, s, hs, h => ha N st s hs h
  | j + 1, m, N, st, s, hs, h => by
    refine sd_fold_inv (fun _ s => P s) 8 0 s h (fun d s _ _ hP => ?_)
    split
    · exact hP
    · split
      · exact hP
      · exact sw_D_P ha hb j (m + 1) (8 * N + d) _ s (hb _ _ _ hs) hP
