/-! what a day does depends on the vows, lengths, slips and rows alone -/
def sw_p4 (W : sw_T) : sw_T := fun a b c => if a ≤ 4 then W a b c else 0
def sw_e4 (W W' : sw_T) : Prop := ∀ a b c, a ≤ 4 ∨ a = 7 → W a b c = W' a b c
theorem sw_e4.p {W W' : sw_T} (h : ∀ a b c, a ≤ 4 → W a b c = W' a b c) : sw_p4 W = sw_p4 W' := funext fun a => funext fun b => funext fun c => by
  unfold sw_p4
  split
  · exact h a b c (by assumption)
  · rfl
theorem sw_fate_p4 (D : sw_T) (v : Nat) : sw_fate D v = sw_fate (sw_p4 D) v := rfl
theorem sw_pl_p4 (D : sw_T) (v : Nat) : sw_pl D v = sw_pl (sw_p4 D) v := rfl
theorem sw_set_e4 {W W' : sw_T} {a b c x : Nat} (h : sw_e4 W W') : sw_e4 (sw_set W a b c x) (sw_set W' a b c x) := fun a' b' c' ha => by
  unfold sw_set
  split
  · rfl
  · exact h a' b' c' ha
theorem sw_due_e4 {A D D' X X' : sw_T} {v : Nat} (hD : ∀ a b c, a ≤ 4 → D a b c = D' a b c) (hX : sw_e4 X X') : sw_e4 (sw_due A D v X) (sw_due A D' v X') := by
  have e1 : sw_fate D v = sw_fate D' v := by rw [sw_fate_p4 D, sw_fate_p4 D', sw_e4.p hD]
  have e2 : sw_pl D v = sw_pl D' v := by rw [sw_pl_p4 D, sw_pl_p4 D', sw_e4.p hD]
  have x1 := fun b c => hX 1 b c (by omega)
  have x3 := fun b c => hX 3 b c (by omega)
  have x7 := fun b c => hX 7 b c (by omega)
  have d1 := fun b c => hD 1 b c (by omega)
  unfold sw_due sw_due2
  rw [e1, e2, d1 v 1, d1 v 0, x1, x3, x7, x7, x7, x7]
  split
  · exact hX
  · split
    · exact sw_set_e4 (sw_set_e4 hX)
    · split
      · exact sw_set_e4 (sw_set_e4 hX)
      · split
        · exact sw_set_e4 hX
        · split
          · exact sw_set_e4 (sw_set_e4 (sw_set_e4 hX))
          · exact sw_set_e4 (sw_set_e4 (sw_set_e4 hX))
theorem sw_dn_e4 {A D D' X X' : sw_T} (hD : ∀ a b c, a ≤ 4 → D a b c = D' a b c) (hX : sw_e4 X X') : ∀ n, sw_e4 (sw_dn A D X n) (sw_dn A D' X' n)
  | 0 => hX
  | n + 1 => by
    rw [sw_dn_s, sw_dn_s]
    exact sw_due_e4 hD (sw_dn_e4 hD hX n)
theorem sw_day_e4 {A W W' : sw_T} (h : ∀ a b c, a ≤ 4 → W a b c = W' a b c) : sw_e4 (sw_day A W W) (sw_day A W' W') := by
  unfold sw_day
  rw [h 0 0 0 (by omega)]
  refine sw_dn_e4 h (fun a b c ha => ?_) _
  unfold sw_z7
  split
  · rfl
  · exact h a b c (by omega)
/-- n days on, in the class's trial; in the reference's -/
def sw_lx (A W : sw_T) (n : Nat) : sw_T := sd_fold (fun _ X => sw_day A X X) n 0 W
def sw_ly (A W : sw_T) (n : Nat) : sw_T := sd_fold (fun _ X => sw_nx A X X) n 0 W
theorem sw_lx_s (A W : sw_T) (n : Nat) : sw_lx A W (n + 1) = sw_day A (sw_lx A W n) (sw_lx A W n) := by
  unfold sw_lx
  rw [sd_fold_succ]
theorem sw_ly_s (A W : sw_T) (n : Nat) : sw_ly A W (n + 1) = sw_nx A (sw_ly A W n) (sw_ly A W n) := by
  unfold sw_ly
  rw [sd_fold_succ]
theorem sw_lxy (A W : sw_T) : ∀ n a b c, a ≤ 4 → sw_lx A W n a b c = sw_ly A W n a b c
  | 0, _, _, _, _ => rfl
  | n + 1, a, b, c, ha => by
    rw [sw_lx_s, sw_ly_s, sw_nx_o (by omega) (by omega)]
    exact sw_day_e4 (sw_lxy A W n) a b c (by omega)
section SD84
variable {A W : sw_T} {P : Nat}
theorem sw_lx_OK (h : sw_OK P W) : ∀ n, sw_OK P (sw_lx A W n)
  | 0 => h
  | n + 1 => by
    rw [sw_lx_s]
    exact sw_day_OK (sw_lx_OK h n) ⟨rfl, fun _ _ => rfl⟩
theorem sw_ly_5 : ∀ n, sw_ly A W n 5 0 0 = W 5 0 0 + n
  | 0 => rfl
  | n + 1 => by rw [sw_ly_s, sw_nx_5, sw_ly_5 n]; omega
theorem sw_ly_OK (h : sw_OK P W) (hd : W 5 0 0 < 800000) : ∀ n, n ≤ 100 → sw_OK P (sw_ly A W n)
  | 0, _ => h
  | n + 1, hn => by
    rw [sw_ly_s]
    have h5 := sw_ly_5 (A := A) (W := W) n
    exact sw_nx_OK (sw_ly_OK h hd n (by omega)) ⟨rfl, fun _ _ => rfl⟩ (by omega)
end SD84
