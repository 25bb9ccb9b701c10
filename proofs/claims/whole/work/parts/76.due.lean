/-! what a day does to the vows: the tallies lie at 7 -/
def sw_due2 (A D : sw_T) (v : Nat) (X : sw_T) : sw_T :=
  if D 1 v 1 ≤ 5 ∧ sw_seen A (D 1 v 0) ((sw_pl D v).getD 0) = false then sw_set X 7 1 0 (X 7 1 0 + 1)
  else if 0 < X 3 (D 1 v 0) 0 then sw_set (sw_set (sw_set X 7 1 0 (X 7 1 0 + 1)) 7 2 0 (X 7 2 0 + 1)) 3 (D 1 v 0) 0 (X 3 (D 1 v 0) 0 - 1)
  else sw_set (sw_set (sw_set X 7 1 0 (X 7 1 0 + 1)) 7 2 0 (X 7 2 0 + 1)) 1 v 5 (min 999 (2 * X 1 v 5))
def sw_due (A D : sw_T) (v : Nat) (X : sw_T) : sw_T :=
  if ¬ 0 < X 1 v 5 then X
  else if sw_fate D v = 0 then sw_set (sw_set X 7 0 0 (X 7 0 0 + 1)) 1 v 5 (X 1 v 5 - 1)
  else if sw_fate D v = 2 then sw_set (sw_set X 7 3 0 (X 7 3 0 + 1)) 1 v 5 0
  else sw_due2 A D v X
theorem sw_due_o {A D X : sw_T} {v a b c : Nat} (h : ¬ (a = 1 ∧ b = v ∧ c = 5) ∧ ¬ (a = 3 ∧ c = 0) ∧ ¬ (a = 7 ∧ c = 0)) : sw_due A D v X a b c = X a b c := by
  unfold sw_due sw_due2
  split
  · rfl
  · split
    · rw [sw_set_n (by omega), sw_set_n (by omega)]
    · split
      · rw [sw_set_n (by omega), sw_set_n (by omega)]
      · split
        · rw [sw_set_n (by omega)]
        · split
          · rw [sw_set_n (by omega), sw_set_n (by omega), sw_set_n (by omega)]
          · rw [sw_set_n (by omega), sw_set_n (by omega), sw_set_n (by omega)]
/-- the tallies grow by one at most -/
theorem sw_due_7 {A D X : sw_T} {v b : Nat} : sw_due A D v X 7 b 0 ≤ X 7 b 0 + 1 := by
  have key : ∀ (Y : sw_T) (j y : Nat), Y 7 b 0 ≤ X 7 b 0 + (if b = j then 0 else 0) → True := fun _ _ _ _ => trivial
  unfold sw_due sw_due2
  split
  · omega
  · split
    · rw [sw_set_n (by omega)]
      unfold sw_set
      split
      · rename_i q; rw [q.2.1]; omega
      · omega
    · split
      · rw [sw_set_n (by omega)]
        unfold sw_set
        split
        · rename_i q; rw [q.2.1]; omega
        · omega
      · split
        · unfold sw_set
          split
          · rename_i q; rw [q.2.1]; omega
          · omega
        · split
          · rw [sw_set_n (by omega)]
            unfold sw_set
            split
            · rename_i q; rw [q.2.1]; omega
            · split
              · rename_i q; rw [q.2.1]; omega
              · omega
          · rw [sw_set_n (by omega)]
            unfold sw_set
            split
            · rename_i q; rw [q.2.1]; omega
            · split
              · rename_i q; rw [q.2.1]; omega
              · omega
theorem sw_OK.t7 {P j y : Nat} {W : sw_T} (h : sw_OK P W) (hy : y < 1000000) : sw_OK P (sw_set W 7 j 0 y) := by
  obtain ⟨bP2, bW, bz, bf, bs, bv, bu⟩ := h
  refine ⟨bP2, fun a b c => ?_, fun p hp => ?_, fun p i => ?_, ?_, fun w hw => ?_, fun w j => ?_⟩
  · unfold sw_set; split
    · exact hy
    · exact bW a b c
  · rw [sw_set_n (by omega), sw_set_n (by omega)]; exact bz p hp
  · rw [sw_set_n (by omega)]; exact bf p i
  · rw [sw_set_n (by omega)]; exact bs
  · rw [sw_set_n (by omega)] at hw
    rw [sw_set_n (by omega), sw_set_n (by omega), sw_set_n (by omega), sw_set_n (by omega), sw_set_n (by omega), sw_set_n (by omega)]
    exact bv w hw
  · rw [sw_set_n (by omega)]; exact bu w j
theorem sw_OK.slip {P p y : Nat} {W : sw_T} (h : sw_OK P W) (hy : y ≤ 9) : sw_OK P (sw_set W 3 p 0 y) := by
  obtain ⟨bP2, bW, bz, bf, bs, bv, bu⟩ := h
  refine ⟨bP2, fun a b c => ?_, fun q hq => ?_, fun p i => ?_, ?_, fun w hw => ?_, fun w j => ?_⟩
  · unfold sw_set; split
    · omega
    · exact bW a b c
  · rw [sw_set_n (by omega)]
    have := bz q hq
    unfold sw_set
    split <;> omega
  · rw [sw_set_n (by omega)]; exact bf p i
  · rw [sw_set_n (by omega)]; exact bs
  · rw [sw_set_n (by omega)] at hw
    rw [sw_set_n (by omega), sw_set_n (by omega), sw_set_n (by omega), sw_set_n (by omega), sw_set_n (by omega), sw_set_n (by omega)]
    exact bv w hw
  · rw [sw_set_n (by omega)]; exact bu w j
theorem sw_due_OK {P v : Nat} {A D X : sw_T} (h : sw_OK P X) (hp : D 1 v 0 < P) (ht : ∀ b, X 7 b 0 < 1000) : sw_OK P (sw_due A D v X) := by
  have hu := h.2.2.2.2.2.2 v 5
  have h3 := (h.2.2.1 _ hp).2.2
  have q := ht
  unfold sw_due sw_due2
  split
  · exact h
  · split
    · exact (h.t7 (by have := q 0; omega)).vow (by omega)
    · split
      · exact (h.t7 (by have := q 3; omega)).vow (by omega)
      · split
        · exact h.t7 (by have := q 1; omega)
        · split
          · exact ((h.t7 (by have := q 1; omega)).t7 (by have := q 2; omega)).slip (by omega)
          · exact ((h.t7 (by have := q 1; omega)).t7 (by have := q 2; omega)).vow (by omega)
/-- the first n vows have had their due -/
def sw_dn (A D X : sw_T) (n : Nat) : sw_T := sd_fold (sw_due A D) n 0 X
theorem sw_dn_s {A D X : sw_T} {n : Nat} : sw_dn A D X (n + 1) = sw_due A D n (sw_dn A D X n) := by
  unfold sw_dn
  rw [sd_fold_succ, Nat.zero_add]
theorem sw_dn_o {A D X : sw_T} {a b c : Nat} (h : ¬ (a = 1 ∧ c = 5) ∧ ¬ (a = 3 ∧ c = 0) ∧ ¬ (a = 7 ∧ c = 0)) : ∀ n, sw_dn A D X n a b c = X a b c
  | 0 => rfl
  | n + 1 => by rw [sw_dn_s, sw_due_o (by omega), sw_dn_o h n]
theorem sw_dn_5 {A D X : sw_T} {b : Nat} : ∀ n, n ≤ b → sw_dn A D X n 1 b 5 = X 1 b 5
  | 0, _ => rfl
  | n + 1, h => by rw [sw_dn_s, sw_due_o (by omega), sw_dn_5 n (by omega)]
theorem sw_dn_7 {A D X : sw_T} (h : ∀ b, X 7 b 0 = 0) (b : Nat) : ∀ n, sw_dn A D X n 7 b 0 ≤ n
  | 0 => by rw [show sw_dn A D X 0 7 b 0 = X 7 b 0 from rfl, h]; omega
  | n + 1 => by
    have h1 := sw_dn_7 (A := A) (D := D) h b n
    rw [sw_dn_s]
    have h2 := sw_due_7 (A := A) (D := D) (X := sw_dn A D X n) (v := n) (b := b)
    omega
theorem sw_dn_OK {P : Nat} {A D X : sw_T} (h : sw_OK P X) (h7 : ∀ b, X 7 b 0 = 0) (hd : ∀ v, v < X 0 0 0 → D 1 v 0 < P) : ∀ n, n ≤ X 0 0 0 → sw_OK P (sw_dn A D X n)
  | 0, _ => h
  | n + 1, hn => by
    rw [sw_dn_s]
    have hs := h.2.2.2.2.1
    exact sw_due_OK (sw_dn_OK h h7 hd n (by omega)) (hd n (by omega)) (fun b => by have := sw_dn_7 (A := A) (D := D) h7 b n; omega)
theorem sw_S.t7 {σ : sd_Mem} {k P j y : Nat} {W : sw_T} (h : sw_S σ k P W) : sw_S σ k P (sw_set W 7 j 0 y) := by
  obtain ⟨⟨w1, w2, w3, w4⟩, w5, w6⟩ := h
  refine ⟨⟨?_, ?_, fun w hw j hj => ?_, fun w j => ?_⟩, fun p hp => ?_, ?_⟩
  · rw [sw_set_n (by omega)]; exact w1
  · rw [sw_set_n (by omega)]; exact w2
  · rw [sw_set_n (by omega)] at hw ⊢; exact w3 w hw j hj
  · rw [sw_set_n (by omega)]; exact w4 w j
  · rw [sw_set_n (by omega), sw_set_n (by omega)]
    obtain ⟨q1, q2, q3⟩ := w5 p hp
    exact ⟨q1, q2, fun i hi => by rw [sw_set_n (by omega)]; exact q3 i hi⟩
  · rw [sw_set_n (by omega)]; exact w6
theorem sw_S.slip {σ : sd_Mem} {k P p y : Nat} {W : sw_T} (h : sw_S σ k P W) : sw_S (sd_wI σ (k + 3) p (nI y)) k P (sw_set W 3 p 0 y) := by
  obtain ⟨⟨w1, w2, w3, w4⟩, w5, w6⟩ := h
  refine ⟨⟨?_, ?_, fun w hw j hj => ?_, fun w j => ?_⟩, fun q hq => ?_, ?_⟩
  · rw [wI_c (by omega), sw_set_n (by omega)]; exact w1
  · rw [sw_set_n (by omega)]; exact w2
  · rw [sw_set_n (by omega)] at hw
    rw [wI_c (by omega), sw_set_n (by omega)]; exact w3 w hw j hj
  · rw [sw_set_n (by omega)]; exact w4 w j
  · obtain ⟨q1, q2, q3⟩ := w5 q hq
    rw [wI_c (e := k + 2) (by omega), wI_c (e := k + 1) (by omega), sw_set_n (a' := 2) (by omega)]
    refine ⟨q1, ?_, fun i hi => by rw [sw_set_n (by omega)]; exact q3 i hi⟩
    rw [wI_1]
    unfold sw_set
    by_cases hqp : q = p
    · rw [if_pos ⟨rfl, hqp⟩, if_pos ⟨rfl, hqp, rfl⟩]
    · rw [if_neg (by omega), if_neg (by omega)]; exact q2
  · rw [wI_c (by omega), sw_set_n (by omega)]; exact w6
