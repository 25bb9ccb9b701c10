/-! draws (the rows wb_ began as rows of the kit's BITS.to-paste) -/
theorem wb_tb (n : Nat) : (lN n).toBitVec = BitVec.ofNat 64 n := rfl
theorem wb_inj {a b : Int64} (h : a.toBitVec = b.toBitVec) : a = b := Int64.toBitVec_inj.mp h
theorem wb_tn {n : Nat} (h : n < 2 ^ 64) : (lN n).toBitVec.toNat = n := by rw [wb_tb, BitVec.toNat_ofNat, Nat.mod_eq_of_lt h]
theorem wb_of (x : Int64) : ∃ n, n < 2 ^ 64 ∧ x = lN n := ⟨x.toBitVec.toNat, x.toBitVec.isLt, wb_inj (by rw [wb_tb]; simp)⟩
theorem wb_cu : ∀ k, k < 64 → ((nI k).toInt64.toUInt64 &&& Int64.toUInt64 63) = UInt64.ofNat k := by decide +kernel
theorem wb_shr {n k : Nat} (hn : n < 2 ^ 64) (hk : k < 64) : ((lN n).toUInt64 >>> ((nI k).toInt64.toUInt64 &&& Int64.toUInt64 63)).toInt64 = lN (n / 2 ^ k) := by
  rw [wb_cu k hk]
  apply wb_inj
  apply BitVec.eq_of_toNat_eq
  show ((lN n).toUInt64 >>> UInt64.ofNat k).toNat = (BitVec.ofNat 64 _).toNat
  have h1 : (UInt64.ofNat k).toNat = k := by
    show (BitVec.ofNat 64 k).toNat = k
    rw [BitVec.toNat_ofNat, Nat.mod_eq_of_lt (by omega)]
  have h2 : (lN n).toUInt64.toNat = n := wb_tn hn
  rw [UInt64.toNat_shiftRight, h1, h2, Nat.mod_eq_of_lt hk, Nat.shiftRight_eq_div_pow, BitVec.toNat_ofNat, Nat.mod_eq_of_lt (Nat.lt_of_le_of_lt (Nat.div_le_self _ _) hn)]
theorem sw_ldiv {a b : Nat} (ha : a < 2147483648) (hb : b < 2147483648) : lN a / lN b = lN (a / b) := by
  have h1 : lN b ≠ -1 := fun q => by
    have := congrArg Int64.toInt q
    rw [lN_toInt hb, show (-1 : Int64).toInt = -1 by decide] at this
    omega
  apply Int64.toInt_inj.mp
  rw [Int64.toInt_div_of_ne_right _ _ h1, lN_toInt ha, lN_toInt hb, lN_toInt (Nat.lt_of_le_of_lt (Nat.div_le_self a b) ha), Int.tdiv_eq_ediv_of_nonneg (Int.natCast_nonneg a)]
  first | rfl | exact (Int.natCast_ediv _ _).symm
theorem sw_lrem {a b : Nat} (ha : a < 2147483648) (hb : b < 2147483648) : lN a - lN a / lN b * lN b = lN (a % b) := by
  rw [sw_ldiv ha hb, lN_mul, lN_sub (Nat.div_mul_le_self a b)]
  exact congrArg lN (by have := Nat.div_add_mod' a b; omega)
/-- x becomes; a draw of m -/
def sw_x (x : Int64) : Int64 := x * lN 6364136223846793005 + lN 1442695040888963407
def sw_dr (x : Int64) (m : Nat) : Nat := x.toBitVec.toNat / 2 ^ 33 % m
theorem sw_draw (x : Int64) {m : Nat} (hm : m < 1000) : ((x.toUInt64 >>> ((nI 33).toInt64.toUInt64 &&& Int64.toUInt64 63)).toInt64 - (x.toUInt64 >>> ((nI 33).toInt64.toUInt64 &&& Int64.toUInt64 63)).toInt64 / (nI m).toInt64 * (nI m).toInt64).toInt32 = nI (sw_dr x m) := by
  obtain ⟨n, hn, rfl⟩ := wb_of x
  have h1 : n / 2 ^ 33 < 2147483648 := Nat.div_lt_of_lt_mul (by omega)
  rw [wb_shr hn (by decide), lz_i (by omega), sw_lrem h1 (by omega), lN_i]
  unfold sw_dr
  rw [wb_tn hn]
theorem sw_l0 {m : Nat} (h0 : 0 < m) (hm : m < 1000) : ¬ (nI m).toInt64 = 0 := by
  rw [lz_i (by omega), show (0 : Int64) = lN 0 from rfl, lN_eq (by omega) (by decide)]
  omega
theorem wL_k {σ : sd_Mem} {k i : Nat} {v : Int64} : (sd_wL σ k i v).2.1 k i = v := if_pos ⟨rfl, rfl⟩
section SD88
variable {L : Nat} {xs : Nat → Int32} {fm : Option Nat} {σ : sd_Mem} {d : Nat} {Q : Option Value → sd_Mem → Prop}
theorem c_Judge_draw {m : Nat} (h0 : 0 < m) (hm : m < 1000) : sd_Call (sd_E1 L xs fm) (d + 1) y_Judge_draw [.ref 253, .int (nI m)] σ Q ↔ Q (some (.int (nI (sw_dr (sw_x (σ.2.1 253 4)) m)))) (sd_wL σ 253 4 (sw_x (σ.2.1 253 4))) := by
  refine sd_Call.iff (fun Q hq => ?_) Q
  have hd := sw_draw (σ.2.1 253 4 * lN 6364136223846793005 + lN 1442695040888963407) hm
  have hz := sw_l0 h0 hm
  rw [sd_Call.start (ls := [.ref 253, .int (nI m)]) m_Judge_draw (by decide) (Nat.le_of_ble_eq_true rfl) rfl]
  simp (disch := first | exact sd_cr | exact sd_ci | exact sd_cu | exact sd_cl9 | assumption | omega) only [z_Judge_draw_0, z_Judge_draw_1, z_Judge_draw_2, z_Judge_draw_5, z_Judge_draw_8, z_Judge_draw_9, z_Judge_draw_12, z_Judge_draw_13, z_Judge_draw_16, z_Judge_draw_17, z_Judge_draw_20, z_Judge_draw_22, z_Judge_draw_23, z_Judge_draw_24, z_Judge_draw_25, z_Judge_draw_26, z_Judge_draw_27, false_and, and_false, if_true, if_false, Decidable.not_not, sd_ci, sd_cr, sd_cl9, sd_cu, sd_cat0, sd_cat1, sd_rfS, sd_n01, sd_n11, sd_n1, sd_n10, sd_n00, sd_b01, sd_b0, true_and, and_true, and_self, not_true_eq_false, not_false_eq_true, false_implies, true_implies, implies_true, or_true, true_or, or_false, false_or, Option.toList_some, Option.toList_none, List.cons_append, List.nil_append, Nat.reduceAdd, Nat.reduceLeDiff, h_253, wL_k, hz, hd]
  exact hq
theorem c_M_draw {m : Nat} (h0 : 0 < m) (hm : m < 1000) : sd_Call (sd_E1 L xs fm) (d + 1) y_M_draw [.ref 271, .int (nI m)] σ Q ↔ Q (some (.int (nI (sw_dr (sw_x (σ.2.1 271 44)) m)))) (sd_wL σ 271 44 (sw_x (σ.2.1 271 44))) := by
  refine sd_Call.iff (fun Q hq => ?_) Q
  have hd := sw_draw (σ.2.1 271 44 * lN 6364136223846793005 + lN 1442695040888963407) hm
  have hz := sw_l0 h0 hm
  rw [sd_Call.start (ls := [.ref 271, .int (nI m)]) m_M_draw (by decide) (Nat.le_of_ble_eq_true rfl) rfl]
  simp (disch := first | exact sd_cr | exact sd_ci | exact sd_cu | exact sd_cl9 | assumption | omega) only [z_M_draw_0, z_M_draw_1, z_M_draw_2, z_M_draw_5, z_M_draw_8, z_M_draw_9, z_M_draw_12, z_M_draw_13, z_M_draw_16, z_M_draw_17, z_M_draw_20, z_M_draw_22, z_M_draw_23, z_M_draw_24, z_M_draw_25, z_M_draw_26, z_M_draw_27, false_and, and_false, if_true, if_false, Decidable.not_not, sd_ci, sd_cr, sd_cl9, sd_cu, sd_cat0, sd_cat1, sd_rfS, sd_n01, sd_n11, sd_n1, sd_n10, sd_n00, sd_b01, sd_b0, true_and, and_true, and_self, not_true_eq_false, not_false_eq_true, false_implies, true_implies, implies_true, or_true, true_or, or_false, false_or, Option.toList_some, Option.toList_none, List.cons_append, List.nil_append, Nat.reduceAdd, Nat.reduceLeDiff, h_271, wL_k, hz, hd]
  exact hq
end SD88
/-! tempted rows: x after i persons; where person i is tempted; the rows then -/
def sw_tx (A : sw_T) (x : Int64) : Nat → Int64
  | 0 => x
  | i + 1 => if A 1 i 0 < 8 then (if sw_dr (sw_x (sw_tx A x i)) 100 < A 12 0 0 then sw_x (sw_x (sw_tx A x i)) else sw_x (sw_tx A x i)) else sw_tx A x i
def sw_tk (A W : sw_T) (x : Int64) (i : Nat) : Option Nat := if A 1 i 0 < 8 ∧ sw_dr (sw_x (sw_tx A x i)) 100 < A 12 0 0 then some (sw_dr (sw_x (sw_x (sw_tx A x i))) (W 2 i 0)) else none
/-- rows of N but for one place of each of the first i persons -/
def sw_tF (K : Nat → Option Nat) (F : Nat → Nat → Nat) (N : sw_T) (i : Nat) : sw_T := fun a b c => if a = 4 ∧ b < i ∧ K b = some c then F b c else N a b c
abbrev sw_tD (A W : sw_T) (x : Int64) (i : Nat) : sw_T := sw_tF (sw_tk A W x) (fun b _ => A 1 b 0) W i
section SD88c
variable {K : Nat → Option Nat} {F : Nat → Nat → Nat} {N : sw_T} {i : Nat}
theorem sw_tF_n {a b c : Nat} (h : a ≠ 4) : sw_tF K F N i a b c = N a b c := if_neg (fun q => h q.1)
theorem sw_tF_i {c : Nat} {b : Nat} (h : i ≤ b) : sw_tF K F N i 4 b c = N 4 b c := if_neg (fun q => by omega)
theorem sw_tF_0 : sw_tF K F N 0 = N := funext fun a => funext fun b => funext fun c => if_neg (fun q => by omega)
theorem sw_tF_N (h : K i = none) : sw_tF K F N (i + 1) = sw_tF K F N i := funext fun a => funext fun b => funext fun c => by
  unfold sw_tF
  by_cases q : a = 4 ∧ b < i ∧ K b = some c
  · rw [if_pos q, if_pos ⟨q.1, by omega, q.2.2⟩]
  · rw [if_neg q, if_neg]
    rintro ⟨q1, q2, q3⟩
    by_cases hb : b = i
    · rw [hb, h] at q3; cases q3
    · exact q ⟨q1, by omega, q3⟩
theorem sw_tF_S {k : Nat} (h : K i = some k) : sw_tF K F N (i + 1) = sw_set (sw_tF K F N i) 4 i k (F i k) := funext fun a => funext fun b => funext fun c => by
  unfold sw_tF sw_set
  by_cases hb : a = 4 ∧ b = i ∧ c = k
  · obtain ⟨rfl, rfl, rfl⟩ := hb
    rw [if_pos ⟨rfl, by omega, h⟩, if_pos ⟨rfl, rfl, rfl⟩]
  · rw [if_neg hb]
    dsimp only
    by_cases q : a = 4 ∧ b < i ∧ K b = some c
    · rw [if_pos q, if_pos ⟨q.1, by omega, q.2.2⟩]
    · rw [if_neg q, if_neg]
      rintro ⟨q1, q2, q3⟩
      by_cases hbi : b = i
      · rw [hbi, h] at q3
        exact hb ⟨q1, hbi, (Option.some.inj q3).symm⟩
      · exact q ⟨q1, by omega, q3⟩
end SD88c
section SD88b
variable {A W : sw_T} {x : Int64} {i P : Nat}
theorem sw_tD_n {a b c : Nat} (h : a ≠ 4) : sw_tD A W x i a b c = W a b c := sw_tF_n h
theorem sw_tD_i {b c : Nat} (h : i ≤ b) : sw_tD A W x i 4 b c = W 4 b c := sw_tF_i h
theorem sw_tk_some {k : Nat} (h : sw_tk A W x i = some k) : A 1 i 0 < 8 := by
  unfold sw_tk at h
  split at h
  · rename_i q; exact q.1
  · cases h
theorem sw_tk_lt {k : Nat} (h : sw_tk A W x i = some k) (h0 : 0 < W 2 i 0) : k < W 2 i 0 := by
  unfold sw_tk at h
  split at h
  · cases h
    exact Nat.mod_lt _ h0
  · cases h
theorem sw_tD_OK (hW : sw_OK P W) : ∀ i, sw_OK P (sw_tD A W x i)
  | 0 => by rw [show sw_tD A W x 0 = W from sw_tF_0]; exact hW
  | i + 1 => by
    cases h : sw_tk A W x i with
    | none => rw [show sw_tD A W x (i + 1) = sw_tD A W x i from sw_tF_N h]; exact sw_tD_OK hW i
    | some k => rw [show sw_tD A W x (i + 1) = sw_set (sw_tD A W x i) 4 i k (A 1 i 0) from sw_tF_S h]; exact (sw_tD_OK hW i).deed (sw_tk_some h)
theorem sw_tD_DR : sw_DR (sw_tD A W x i) W := ⟨⟨sw_tF_n (by decide), fun _ _ => sw_tF_n (by decide)⟩, fun _ => sw_tF_n (by decide)⟩
end SD88b
/-! a day by other rows: off the rows it does not matter whose they are -/
theorem sw_due_o4 {A D X X' : sw_T} {v : Nat} (hX : ∀ a b c, a ≠ 4 → X a b c = X' a b c) : ∀ a b c, a ≠ 4 → sw_due A D v X a b c = sw_due A D v X' a b c := by
  have hs : ∀ {Y Y' : sw_T} {a b c x : Nat}, (∀ a b c, a ≠ 4 → Y a b c = Y' a b c) → ∀ a' b' c', a' ≠ 4 → sw_set Y a b c x a' b' c' = sw_set Y' a b c x a' b' c' := fun h a' b' c' ha => by
    unfold sw_set
    split
    · rfl
    · exact h a' b' c' ha
  have x1 := fun b c => hX 1 b c (by omega)
  have x3 := fun b c => hX 3 b c (by omega)
  have x7 := fun b c => hX 7 b c (by omega)
  unfold sw_due sw_due2
  rw [x1, x3, x7, x7, x7, x7]
  split
  · exact hX
  · split
    · exact hs (hs hX)
    · split
      · exact hs (hs hX)
      · split
        · exact hs hX
        · split
          · exact hs (hs (hs hX))
          · exact hs (hs (hs hX))
theorem sw_dn_o4 {A D X X' : sw_T} (hX : ∀ a b c, a ≠ 4 → X a b c = X' a b c) : ∀ n a b c, a ≠ 4 → sw_dn A D X n a b c = sw_dn A D X' n a b c
  | 0 => hX
  | n + 1 => by
    rw [sw_dn_s, sw_dn_s]
    exact sw_due_o4 (sw_dn_o4 hX n)
theorem sw_day_o4 {A D W W' : sw_T} (h : ∀ a b c, a ≠ 4 → W a b c = W' a b c) : ∀ a b c, a ≠ 4 → sw_day A D W a b c = sw_day A D W' a b c := by
  unfold sw_day
  rw [h 0 0 0 (by omega)]
  refine sw_dn_o4 (fun a b c ha => ?_) _
  unfold sw_z7
  split
  · rfl
  · exact h a b c ha
theorem sw_nx_o4 {A D W W' : sw_T} (h : ∀ a b c, a ≠ 4 → W a b c = W' a b c) : ∀ a b c, a ≠ 4 → sw_nx A D W a b c = sw_nx A D W' a b c := by
  intro a b c ha
  unfold sw_nx
  rw [h 5 0 0 (by decide), sw_day_o4 h 7 c 0 (by decide), h 6 (b - 1) c (by decide), sw_day_o4 h a b c ha]
