/-! bytes of a word -/
def sw_bt (w : Int32) (s : Nat) : Nat := w.toBitVec.toNat / 2 ^ s % 2 ^ 8
theorem sw_bt_lt (w : Int32) (s : Nat) : sw_bt w s < 256 := Nat.mod_lt _ (by decide)
theorem sw_bitq {w : Int32} {s i : Nat} (hs : s ≤ 24) (hi : i < 8) : (w.toBitVec.sshiftRight s).getLsbD i = w.toBitVec.getLsbD (s + i) := by
  rw [BitVec.getLsbD_sshiftRight, if_pos (by omega)]
  have : ¬ 32 ≤ i := by omega
  simp [this]
theorem sw_bt_bit {w : Int32} {s i : Nat} : (BitVec.ofNat 32 (sw_bt w s)).getLsbD i = (decide (i < 8) && w.toBitVec.getLsbD (s + i)) := by
  rw [BitVec.getLsbD_ofNat]
  unfold sw_bt
  rw [Nat.testBit_mod_two_pow, Nat.testBit_div_two_pow, Nat.add_comm i s]
  by_cases h8 : i < 8
  · have h32 : i < 32 := by omega
    simp only [h8, h32, decide_true, Bool.true_and]
    rfl
  · simp only [h8, decide_false, Bool.false_and, Bool.and_false]
theorem sw_ush {w : Int32} {s : Nat} (hs : s = 24 ∨ s = 16 ∨ s = 8 ∨ s = 0) : ((w.toUInt32 >>> ((nI s).toUInt32 &&& Int32.toUInt32 31)).toInt32 &&& nI 255) = nI (sw_bt w s) := by
  have e : (((nI s).toUInt32 &&& Int32.toUInt32 31).toBitVec % 32).toNat = s := by rcases hs with rfl | rfl | rfl | rfl <;> decide +kernel
  apply Int32.toBitVec_inj.mp
  apply BitVec.eq_of_getLsbD_eq
  intro i hi
  show ((w.toUInt32 >>> ((nI s).toUInt32 &&& Int32.toUInt32 31)).toBitVec &&& BitVec.ofNat 32 (2 ^ 8 - 1)).getLsbD i = (BitVec.ofNat 32 (sw_bt w s)).getLsbD i
  rw [BitVec.getLsbD_and, UInt32.toBitVec_shiftRight, BitVec.ushiftRight_eq', BitVec.getLsbD_ushiftRight, sw_bt_bit, BitVec.getLsbD_ofNat, Nat.testBit_two_pow_sub_one, e]
  show (w.toBitVec.getLsbD (s + i) && _) = _
  by_cases h8 : i < 8
  · simp [h8, hi]
  · simp [h8]
theorem sw_ish {w : Int32} {s : Nat} (hs : s = 24 ∨ s = 16 ∨ s = 8 ∨ s = 0) : ((w >>> (nI s &&& 31)) &&& nI 255) = nI (sw_bt w s) := by
  have e : ((nI s &&& 31).toBitVec.smod 32).toNat = s := by rcases hs with rfl | rfl | rfl | rfl <;> decide +kernel
  apply Int32.toBitVec_inj.mp
  apply BitVec.eq_of_getLsbD_eq
  intro i hi
  show ((w >>> (nI s &&& 31)).toBitVec &&& BitVec.ofNat 32 (2 ^ 8 - 1)).getLsbD i = (BitVec.ofNat 32 (sw_bt w s)).getLsbD i
  rw [BitVec.getLsbD_and, Int32.toBitVec_shiftRight, BitVec.sshiftRight_eq', e, sw_bt_bit, BitVec.getLsbD_ofNat, Nat.testBit_two_pow_sub_one]
  by_cases h8 : i < 8
  · rw [sw_bitq (by omega) h8]; simp [h8, hi]
  · simp [h8]
theorem sw_i2b {w : Int32} {s : Nat} (hs : s = 24 ∨ s = 16 ∨ s = 8 ∨ s = 0) : (w >>> (nI s &&& 31)).toInt8 = (nI (sw_bt w s)).toInt8 := by
  have e : ((nI s &&& 31).toBitVec.smod 32).toNat = s := by rcases hs with rfl | rfl | rfl | rfl <;> decide +kernel
  apply Int8.toBitVec_inj.mp
  apply BitVec.eq_of_getLsbD_eq
  intro i hi
  rw [Int32.toBitVec_toInt8, Int32.toBitVec_toInt8, BitVec.getLsbD_signExtend, BitVec.getLsbD_signExtend, if_pos (show i < 32 by omega), if_pos (show i < 32 by omega), Int32.toBitVec_shiftRight, BitVec.sshiftRight_eq', e, sw_bitq (by omega) hi, show (nI (sw_bt w s)).toBitVec = BitVec.ofNat 32 (sw_bt w s) from rfl, sw_bt_bit]
  simp [hi]
/-- a byte as the reference holds it -/
def sw_by (b : Nat) : Int32 := (nI b).toInt8.toInt32
theorem sw_nar (x : Int8) : vp_nar .byte x.toInt32 = x.toInt32 := by
  show x.toInt32.toInt8.toInt32 = x.toInt32
  rw [Int8.toInt8_toInt32]
theorem sw_by_32 : ∀ b, b < 256 → (sw_by b = nI 32 ↔ b = 32) := by decide +kernel
theorem sw_by_255 : ∀ b, b < 256 → sw_by b &&& nI 255 = nI b := by decide +kernel
theorem sw_by_lo : ∀ b, b < 256 → (sw_by b < nI 48 ↔ (b < 48 ∨ 128 ≤ b)) := by decide +kernel
theorem sw_by_hi : ∀ b, b < 256 → (nI 57 < sw_by b ↔ (57 < b ∧ b < 128)) := by decide +kernel
/-! the tape, the tastes: U 0 0 0 bytes of the tape, 1 i 0 the i-th; 2 0 0 tastes, 3 0 0 the one that holds and 1 (0 none); of a taste t: 4 t 0 steps, 5 t i; 6 t 0 bytes of its text, 7 t i -/
def sw_hd (h : Nat) : Int32 := if h = 0 then -1 else nI (h - 1)
def sw_tX (σ : sd_Mem) (U : sw_T) : Prop := σ.1 1 1 = nI (U 0 0 0) ∧ ∀ i, i < U 0 0 0 → σ.1 2 i = nI (U 1 i 0)
def sw_tM (σ : sd_Mem) (U : sw_T) : Prop := σ.1 271 6 = nI (U 0 0 0) ∧ ∀ i, i < U 0 0 0 → σ.1 272 i = sw_by (U 1 i 0)
def sw_vX (σ : sd_Mem) (U : sw_T) : Prop := σ.1 6 2 = nI (U 2 0 0) ∧ σ.1 6 3 = sw_hd (U 3 0 0) ∧ ∀ t, t < U 2 0 0 → σ.1 13 t = nI (U 4 t 0) ∧ ∀ i, i < U 4 t 0 → σ.1 (8 + t) i = nI (U 5 t i)
/-- what holds of them -/
def sw_pU (U : sw_T) : Prop := U 0 0 0 ≤ 240 ∧ (∀ i, 0 < U 1 i 0 ∧ U 1 i 0 < 256) ∧ U 2 0 0 ≤ 4 ∧ U 3 0 0 ≤ U 2 0 0 ∧ (∀ t, U 4 t 0 ≤ 240 ∧ U 6 t 0 ≤ 240) ∧ (∀ t i, U 5 t i < 30000) ∧ ∀ t i, 0 < U 7 t i ∧ U 7 t i < 256
/-- one byte more, if it isn't 0 -/
def sw_pt (b : Nat) (U : sw_T) : sw_T := if b = 0 then U else sw_set (sw_set U 1 (U 0 0 0) 0 b) 0 0 0 (U 0 0 0 + 1)
def sw_c1 (b : Nat) : Nat := if b = 0 then 0 else 1
theorem sw_pt_0 {b : Nat} {U : sw_T} : sw_pt b U 0 0 0 = U 0 0 0 + sw_c1 b := by
  unfold sw_pt sw_c1
  split
  · rfl
  · rw [sw_set_y]
theorem sw_pt_o {b : Nat} {U : sw_T} {x y z : Nat} (h : 2 ≤ x) : sw_pt b U x y z = U x y z := by
  unfold sw_pt
  split
  · rfl
  · rw [sw_set_n (by omega), sw_set_n (by omega)]
theorem sw_pt_pU {b : Nat} {U : sw_T} (h : sw_pU U) (hb : b < 256) (hn : U 0 0 0 + sw_c1 b ≤ 240) : sw_pU (sw_pt b U) := by
  obtain ⟨h1, h2, h3, h4, h5, h6, h7⟩ := h
  refine ⟨by rw [sw_pt_0]; exact hn, fun i => ?_, by rw [sw_pt_o (by decide)]; exact h3, by rw [sw_pt_o (by decide), sw_pt_o (by decide)]; exact h4, fun t => by rw [sw_pt_o (by decide), sw_pt_o (by decide)]; exact h5 t, fun t i => by rw [sw_pt_o (by decide)]; exact h6 t i, fun t i => by rw [sw_pt_o (by decide)]; exact h7 t i⟩
  unfold sw_pt
  split
  · exact h2 i
  · rw [sw_set_n (by omega)]
    unfold sw_set
    split
    · omega
    · exact h2 i
def sw_pw (w : Int32) (U : sw_T) : sw_T := sw_pt (sw_bt w 0) (sw_pt (sw_bt w 8) (sw_pt (sw_bt w 16) (sw_pt (sw_bt w 24) U)))
def sw_nb (w : Int32) : Nat := sw_c1 (sw_bt w 24) + sw_c1 (sw_bt w 16) + sw_c1 (sw_bt w 8) + sw_c1 (sw_bt w 0)
theorem sw_c1_le (b : Nat) : sw_c1 b ≤ 1 := by unfold sw_c1; split <;> omega
theorem sw_pw_0 {w : Int32} {U : sw_T} : sw_pw w U 0 0 0 = U 0 0 0 + sw_nb w := by
  unfold sw_pw sw_nb
  rw [sw_pt_0, sw_pt_0, sw_pt_0, sw_pt_0]
  omega
theorem sw_pw_pU {w : Int32} {U : sw_T} (h : sw_pU U) (hn : U 0 0 0 + sw_nb w ≤ 240) : sw_pU (sw_pw w U) := by
  unfold sw_nb at hn
  exact sw_pt_pU (sw_pt_pU (sw_pt_pU (sw_pt_pU h (sw_bt_lt _ _) (by omega)) (sw_bt_lt _ _) (by rw [sw_pt_0]; omega)) (sw_bt_lt _ _) (by rw [sw_pt_0, sw_pt_0]; omega)) (sw_bt_lt _ _) (by rw [sw_pt_0, sw_pt_0, sw_pt_0]; omega)
theorem sw_pw_o {w : Int32} {U : sw_T} {x y z : Nat} (h : 2 ≤ x) : sw_pw w U x y z = U x y z := by
  unfold sw_pw
  rw [sw_pt_o h, sw_pt_o h, sw_pt_o h, sw_pt_o h]
theorem sw_m24 : nI 24 + (-8) = nI 16 := by decide
theorem sw_m16 : nI 16 + (-8) = nI 8 := by decide
theorem sw_m8 : nI 8 + (-8) = nI 0 := by decide
theorem sw_m0 : nI 0 + (-8) < 0 := by decide
section SD91
variable {L : Nat} {xs : Nat → Int32} {fm : Option Nat} {σ : sd_Mem} {d : Nat} {Q : Option Value → sd_Mem → Prop} {U : sw_T}
theorem l_X_bytesOf {w : Int32} {s n : Nat} (hs : s = 24 ∨ s = 16 ∨ s = 8 ∨ s = 0) (hn : n ≤ 4) (h : sd_Go (sd_E1 L xs fm) d y_X_bytesOf 5 [.int w, .int (nI (n + sw_c1 (sw_bt w s))), .int (nI s + (-8))] [] σ Q) : sd_Go (sd_E1 L xs fm) d y_X_bytesOf 5 [.int w, .int (nI n), .int (nI s)] [] σ Q := by
  have hb := sw_bt_lt w s
  have hs24 : s < 25 := by omega
  rw [z_X_bytesOf_5]
  unfold sw_c1 at h
  simp (disch := first | exact sd_cr | exact sd_ci | exact sd_cu | exact sd_cl9 | assumption | omega) only [z_X_bytesOf_6, z_X_bytesOf_9, z_X_bytesOf_10, z_X_bytesOf_11, z_X_bytesOf_12, z_X_bytesOf_15, z_X_bytesOf_16, z_X_bytesOf_19, z_X_bytesOf_22, z_X_bytesOf_25, false_and, and_false, if_true, if_false, Decidable.not_not, sd_ci, sd_cr, sd_cl9, sd_cu, sd_cat0, sd_cat1, sd_rfS, sd_n01, sd_n11, sd_n1, sd_n10, sd_n00, sd_b01, sd_b0, true_and, and_true, and_self, not_true_eq_false, not_false_eq_true, false_implies, true_implies, implies_true, or_true, true_or, or_false, false_or, Option.toList_some, Option.toList_none, List.cons_append, List.nil_append, Nat.reduceAdd, Nat.reduceLeDiff, nz_sub, nz_lt0, nz_ge0, nz_le0, nz_gt0, nz_eq0, nz_eq1, nz_lt, nz_le, nz_eq, nz_cl, nz_in, nz_add, nz_mul, nz_m1, nz_m1', Nat.reduceMul, Nat.reduceSub, Nat.reduceLT, Nat.reduceEqDiff, not_false_eq_true, false_implies, true_implies, true_and, and_true, sw_ush hs]
  ((repeat' first | (refine And.intro ?_ ?_) | (intro _)) <;> first | omega | (rw [if_pos (by omega)] at h; exact h) | (rw [if_neg (by omega)] at h; exact h))
theorem c_X_bytesOf {w : Int32} : sd_Call (sd_E1 L xs fm) (d + 1) y_X_bytesOf [.int w] σ Q ↔ Q (some (.int (nI (sw_nb w)))) σ := by
  refine sd_Call.iff (fun Q hq => ?_) Q
  have a1 := sw_c1_le (sw_bt w 24)
  have a2 := sw_c1_le (sw_bt w 16)
  have a3 := sw_c1_le (sw_bt w 8)
  have a4 := sw_c1_le (sw_bt w 0)
  rw [sd_Call.start (ls := [.int w, sd_un, sd_un]) m_X_bytesOf (by decide) (Nat.le_of_ble_eq_true rfl) rfl]
  simp (disch := first | exact sd_cr | exact sd_ci | exact sd_cu | exact sd_cl9 | assumption | omega) only [z_X_bytesOf_0, z_X_bytesOf_1, z_X_bytesOf_2, z_X_bytesOf_4, false_and, and_false, if_true, if_false, Decidable.not_not, sd_ci, sd_cr, sd_cl9, sd_cu, sd_cat0, sd_cat1, sd_rfS, sd_n01, sd_n11, sd_n1, sd_n10, sd_n00, sd_b01, sd_b0, true_and, and_true, and_self, not_true_eq_false, not_false_eq_true, false_implies, true_implies, implies_true, or_true, true_or, or_false, false_or, Option.toList_some, Option.toList_none, List.cons_append, List.nil_append, Nat.reduceAdd, Nat.reduceLeDiff]
  refine l_X_bytesOf (Or.inl rfl) (by omega) ?_
  rw [sw_m24]
  refine l_X_bytesOf (by omega) (by omega) ?_
  rw [sw_m16]
  refine l_X_bytesOf (by omega) (by omega) ?_
  rw [sw_m8]
  refine l_X_bytesOf (by omega) (by omega) ?_
  rw [z_X_bytesOf_5]
  simp (disch := first | exact sd_cr | exact sd_ci | exact sd_cu | exact sd_cl9 | assumption | omega) only [z_X_bytesOf_6, z_X_bytesOf_9, z_X_bytesOf_10, z_X_bytesOf_11, z_X_bytesOf_12, z_X_bytesOf_15, z_X_bytesOf_16, z_X_bytesOf_19, z_X_bytesOf_22, z_X_bytesOf_25, z_X_bytesOf_28, z_X_bytesOf_29, false_and, and_false, if_true, if_false, Decidable.not_not, sd_ci, sd_cr, sd_cl9, sd_cu, sd_cat0, sd_cat1, sd_rfS, sd_n01, sd_n11, sd_n1, sd_n10, sd_n00, sd_b01, sd_b0, true_and, and_true, and_self, not_true_eq_false, not_false_eq_true, false_implies, true_implies, implies_true, or_true, true_or, or_false, false_or, Option.toList_some, Option.toList_none, List.cons_append, List.nil_append, Nat.reduceAdd, Nat.reduceLeDiff, sw_m0]
  rw [Nat.zero_add]
  exact hq
theorem l_M_bytesIn {w : Int32} {s n : Nat} (hs : s = 24 ∨ s = 16 ∨ s = 8 ∨ s = 0) (hn : n ≤ 4) (h : sd_Go (sd_E1 L xs fm) d y_M_bytesIn 5 [.int w, .int (nI (n + sw_c1 (sw_bt w s))), .int (nI s + (-8))] [] σ Q) : sd_Go (sd_E1 L xs fm) d y_M_bytesIn 5 [.int w, .int (nI n), .int (nI s)] [] σ Q := by
  have hb := sw_bt_lt w s
  have hs24 : s < 25 := by omega
  rw [z_M_bytesIn_5]
  unfold sw_c1 at h
  simp (disch := first | exact sd_cr | exact sd_ci | exact sd_cu | exact sd_cl9 | assumption | omega) only [z_M_bytesIn_6, z_M_bytesIn_9, z_M_bytesIn_10, z_M_bytesIn_11, z_M_bytesIn_12, z_M_bytesIn_13, z_M_bytesIn_16, z_M_bytesIn_17, z_M_bytesIn_20, z_M_bytesIn_21, z_M_bytesIn_24, z_M_bytesIn_25, z_M_bytesIn_26, z_M_bytesIn_27, z_M_bytesIn_30, false_and, and_false, if_true, if_false, Decidable.not_not, sd_ci, sd_cr, sd_cl9, sd_cu, sd_cat0, sd_cat1, sd_rfS, sd_n01, sd_n11, sd_n1, sd_n10, sd_n00, sd_b01, sd_b0, true_and, and_true, and_self, not_true_eq_false, not_false_eq_true, false_implies, true_implies, implies_true, or_true, true_or, or_false, false_or, Option.toList_some, Option.toList_none, List.cons_append, List.nil_append, Nat.reduceAdd, Nat.reduceLeDiff, nz_sub, nz_lt0, nz_ge0, nz_le0, nz_gt0, nz_eq0, nz_eq1, nz_lt, nz_le, nz_eq, nz_cl, nz_in, nz_add, nz_mul, nz_m1, nz_m1', Nat.reduceMul, Nat.reduceSub, Nat.reduceLT, Nat.reduceEqDiff, not_false_eq_true, false_implies, true_implies, true_and, and_true, sw_ish hs]
  ((repeat' first | (refine And.intro ?_ ?_) | (intro _)) <;> first | omega | (rw [if_pos (by omega)] at h; exact h) | (rw [if_neg (by omega)] at h; exact h))
theorem c_M_bytesIn {w : Int32} : sd_Call (sd_E1 L xs fm) (d + 1) y_M_bytesIn [.int w] σ Q ↔ Q (some (.int (nI (sw_nb w)))) σ := by
  refine sd_Call.iff (fun Q hq => ?_) Q
  have a1 := sw_c1_le (sw_bt w 24)
  have a2 := sw_c1_le (sw_bt w 16)
  have a3 := sw_c1_le (sw_bt w 8)
  have a4 := sw_c1_le (sw_bt w 0)
  rw [sd_Call.start (ls := [.int w, sd_un, sd_un]) m_M_bytesIn (by decide) (Nat.le_of_ble_eq_true rfl) rfl]
  simp (disch := first | exact sd_cr | exact sd_ci | exact sd_cu | exact sd_cl9 | assumption | omega) only [z_M_bytesIn_0, z_M_bytesIn_1, z_M_bytesIn_2, z_M_bytesIn_4, false_and, and_false, if_true, if_false, Decidable.not_not, sd_ci, sd_cr, sd_cl9, sd_cu, sd_cat0, sd_cat1, sd_rfS, sd_n01, sd_n11, sd_n1, sd_n10, sd_n00, sd_b01, sd_b0, true_and, and_true, and_self, not_true_eq_false, not_false_eq_true, false_implies, true_implies, implies_true, or_true, true_or, or_false, false_or, Option.toList_some, Option.toList_none, List.cons_append, List.nil_append, Nat.reduceAdd, Nat.reduceLeDiff]
  refine l_M_bytesIn (Or.inl rfl) (by omega) ?_
  rw [sw_m24]
  refine l_M_bytesIn (by omega) (by omega) ?_
  rw [sw_m16]
  refine l_M_bytesIn (by omega) (by omega) ?_
  rw [sw_m8]
  refine l_M_bytesIn (by omega) (by omega) ?_
  rw [z_M_bytesIn_5]
  simp (disch := first | exact sd_cr | exact sd_ci | exact sd_cu | exact sd_cl9 | assumption | omega) only [z_M_bytesIn_6, z_M_bytesIn_9, z_M_bytesIn_10, z_M_bytesIn_11, z_M_bytesIn_12, z_M_bytesIn_13, z_M_bytesIn_16, z_M_bytesIn_17, z_M_bytesIn_20, z_M_bytesIn_21, z_M_bytesIn_24, z_M_bytesIn_25, z_M_bytesIn_26, z_M_bytesIn_27, z_M_bytesIn_30, z_M_bytesIn_33, z_M_bytesIn_34, false_and, and_false, if_true, if_false, Decidable.not_not, sd_ci, sd_cr, sd_cl9, sd_cu, sd_cat0, sd_cat1, sd_rfS, sd_n01, sd_n11, sd_n1, sd_n10, sd_n00, sd_b01, sd_b0, true_and, and_true, and_self, not_true_eq_false, not_false_eq_true, false_implies, true_implies, implies_true, or_true, true_or, or_false, false_or, Option.toList_some, Option.toList_none, List.cons_append, List.nil_append, Nat.reduceAdd, Nat.reduceLeDiff, sw_m0]
  rw [Nat.zero_add]
  exact hq
/-- one byte onto the tape -/
theorem l_Tape_put {w : Int32} {s : Nat} (hs : s = 24 ∨ s = 16 ∨ s = 8 ∨ s = 0) (hU : sw_tX σ U) (hn : U 0 0 0 + sw_c1 (sw_bt w s) ≤ 240) : ∃ σ', sw_tX σ' (sw_pt (sw_bt w s) U) ∧ (∀ e, e ≠ 1 → e ≠ 2 → σ'.1 e = σ.1 e) ∧ (∀ j, j ≠ 1 → σ'.1 1 j = σ.1 1 j) ∧ σ'.2 = σ.2 ∧ ∀ (d : Nat) Q, (∀ l3, sd_Go (sd_E1 L xs fm) d y_Tape_put 3 [.ref 1, .int w, .int (nI s + (-8)), l3] [] σ' Q) → ∀ l3, sd_Go (sd_E1 L xs fm) d y_Tape_put 3 [.ref 1, .int w, .int (nI s), l3] [] σ Q := by
  have hb := sw_bt_lt w s
  have hs24 : s < 25 := by omega
  obtain ⟨u1, u2⟩ := id hU
  by_cases h0 : sw_bt w s = 0
  · refine ⟨σ, by unfold sw_pt; rw [if_pos h0]; exact hU, fun _ _ _ => rfl, fun _ _ => rfl, rfl, fun d Q hq l3 => ?_⟩
    rw [z_Tape_put_3]
    simp (disch := first | exact sd_cr | exact sd_ci | exact sd_cu | exact sd_cl9 | assumption | omega | exact t_259 | exact t_260 | exact t_261 | exact t_262 | exact t_263 | exact t_264 | exact t_254 | exact t_255 | exact t_256 | exact t_257 | exact t_266 | exact t_267 | exact t_268 | exact t_269 | exact t_270 | exact t_252 | exact t_240 | exact t_246 | exact t_2 | exact t_4 | exact t_5 | exact t_13 | exact t_14 | exact t_15 | exact t_16 | exact Or.inl t_39 | exact Or.inr t_7) only [z_Tape_put_4, z_Tape_put_7, z_Tape_put_8, z_Tape_put_9, z_Tape_put_10, z_Tape_put_13, z_Tape_put_14, z_Tape_put_15, z_Tape_put_16, z_Tape_put_19, z_Tape_put_20, z_Tape_put_23, z_Tape_put_26, z_Tape_put_29, z_Tape_put_30, z_Tape_put_33, z_Tape_put_34, z_Tape_put_37, z_Tape_put_38, z_Tape_put_39, z_Tape_put_40, z_Tape_put_41, z_Tape_put_44, z_Tape_put_45, z_Tape_put_46, z_Tape_put_49, z_Tape_put_52, false_and, and_false, if_true, if_false, Decidable.not_not, sd_ci, sd_cr, sd_cl9, sd_cu, sd_cat0, sd_cat1, sd_rfS, sd_n01, sd_n11, sd_n1, sd_n10, sd_n00, sd_b01, sd_b0, true_and, and_true, and_self, not_true_eq_false, not_false_eq_true, false_implies, true_implies, implies_true, or_true, true_or, or_false, false_or, Option.toList_some, Option.toList_none, List.cons_append, List.nil_append, Nat.reduceAdd, Nat.reduceLeDiff, nz_sub, nz_lt0, nz_ge0, nz_le0, nz_gt0, nz_eq0, nz_eq1, nz_lt, nz_le, nz_eq, nz_cl, nz_in, nz_add, nz_mul, nz_m1, nz_m1', Nat.reduceMul, Nat.reduceSub, Nat.reduceLT, Nat.reduceEqDiff, not_false_eq_true, false_implies, true_implies, true_and, and_true, h_0, h_1, t_2, n_2, h_3, t_4, n_4, t_5, n_5, h_6, t_7, n_7, t_8, n_8, t_9, n_9, t_10, n_10, t_11, n_11, t_12, n_12, t_13, n_13, t_14, n_14, t_15, n_15, t_16, n_16, h_17, h_18, t_19, n_19, t_20, n_20, t_21, n_21, t_22, n_22, h_28, t_29, n_29, t_30, n_30, t_31, n_31, t_32, n_32, h_38, t_39, n_39, t_240, n_240, t_246, n_246, t_252, n_252, h_253, t_254, n_254, t_255, n_255, t_256, n_256, t_257, n_257, h_258, t_259, n_259, t_260, n_260, t_261, n_261, t_262, n_262, t_263, n_263, t_264, n_264, h_265, t_266, n_266, t_267, n_267, t_268, n_268, t_269, n_269, t_270, n_270, r_0_0, r_0_1, r_0_2, r_0_3, r_0_6, r_0_7, r_0_8, r_0_9, r_0_11, r_0_12, r_0_13, r_0_14, r_0_15, r_1_0, r_3_0, r_3_1, r_3_2, r_6_0, r_6_1, r_6_4, r_6_5, r_6_7, r_7_0, r_7_1, r_7_2, r_7_3, r_7_4, r_17_0, r_17_1, r_18_1, r_18_2, r_18_3, r_18_4, r_18_6, r_28_1, r_28_2, r_28_3, r_28_4, r_28_6, r_38_0, r_253_0, r_253_1, r_253_2, r_253_3, r_258_0, r_258_1, r_258_3, r_258_4, r_258_6, r_258_8, r_265_0, r_265_1, r_265_3, r_265_4, r_265_5, r_0_4, r_0_5, sw_ush hs, h0]
    ((repeat' first | (refine And.intro ?_ ?_) | (intro _)) <;> first | omega | exact hq _)
  · have hc : sw_c1 (sw_bt w s) = 1 := if_neg h0
    rw [hc] at hn
    refine ⟨sd_wI (sd_wI σ 2 (U 0 0 0) (nI (sw_bt w s))) 1 1 (nI (U 0 0 0 + 1)), ?_, fun e h1 h2 => by rw [wI_c h1, wI_c h2], fun j hj => by rw [wI_o hj, wI_c (by decide)], rfl, fun d Q hq l3 => ?_⟩
    · unfold sw_pt
      rw [if_neg h0]
      refine ⟨by rw [wI_k, sw_set_y], fun i hi => ?_⟩
      rw [sw_set_y] at hi
      rw [wI_c (by decide), wI_1, sw_set_n (by omega)]
      unfold sw_set
      by_cases hi2 : i = U 0 0 0
      · rw [if_pos ⟨rfl, hi2⟩, if_pos ⟨rfl, hi2, rfl⟩]
      · rw [if_neg (by omega), if_neg (by omega)]; exact u2 i (by omega)
    · rw [z_Tape_put_3]
      simp (disch := first | exact sd_cr | exact sd_ci | exact sd_cu | exact sd_cl9 | assumption | omega | exact t_259 | exact t_260 | exact t_261 | exact t_262 | exact t_263 | exact t_264 | exact t_254 | exact t_255 | exact t_256 | exact t_257 | exact t_266 | exact t_267 | exact t_268 | exact t_269 | exact t_270 | exact t_252 | exact t_240 | exact t_246 | exact t_2 | exact t_4 | exact t_5 | exact t_13 | exact t_14 | exact t_15 | exact t_16 | exact Or.inl t_39 | exact Or.inr t_7) only [z_Tape_put_4, z_Tape_put_7, z_Tape_put_8, z_Tape_put_9, z_Tape_put_10, z_Tape_put_13, z_Tape_put_14, z_Tape_put_15, z_Tape_put_16, z_Tape_put_19, z_Tape_put_20, z_Tape_put_23, z_Tape_put_26, z_Tape_put_29, z_Tape_put_30, z_Tape_put_33, z_Tape_put_34, z_Tape_put_37, z_Tape_put_38, z_Tape_put_39, z_Tape_put_40, z_Tape_put_41, z_Tape_put_44, z_Tape_put_45, z_Tape_put_46, z_Tape_put_49, z_Tape_put_52, false_and, and_false, if_true, if_false, Decidable.not_not, sd_ci, sd_cr, sd_cl9, sd_cu, sd_cat0, sd_cat1, sd_rfS, sd_n01, sd_n11, sd_n1, sd_n10, sd_n00, sd_b01, sd_b0, true_and, and_true, and_self, not_true_eq_false, not_false_eq_true, false_implies, true_implies, implies_true, or_true, true_or, or_false, false_or, Option.toList_some, Option.toList_none, List.cons_append, List.nil_append, Nat.reduceAdd, Nat.reduceLeDiff, nz_sub, nz_lt0, nz_ge0, nz_le0, nz_gt0, nz_eq0, nz_eq1, nz_lt, nz_le, nz_eq, nz_cl, nz_in, nz_add, nz_mul, nz_m1, nz_m1', Nat.reduceMul, Nat.reduceSub, Nat.reduceLT, Nat.reduceEqDiff, not_false_eq_true, false_implies, true_implies, true_and, and_true, h_0, h_1, t_2, n_2, h_3, t_4, n_4, t_5, n_5, h_6, t_7, n_7, t_8, n_8, t_9, n_9, t_10, n_10, t_11, n_11, t_12, n_12, t_13, n_13, t_14, n_14, t_15, n_15, t_16, n_16, h_17, h_18, t_19, n_19, t_20, n_20, t_21, n_21, t_22, n_22, h_28, t_29, n_29, t_30, n_30, t_31, n_31, t_32, n_32, h_38, t_39, n_39, t_240, n_240, t_246, n_246, t_252, n_252, h_253, t_254, n_254, t_255, n_255, t_256, n_256, t_257, n_257, h_258, t_259, n_259, t_260, n_260, t_261, n_261, t_262, n_262, t_263, n_263, t_264, n_264, h_265, t_266, n_266, t_267, n_267, t_268, n_268, t_269, n_269, t_270, n_270, r_0_0, r_0_1, r_0_2, r_0_3, r_0_6, r_0_7, r_0_8, r_0_9, r_0_11, r_0_12, r_0_13, r_0_14, r_0_15, r_1_0, r_3_0, r_3_1, r_3_2, r_6_0, r_6_1, r_6_4, r_6_5, r_6_7, r_7_0, r_7_1, r_7_2, r_7_3, r_7_4, r_17_0, r_17_1, r_18_1, r_18_2, r_18_3, r_18_4, r_18_6, r_28_1, r_28_2, r_28_3, r_28_4, r_28_6, r_38_0, r_253_0, r_253_1, r_253_2, r_253_3, r_258_0, r_258_1, r_258_3, r_258_4, r_258_6, r_258_8, r_265_0, r_265_1, r_265_3, r_265_4, r_265_5, r_0_4, r_0_5, sw_ush hs, h0, u1, wI_c]
      ((repeat' first | (refine And.intro ?_ ?_) | (intro _)) <;> first | omega | exact hq _)
theorem c_Tape_put {w : Int32} (hU : sw_tX σ U) (hn : U 0 0 0 + sw_nb w ≤ 240) : ∃ σ', sw_tX σ' (sw_pw w U) ∧ (∀ e, e ≠ 1 → e ≠ 2 → σ'.1 e = σ.1 e) ∧ (∀ j, j ≠ 1 → σ'.1 1 j = σ.1 1 j) ∧ σ'.2 = σ.2 ∧ ∀ (d : Nat) Q, sd_Call (sd_E1 L xs fm) (d + 1) y_Tape_put [.ref 1, .int w] σ Q ↔ Q none σ' := by
  unfold sw_nb at hn
  obtain ⟨σ1, a1, a2, a3, a4, a5⟩ := l_Tape_put (L := L) (xs := xs) (fm := fm) (w := w) (s := 24) (by omega) hU (by omega)
  obtain ⟨σ2, b1, b2, b3, b4, b5⟩ := l_Tape_put (L := L) (xs := xs) (fm := fm) (w := w) (s := 16) (by omega) a1 (by rw [sw_pt_0]; omega)
  obtain ⟨σ3, c1, c2, c3, c4, c5⟩ := l_Tape_put (L := L) (xs := xs) (fm := fm) (w := w) (s := 8) (by omega) b1 (by rw [sw_pt_0, sw_pt_0]; omega)
  obtain ⟨σ4, d1, d2, d3, d4, d5⟩ := l_Tape_put (L := L) (xs := xs) (fm := fm) (w := w) (s := 0) (by omega) c1 (by rw [sw_pt_0, sw_pt_0, sw_pt_0]; omega)
  refine ⟨σ4, d1, fun e h1 h2 => by rw [d2 e h1 h2, c2 e h1 h2, b2 e h1 h2, a2 e h1 h2], fun j hj => by rw [d3 j hj, c3 j hj, b3 j hj, a3 j hj], by rw [d4, c4, b4, a4], fun d Q => sd_Call.iff (fun Q hq => ?_) Q⟩
  rw [sd_Call.start (ls := [.ref 1, .int w, sd_un, sd_un]) m_Tape_put (by decide) (Nat.le_of_ble_eq_true rfl) rfl]
  simp (disch := first | exact sd_cr | exact sd_ci | exact sd_cu | exact sd_cl9 | assumption | omega) only [z_Tape_put_0, z_Tape_put_2, false_and, and_false, if_true, if_false, Decidable.not_not, sd_ci, sd_cr, sd_cl9, sd_cu, sd_cat0, sd_cat1, sd_rfS, sd_n01, sd_n11, sd_n1, sd_n10, sd_n00, sd_b01, sd_b0, true_and, and_true, and_self, not_true_eq_false, not_false_eq_true, false_implies, true_implies, implies_true, or_true, true_or, or_false, false_or, Option.toList_some, Option.toList_none, List.cons_append, List.nil_append, Nat.reduceAdd, Nat.reduceLeDiff]
  refine a5 d Q ?_ _
  rw [sw_m24]
  refine b5 d Q ?_
  rw [sw_m16]
  refine c5 d Q ?_
  rw [sw_m8]
  refine d5 d Q ?_
  intro l3
  rw [z_Tape_put_3]
  simp (disch := first | exact sd_cr | exact sd_ci | exact sd_cu | exact sd_cl9 | assumption | omega) only [z_Tape_put_4, z_Tape_put_55, false_and, and_false, if_true, if_false, Decidable.not_not, sd_ci, sd_cr, sd_cl9, sd_cu, sd_cat0, sd_cat1, sd_rfS, sd_n01, sd_n11, sd_n1, sd_n10, sd_n00, sd_b01, sd_b0, true_and, and_true, and_self, not_true_eq_false, not_false_eq_true, false_implies, true_implies, implies_true, or_true, true_or, or_false, false_or, Option.toList_some, Option.toList_none, List.cons_append, List.nil_append, Nat.reduceAdd, Nat.reduceLeDiff, sw_m0]
  exact hq
theorem l_M_put {w : Int32} {s : Nat} (hs : s = 24 ∨ s = 16 ∨ s = 8 ∨ s = 0) (hU : sw_tM σ U) (hn : U 0 0 0 + sw_c1 (sw_bt w s) ≤ 240) : ∃ σ', sw_tM σ' (sw_pt (sw_bt w s) U) ∧ (∀ e, e ≠ 271 → e ≠ 272 → σ'.1 e = σ.1 e) ∧ (∀ j, j ≠ 6 → σ'.1 271 j = σ.1 271 j) ∧ σ'.2 = σ.2 ∧ ∀ (d : Nat) Q, sd_Go (sd_E1 L xs fm) d y_M_put 3 [.ref 271, .int w, .int (nI s + (-8))] [] σ' Q → sd_Go (sd_E1 L xs fm) d y_M_put 3 [.ref 271, .int w, .int (nI s)] [] σ Q := by
  have hb := sw_bt_lt w s
  have hs24 : s < 25 := by omega
  obtain ⟨u1, u2⟩ := id hU
  have hst : vp_nar .byte (w >>> (nI s &&& 31)).toInt8.toInt32 = sw_by (sw_bt w s) := by rw [sw_nar, sw_i2b hs]; rfl
  by_cases h0 : sw_bt w s = 0
  · refine ⟨σ, by unfold sw_pt; rw [if_pos h0]; exact hU, fun _ _ _ => rfl, fun _ _ => rfl, rfl, fun d Q hq => ?_⟩
    rw [z_M_put_3]
    simp (disch := first | exact sd_cr | exact sd_ci | exact sd_cu | exact sd_cl9 | assumption | omega | exact t_285 | exact t_283 | exact t_278 | exact t_281 | exact t_276 | exact t_274 | exact t_275 | exact t_277 | exact t_279 | exact t_280 | exact t_282 | exact t_284 | exact t_286 | exact t_287 | exact t_288 | exact t_289 | exact t_290 | exact t_291 | exact t_292 | exact t_293 | exact t_294 | exact t_295 | exact t_296 | exact t_297 | exact t_298 | exact t_299 | exact t_300) only [z_M_put_4, z_M_put_7, z_M_put_8, z_M_put_9, z_M_put_10, z_M_put_13, z_M_put_14, z_M_put_17, z_M_put_20, z_M_put_21, z_M_put_24, z_M_put_25, z_M_put_28, z_M_put_29, z_M_put_30, z_M_put_31, z_M_put_32, z_M_put_33, z_M_put_34, z_M_put_35, z_M_put_38, z_M_put_39, z_M_put_40, z_M_put_43, z_M_put_46, false_and, and_false, if_true, if_false, Decidable.not_not, sd_ci, sd_cr, sd_cl9, sd_cu, sd_cat0, sd_cat1, sd_rfS, sd_n01, sd_n11, sd_n1, sd_n10, sd_n00, sd_b01, sd_b0, true_and, and_true, and_self, not_true_eq_false, not_false_eq_true, false_implies, true_implies, implies_true, or_true, true_or, or_false, false_or, Option.toList_some, Option.toList_none, List.cons_append, List.nil_append, Nat.reduceAdd, Nat.reduceLeDiff, nz_sub, nz_lt0, nz_ge0, nz_le0, nz_gt0, nz_eq0, nz_eq1, nz_lt, nz_le, nz_eq, nz_cl, nz_in, nz_add, nz_mul, nz_m1, nz_m1', Nat.reduceMul, Nat.reduceSub, Nat.reduceLT, Nat.reduceEqDiff, not_false_eq_true, false_implies, true_implies, true_and, and_true, h_271, t_272, n_272, t_273, n_273, t_274, n_274, t_275, n_275, t_276, n_276, t_277, n_277, t_278, n_278, t_279, n_279, t_280, n_280, t_281, n_281, t_282, n_282, t_283, n_283, t_284, n_284, t_285, n_285, t_286, n_286, t_287, n_287, t_288, n_288, t_289, n_289, t_290, n_290, t_291, n_291, t_292, n_292, t_293, n_293, t_294, n_294, t_295, n_295, t_296, n_296, t_297, n_297, t_298, n_298, t_299, n_299, t_300, n_300, t_301, n_301, r_271_1, r_271_2, r_271_3, r_271_4, r_271_15, r_271_16, r_271_18, r_271_19, r_271_20, r_271_21, r_271_22, r_271_23, r_271_24, r_271_25, r_271_26, r_271_34, r_271_35, r_271_38, r_271_39, r_271_40, r_271_42, r_271_45, r_271_46, r_271_47, r_271_48, r_271_49, r_271_50, r_271_53, r_271_54, r_271_55, r_271_57, sw_ish hs, h0]
    ((repeat' first | (refine And.intro ?_ ?_) | (intro _)) <;> first | omega | exact hq)
  · have hc : sw_c1 (sw_bt w s) = 1 := if_neg h0
    rw [hc] at hn
    refine ⟨sd_wI (sd_wI σ 272 (U 0 0 0) (sw_by (sw_bt w s))) 271 6 (nI (U 0 0 0 + 1)), ?_, fun e h1 h2 => by rw [wI_c h1, wI_c h2], fun j hj => by rw [wI_o hj, wI_c (by decide)], rfl, fun d Q hq => ?_⟩
    · unfold sw_pt
      rw [if_neg h0]
      refine ⟨by rw [wI_k, sw_set_y], fun i hi => ?_⟩
      rw [sw_set_y] at hi
      rw [wI_c (by decide), wI_1, sw_set_n (by omega)]
      unfold sw_set
      by_cases hi2 : i = U 0 0 0
      · rw [if_pos ⟨rfl, hi2⟩, if_pos ⟨rfl, hi2, rfl⟩]
      · rw [if_neg (by omega), if_neg (by omega)]; exact u2 i (by omega)
    · rw [z_M_put_3]
      simp (disch := first | exact t_272 | exact sd_cr | exact sd_ci | exact sd_cu | exact sd_cl9 | assumption | omega) only [z_M_put_4, z_M_put_7, z_M_put_8, z_M_put_9, z_M_put_10, z_M_put_13, z_M_put_14, z_M_put_17, z_M_put_20, z_M_put_21, z_M_put_24, z_M_put_25, z_M_put_28, z_M_put_29, z_M_put_30, z_M_put_31, z_M_put_32, z_M_put_33, z_M_put_34, z_M_put_35, z_M_put_38, z_M_put_39, z_M_put_40, z_M_put_43, z_M_put_46, false_and, and_false, if_true, if_false, Decidable.not_not, sd_ci, sd_cr, sd_cl9, sd_cu, sd_cat0, sd_cat1, sd_rfS, sd_n01, sd_n11, sd_n1, sd_n10, sd_n00, sd_b01, sd_b0, true_and, and_true, and_self, not_true_eq_false, not_false_eq_true, false_implies, true_implies, implies_true, or_true, true_or, or_false, false_or, Option.toList_some, Option.toList_none, List.cons_append, List.nil_append, Nat.reduceAdd, Nat.reduceLeDiff, nz_sub, nz_lt0, nz_ge0, nz_le0, nz_gt0, nz_eq0, nz_eq1, nz_lt, nz_le, nz_eq, nz_cl, nz_in, nz_add, nz_mul, nz_m1, nz_m1', Nat.reduceMul, Nat.reduceSub, Nat.reduceLT, Nat.reduceEqDiff, not_false_eq_true, false_implies, true_implies, true_and, and_true, h_271, t_272, n_272, t_273, n_273, t_274, n_274, t_275, n_275, t_276, n_276, t_277, n_277, t_278, n_278, t_279, n_279, t_280, n_280, t_281, n_281, t_282, n_282, t_283, n_283, t_284, n_284, t_285, n_285, t_286, n_286, t_287, n_287, t_288, n_288, t_289, n_289, t_290, n_290, t_291, n_291, t_292, n_292, t_293, n_293, t_294, n_294, t_295, n_295, t_296, n_296, t_297, n_297, t_298, n_298, t_299, n_299, t_300, n_300, t_301, n_301, r_271_1, r_271_2, r_271_3, r_271_4, r_271_15, r_271_16, r_271_18, r_271_19, r_271_20, r_271_21, r_271_22, r_271_23, r_271_24, r_271_25, r_271_26, r_271_34, r_271_35, r_271_38, r_271_39, r_271_40, r_271_42, r_271_45, r_271_46, r_271_47, r_271_48, r_271_49, r_271_50, r_271_53, r_271_54, r_271_55, r_271_57, sw_ish hs, hst, h0, u1, wI_c]
      ((repeat' first | (refine And.intro ?_ ?_) | (intro _)) <;> first | omega | exact hq)
theorem c_M_put {w : Int32} (hU : sw_tM σ U) (hn : U 0 0 0 + sw_nb w ≤ 240) : ∃ σ', sw_tM σ' (sw_pw w U) ∧ (∀ e, e ≠ 271 → e ≠ 272 → σ'.1 e = σ.1 e) ∧ (∀ j, j ≠ 6 → σ'.1 271 j = σ.1 271 j) ∧ σ'.2 = σ.2 ∧ ∀ (d : Nat) Q, sd_Call (sd_E1 L xs fm) (d + 1) y_M_put [.ref 271, .int w] σ Q ↔ Q none σ' := by
  unfold sw_nb at hn
  obtain ⟨σ1, a1, a2, a3, a4, a5⟩ := l_M_put (L := L) (xs := xs) (fm := fm) (w := w) (s := 24) (by omega) hU (by omega)
  obtain ⟨σ2, b1, b2, b3, b4, b5⟩ := l_M_put (L := L) (xs := xs) (fm := fm) (w := w) (s := 16) (by omega) a1 (by rw [sw_pt_0]; omega)
  obtain ⟨σ3, c1, c2, c3, c4, c5⟩ := l_M_put (L := L) (xs := xs) (fm := fm) (w := w) (s := 8) (by omega) b1 (by rw [sw_pt_0, sw_pt_0]; omega)
  obtain ⟨σ4, d1, d2, d3, d4, d5⟩ := l_M_put (L := L) (xs := xs) (fm := fm) (w := w) (s := 0) (by omega) c1 (by rw [sw_pt_0, sw_pt_0, sw_pt_0]; omega)
  refine ⟨σ4, d1, fun e h1 h2 => by rw [d2 e h1 h2, c2 e h1 h2, b2 e h1 h2, a2 e h1 h2], fun j hj => by rw [d3 j hj, c3 j hj, b3 j hj, a3 j hj], by rw [d4, c4, b4, a4], fun d Q => sd_Call.iff (fun Q hq => ?_) Q⟩
  rw [sd_Call.start (ls := [.ref 271, .int w, sd_un]) m_M_put (by decide) (Nat.le_of_ble_eq_true rfl) rfl]
  simp (disch := first | exact sd_cr | exact sd_ci | exact sd_cu | exact sd_cl9 | assumption | omega) only [z_M_put_0, z_M_put_2, false_and, and_false, if_true, if_false, Decidable.not_not, sd_ci, sd_cr, sd_cl9, sd_cu, sd_cat0, sd_cat1, sd_rfS, sd_n01, sd_n11, sd_n1, sd_n10, sd_n00, sd_b01, sd_b0, true_and, and_true, and_self, not_true_eq_false, not_false_eq_true, false_implies, true_implies, implies_true, or_true, true_or, or_false, false_or, Option.toList_some, Option.toList_none, List.cons_append, List.nil_append, Nat.reduceAdd, Nat.reduceLeDiff]
  refine a5 d Q ?_
  rw [sw_m24]
  refine b5 d Q ?_
  rw [sw_m16]
  refine c5 d Q ?_
  rw [sw_m8]
  refine d5 d Q ?_
  rw [z_M_put_3]
  simp (disch := first | exact sd_cr | exact sd_ci | exact sd_cu | exact sd_cl9 | assumption | omega) only [z_M_put_4, z_M_put_49, false_and, and_false, if_true, if_false, Decidable.not_not, sd_ci, sd_cr, sd_cl9, sd_cu, sd_cat0, sd_cat1, sd_rfS, sd_n01, sd_n11, sd_n1, sd_n10, sd_n00, sd_b01, sd_b0, true_and, and_true, and_self, not_true_eq_false, not_false_eq_true, false_implies, true_implies, implies_true, or_true, true_or, or_false, false_or, Option.toList_some, Option.toList_none, List.cons_append, List.nil_append, Nat.reduceAdd, Nat.reduceLeDiff, sw_m0]
  exact hq
end SD91
