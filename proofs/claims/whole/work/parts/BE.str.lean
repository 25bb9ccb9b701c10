/-! the small strings: where a letter stands in one -/
def tx_t : List (List Nat) := [[112, 100, 118, 101], [119, 115], [97, 106, 104], [112, 107, 97, 98, 110, 116], [112, 111, 102, 116], [106, 104, 105, 114, 120, 113], [121]]
def tx_b (i k : Nat) : Nat := (tx_t.getD i []).getD k 0
def tx_n (i : Nat) : Nat := (tx_t.getD i []).length
def tx_f (i : Nat) (v : Int32) : Nat → Nat → Option Nat
  | 0, _ => none
  | f + 1, k => if nI (tx_b i k) = v then some k else tx_f i v f (k + 1)
/-- where a letter stands -/
def tx_x (i : Nat) (v : Int32) : Option Nat := tx_f i v (tx_n i) 0
theorem tx_e1 : ∀ i, i < 7 → sd_slen.getD i 0 = tx_n i := by decide +kernel
theorem tx_e2 : ∀ i, i < 7 → ∀ k, k < tx_n i → (sd_sbyt.getD i []).getD k 0 = nI (tx_b i k) := by decide +kernel
theorem tx_e3 : ∀ i, i < 7 → ∀ k, k < tx_n i → tx_b i k < 128 := by decide +kernel
theorem tx_e4 : ∀ i, i < 7 → tx_n i ≤ 6 := by decide +kernel
theorem tx_9 : ∀ i, i < 7 → sd_tg (410 + i + 20) = 9 := by decide +kernel
theorem tx_a : ∀ b, b < 128 → nI b &&& nI 255 = nI b := by decide +kernel
theorem tx_c : ∀ b, b < 128 → ((nI b).toUInt32 % 65536).toInt32 = nI b := by decide +kernel
theorem tx_d : ∀ b, b < 128 → (nI b).toUInt32.toUInt16.toUInt32.toInt32 = nI b := by decide +kernel
theorem tx_c2 : ∀ b, b < 256 → ((nI b).toUInt32 % 65536).toInt32 = nI b := by decide +kernel
theorem tx_s1 : ∀ b, b < 128 → ∀ m, m < 256 → (nI b = (nI m).toInt8.toInt32 ↔ b = m) := by decide +kernel
section SDBE
variable {L : Nat} {xs : Nat → Int32} {fm : Option Nat} {σ : sd_Mem} {d i : Nat}
theorem tx_E (hi : i < 7) : (sd_E1 L xs fm).2 (410 + i + 20) = none := by
  show (if 410 + i + 20 = 400 then some (L, xs) else if 401 ≤ 410 + i + 20 ∧ 410 + i + 20 ≤ 404 then some ((sd_stat (410 + i + 20 - 401)).length, fun j => (sd_stat (410 + i + 20 - 401)).getD j 0) else none) = none
  rw [if_neg (by omega), if_neg (by omega)]
theorem c_Str_coder {Q : Option Value → sd_Mem → Prop} (hi : i < 7) : sd_Call (sd_E1 L xs fm) (d + 1) y_Str_coder [.ref (410 + i)] σ Q ↔ Q (some (.int (nI 0))) σ := by
  refine sd_Call.iff (fun Q hq => ?_) Q
  rw [sd_Call.start (ls := [.ref (410 + i)]) m_Str_coder (by decide) (Nat.le_of_ble_eq_true rfl) rfl]
  have hn : narrow .byte (.int (nI 0)) = .int (nI 0) := rfl
  have c1 : 410 ≤ 410 + i := by omega
  have c2 : 410 + i < 419 := by omega
  simp (disch := first | exact sd_cr | exact sd_ci | exact sd_cu | exact sd_cl9 | assumption | omega) only [z_Str_coder_0, z_Str_coder_3, z_Str_coder_6, z_Str_coder_7, z_Str_coder_10, z_Str_coder_13, z_Str_coder_14, false_and, and_false, if_true, if_false, Decidable.not_not, sd_ci, sd_cr, sd_cl9, sd_cu, sd_cat0, sd_cat1, sd_rfS, sd_n01, sd_n11, sd_n1, sd_n10, sd_n00, sd_b01, sd_b0, true_and, and_true, and_self, not_true_eq_false, not_false_eq_true, false_implies, true_implies, implies_true, or_true, true_or, or_false, false_or, Option.toList_some, Option.toList_none, List.cons_append, List.nil_append, Nat.reduceAdd, Nat.reduceLeDiff, nz_sub, nz_lt0, nz_ge0, nz_le0, nz_gt0, nz_eq0, nz_eq1, nz_lt, nz_le, nz_eq, nz_cl, nz_in, nz_add, nz_mul, nz_m1, nz_m1', Nat.reduceMul, Nat.reduceSub, Nat.reduceLT, Nat.reduceEqDiff, not_false_eq_true, false_implies, true_implies, true_and, and_true, hn, c1, c2]
  exact hq
theorem c_Str_isLatin1 {Q : Option Value → sd_Mem → Prop} (hi : i < 7) : sd_Call (sd_E1 L xs fm) (d + 1) y_Str_isLatin1 [.ref (410 + i)] σ Q ↔ Q (some (.int (nI 1))) σ := by
  refine sd_Call.iff (fun Q hq => ?_) Q
  rw [sd_Call.start (ls := [.ref (410 + i)]) m_Str_isLatin1 (by decide) (Nat.le_of_ble_eq_true rfl) rfl]
  have c1 : 410 ≤ 410 + i := by omega
  have c2 : 410 + i < 419 := by omega
  simp (disch := first | exact sd_cr | exact sd_ci | exact sd_cu | exact sd_cl9 | assumption | omega) only [z_Str_isLatin1_0, z_Str_isLatin1_3, z_Str_isLatin1_6, z_Str_isLatin1_7, z_Str_isLatin1_10, z_Str_isLatin1_13, z_Str_isLatin1_14, z_Str_isLatin1_17, z_Str_isLatin1_18, false_and, and_false, if_true, if_false, Decidable.not_not, sd_ci, sd_cr, sd_cl9, sd_cu, sd_cat0, sd_cat1, sd_rfS, sd_n01, sd_n11, sd_n1, sd_n10, sd_n00, sd_b01, sd_b0, true_and, and_true, and_self, not_true_eq_false, not_false_eq_true, false_implies, true_implies, implies_true, or_true, true_or, or_false, false_or, Option.toList_some, Option.toList_none, List.cons_append, List.nil_append, Nat.reduceAdd, Nat.reduceLeDiff, nz_sub, nz_lt0, nz_ge0, nz_le0, nz_gt0, nz_eq0, nz_eq1, nz_lt, nz_le, nz_eq, nz_cl, nz_in, nz_add, nz_mul, nz_m1, nz_m1', Nat.reduceMul, Nat.reduceSub, Nat.reduceLT, Nat.reduceEqDiff, not_false_eq_true, false_implies, true_implies, true_and, and_true, c1, c2]
  exact hq
theorem c_Str_length {Q : Option Value → sd_Mem → Prop} (hi : i < 7) : sd_Call (sd_E1 L xs fm) (d + 2) y_Str_length [.ref (410 + i)] σ Q ↔ Q (some (.int (nI (tx_n i)))) σ := by
  refine sd_Call.iff (fun Q hq => ?_) Q
  rw [sd_Call.start (ls := [.ref (410 + i)]) m_Str_length (by decide) (Nat.le_of_ble_eq_true rfl) rfl]
  have c1 : 410 ≤ 410 + i := by omega
  have c2 : 410 + i < 419 := by omega
  have c3 : 430 ≤ 410 + i + 20 := by omega
  have c4 : 410 + i + 20 < 439 := by omega
  have c0 : 410 ≤ 410 + i ∧ 410 + i < 419 := ⟨c1, c2⟩
  have h9 := tx_9 i hi
  have hE := tx_E (L := L) (xs := xs) (fm := fm) hi
  have he : 410 + i + 20 - 430 = i := by omega
  have h4 := tx_e4 i hi
  have hs : nI (tx_n i) >>> (nI 0 &&& 31) = nI (tx_n i) := (nz_shr (by omega) (by decide)).trans (by rw [Nat.pow_zero, Nat.div_one])
  simp (disch := first | exact sd_cr | exact sd_ci | exact sd_cu | exact sd_cl9 | assumption | omega) only [z_Str_length_0, z_Str_length_1, z_Str_length_4, zs_Str_length_4, z_Str_length_5, z_Str_length_6, z_Str_length_9, z_Str_length_10, false_and, and_false, if_true, if_false, Decidable.not_not, sd_ci, sd_cr, sd_cl9, sd_cu, sd_cat0, sd_cat1, sd_rfS, sd_n01, sd_n11, sd_n1, sd_n10, sd_n00, sd_b01, sd_b0, true_and, and_true, and_self, not_true_eq_false, not_false_eq_true, false_implies, true_implies, implies_true, or_true, true_or, or_false, false_or, Option.toList_some, Option.toList_none, List.cons_append, List.nil_append, Nat.reduceAdd, Nat.reduceLeDiff, nz_sub, nz_lt0, nz_ge0, nz_le0, nz_gt0, nz_eq0, nz_eq1, nz_lt, nz_le, nz_eq, nz_cl, nz_in, nz_add, nz_mul, nz_m1, nz_m1', Nat.reduceMul, Nat.reduceSub, Nat.reduceLT, Nat.reduceEqDiff, not_false_eq_true, false_implies, true_implies, true_and, and_true, c1, c2, c3, c4, he, tx_e1 i hi, c_Str_coder hi, hs]
  exact hq
theorem c_Lat_canEncode {Q : Option Value → sd_Mem → Prop} {m : Nat} (hm : m < 256) : sd_Call (sd_E1 L xs fm) (d + 1) y_Lat_canEncode [.int (nI m)] σ Q ↔ Q (some (.int (nI 1))) σ := by
  refine sd_Call.iff (fun Q hq => ?_) Q
  rw [sd_Call.start (ls := [.int (nI m)]) m_Lat_canEncode (by decide) (Nat.le_of_ble_eq_true rfl) rfl]
  have c1 : ¬ 255 < m := by omega
  simp (disch := first | exact sd_cr | exact sd_ci | exact sd_cu | exact sd_cl9 | assumption | omega) only [z_Lat_canEncode_0, z_Lat_canEncode_1, z_Lat_canEncode_4, z_Lat_canEncode_5, z_Lat_canEncode_8, z_Lat_canEncode_11, z_Lat_canEncode_12, z_Lat_canEncode_15, z_Lat_canEncode_16, false_and, and_false, if_true, if_false, Decidable.not_not, sd_ci, sd_cr, sd_cl9, sd_cu, sd_cat0, sd_cat1, sd_rfS, sd_n01, sd_n11, sd_n1, sd_n10, sd_n00, sd_b01, sd_b0, true_and, and_true, and_self, not_true_eq_false, not_false_eq_true, false_implies, true_implies, implies_true, or_true, true_or, or_false, false_or, Option.toList_some, Option.toList_none, List.cons_append, List.nil_append, Nat.reduceAdd, Nat.reduceLeDiff, nz_sub, nz_lt0, nz_ge0, nz_le0, nz_gt0, nz_eq0, nz_eq1, nz_lt, nz_le, nz_eq, nz_cl, nz_in, nz_add, nz_mul, nz_m1, nz_m1', Nat.reduceMul, Nat.reduceSub, Nat.reduceLT, Nat.reduceEqDiff, not_false_eq_true, false_implies, true_implies, true_and, and_true, c1]
  exact hq
theorem c_Str_checkIndex {Q : Option Value → sd_Mem → Prop} {k n : Nat} (hk : k < n) (hn : n < 1000) : sd_Call (sd_E1 L xs fm) (d + 2) y_Str_checkIndex [.int (nI k), .int (nI n)] σ Q ↔ Q none σ := by
  refine sd_Call.iff (fun Q hq => ?_) Q
  have cp : ∀ (x : Option Nat) Q, sd_Call (sd_E1 L xs fm) (d + 1) y_Pre_checkIndex [.int (nI k), .int (nI n), va_rf x] σ Q ↔ Q (some (.int (nI k))) σ := by
    intro x Q
    refine sd_Call.iff (fun Q hq => ?_) Q
    cases x with
    | none =>
      rw [sd_Call.start (ls := [.int (nI k), .int (nI n), va_rf none]) m_Pre_checkIndex (by decide) (Nat.le_of_ble_eq_true rfl) rfl]
      simp (disch := first | exact sd_cr | exact sd_ci | exact sd_cu | exact sd_cl9 | assumption | omega) only [z_Pre_checkIndex_0, z_Pre_checkIndex_1, z_Pre_checkIndex_4, z_Pre_checkIndex_5, z_Pre_checkIndex_6, z_Pre_checkIndex_9, z_Pre_checkIndex_10, z_Pre_checkIndex_11, z_Pre_checkIndex_16, z_Pre_checkIndex_17, false_and, and_false, if_true, if_false, Decidable.not_not, sd_ci, sd_cr, sd_cl9, sd_cu, sd_cat0, sd_cat1, sd_rfS, sd_n01, sd_n11, sd_n1, sd_n10, sd_n00, sd_b01, sd_b0, true_and, and_true, and_self, not_true_eq_false, not_false_eq_true, false_implies, true_implies, implies_true, or_true, true_or, or_false, false_or, Option.toList_some, Option.toList_none, List.cons_append, List.nil_append, Nat.reduceAdd, Nat.reduceLeDiff, nz_sub, nz_lt0, nz_ge0, nz_le0, nz_gt0, nz_eq0, nz_eq1, nz_lt, nz_le, nz_eq, nz_cl, nz_in, nz_add, nz_mul, nz_m1, nz_m1', Nat.reduceMul, Nat.reduceSub, Nat.reduceLT, Nat.reduceEqDiff, not_false_eq_true, false_implies, true_implies, true_and, and_true, hk]
      exact hq
    | some x =>
      rw [sd_Call.start (ls := [.int (nI k), .int (nI n), va_rf (some x)]) m_Pre_checkIndex (by decide) (Nat.le_of_ble_eq_true rfl) rfl]
      simp (disch := first | exact sd_cr | exact sd_ci | exact sd_cu | exact sd_cl9 | assumption | omega) only [z_Pre_checkIndex_0, z_Pre_checkIndex_1, z_Pre_checkIndex_4, z_Pre_checkIndex_5, z_Pre_checkIndex_6, z_Pre_checkIndex_9, z_Pre_checkIndex_10, z_Pre_checkIndex_11, z_Pre_checkIndex_16, z_Pre_checkIndex_17, false_and, and_false, if_true, if_false, Decidable.not_not, sd_ci, sd_cr, sd_cl9, sd_cu, sd_cat0, sd_cat1, sd_rfS, sd_n01, sd_n11, sd_n1, sd_n10, sd_n00, sd_b01, sd_b0, true_and, and_true, and_self, not_true_eq_false, not_false_eq_true, false_implies, true_implies, implies_true, or_true, true_or, or_false, false_or, Option.toList_some, Option.toList_none, List.cons_append, List.nil_append, Nat.reduceAdd, Nat.reduceLeDiff, nz_sub, nz_lt0, nz_ge0, nz_le0, nz_gt0, nz_eq0, nz_eq1, nz_lt, nz_le, nz_eq, nz_cl, nz_in, nz_add, nz_mul, nz_m1, nz_m1', Nat.reduceMul, Nat.reduceSub, Nat.reduceLT, Nat.reduceEqDiff, not_false_eq_true, false_implies, true_implies, true_and, and_true, hk]
      exact hq
  rw [sd_Call.start (ls := [.int (nI k), .int (nI n)]) m_Str_checkIndex (by decide) (Nat.le_of_ble_eq_true rfl) rfl]
  simp (disch := first | exact sd_cr | exact sd_ci | exact sd_cu | exact sd_cl9 | assumption | omega) only [z_Str_checkIndex_0, z_Str_checkIndex_1, z_Str_checkIndex_2, z_Str_checkIndex_5, z_Str_checkIndex_8, z_Str_checkIndex_9, false_and, and_false, if_true, if_false, Decidable.not_not, sd_ci, sd_cr, sd_cl9, sd_cu, sd_cat0, sd_cat1, sd_rfS, sd_n01, sd_n11, sd_n1, sd_n10, sd_n00, sd_b01, sd_b0, true_and, and_true, and_self, not_true_eq_false, not_false_eq_true, false_implies, true_implies, implies_true, or_true, true_or, or_false, false_or, Option.toList_some, Option.toList_none, List.cons_append, List.nil_append, Nat.reduceAdd, Nat.reduceLeDiff, nz_sub, nz_lt0, nz_ge0, nz_le0, nz_gt0, nz_eq0, nz_eq1, nz_lt, nz_le, nz_eq, nz_cl, nz_in, nz_add, nz_mul, nz_m1, nz_m1', Nat.reduceMul, Nat.reduceSub, Nat.reduceLT, Nat.reduceEqDiff, not_false_eq_true, false_implies, true_implies, true_and, and_true, cp]
  exact hq
theorem c_Lat_charAt {Q : Option Value → sd_Mem → Prop} {k : Nat} (hi : i < 7) (hk : k < tx_n i) : sd_Call (sd_E1 L xs fm) (d + 3) y_Lat_charAt [.ref (410 + i + 20), .int (nI k)] σ Q ↔ Q (some (.int (nI (tx_b i k)))) σ := by
  refine sd_Call.iff (fun Q hq => ?_) Q
  rw [sd_Call.start (ls := [.ref (410 + i + 20), .int (nI k)]) m_Lat_charAt (by decide) (Nat.le_of_ble_eq_true rfl) rfl]
  have c3 : 430 ≤ 410 + i + 20 := by omega
  have c4 : 410 + i + 20 < 439 := by omega
  have h9 := tx_9 i hi
  have hE := tx_E (L := L) (xs := xs) (fm := fm) hi
  have he : 410 + i + 20 - 430 = i := by omega
  have h4 := tx_e4 i hi
  have h3 := tx_e3 i hi k hk
  have h5 : ¬ tx_n i ≤ k := by omega
  have hn : narrow .char (.int (nI (tx_b i k))) = .int (nI (tx_b i k)) := congrArg Value.int (tx_d _ h3)
  simp (disch := first | exact sd_cr | exact sd_ci | exact sd_cu | exact sd_cl9 | assumption | omega) only [z_Lat_charAt_0, z_Lat_charAt_1, z_Lat_charAt_2, zs_Lat_charAt_2, z_Lat_charAt_3, z_Lat_charAt_6, z_Lat_charAt_7, z_Lat_charAt_8, zx_Lat_charAt_8, z_Lat_charAt_9, z_Lat_charAt_12, z_Lat_charAt_13, z_Lat_charAt_14, false_and, and_false, if_true, if_false, Decidable.not_not, sd_ci, sd_cr, sd_cl9, sd_cu, sd_cat0, sd_cat1, sd_rfS, sd_n01, sd_n11, sd_n1, sd_n10, sd_n00, sd_b01, sd_b0, true_and, and_true, and_self, not_true_eq_false, not_false_eq_true, false_implies, true_implies, implies_true, or_true, true_or, or_false, false_or, Option.toList_some, Option.toList_none, List.cons_append, List.nil_append, Nat.reduceAdd, Nat.reduceLeDiff, nz_sub, nz_lt0, nz_ge0, nz_le0, nz_gt0, nz_eq0, nz_eq1, nz_lt, nz_le, nz_eq, nz_cl, nz_in, nz_add, nz_mul, nz_m1, nz_m1', Nat.reduceMul, Nat.reduceSub, Nat.reduceLT, Nat.reduceEqDiff, not_false_eq_true, false_implies, true_implies, true_and, and_true, c3, c4, he, tx_e1 i hi, tx_e2 i hi k hk, c_Str_checkIndex, h5, tx_a _ h3, tx_c _ h3, hn]
  exact hq
theorem c_Str_charAt {Q : Option Value → sd_Mem → Prop} {k : Nat} (hi : i < 7) (hk : k < tx_n i) : sd_Call (sd_E1 L xs fm) (d + 4) y_Str_charAt [.ref (410 + i), .int (nI k)] σ Q ↔ Q (some (.int (nI (tx_b i k)))) σ := by
  refine sd_Call.iff (fun Q hq => ?_) Q
  rw [sd_Call.start (ls := [.ref (410 + i), .int (nI k)]) m_Str_charAt (by decide) (Nat.le_of_ble_eq_true rfl) rfl]
  have c1 : 410 ≤ 410 + i := by omega
  have c2 : 410 + i < 419 := by omega
  have c0 : 410 ≤ 410 + i ∧ 410 + i < 419 := ⟨c1, c2⟩
  have h3 := tx_e3 i hi k hk
  have hn : narrow .char (.int (nI (tx_b i k))) = .int (nI (tx_b i k)) := congrArg Value.int (tx_d _ h3)
  simp (disch := first | exact sd_cr | exact sd_ci | exact sd_cu | exact sd_cl9 | assumption | omega) only [z_Str_charAt_0, z_Str_charAt_1, z_Str_charAt_4, z_Str_charAt_7, z_Str_charAt_8, z_Str_charAt_11, z_Str_charAt_12, z_Str_charAt_15, z_Str_charAt_16, z_Str_charAt_17, z_Str_charAt_20, z_Str_charAt_21, z_Str_charAt_24, false_and, and_false, if_true, if_false, Decidable.not_not, sd_ci, sd_cr, sd_cl9, sd_cu, sd_cat0, sd_cat1, sd_rfS, sd_n01, sd_n11, sd_n1, sd_n10, sd_n00, sd_b01, sd_b0, true_and, and_true, and_self, not_true_eq_false, not_false_eq_true, false_implies, true_implies, implies_true, or_true, true_or, or_false, false_or, Option.toList_some, Option.toList_none, List.cons_append, List.nil_append, Nat.reduceAdd, Nat.reduceLeDiff, nz_sub, nz_lt0, nz_ge0, nz_le0, nz_gt0, nz_eq0, nz_eq1, nz_lt, nz_le, nz_eq, nz_cl, nz_in, nz_add, nz_mul, nz_m1, nz_m1', Nat.reduceMul, Nat.reduceSub, Nat.reduceLT, Nat.reduceEqDiff, not_false_eq_true, false_implies, true_implies, true_and, and_true, c1, c2, c_Str_isLatin1 hi, c_Lat_charAt hi hk, hn]
  exact hq
theorem c_Lat_indexOfChar {Q : Option Value → sd_Mem → Prop} {m : Nat} (hi : i < 7) (hm : m < 256) : sd_Call (sd_E1 L xs fm) (d + 1) y_Lat_indexOfChar [.ref (410 + i + 20), .int (nI m), .int (nI 0), .int (nI (tx_n i))] σ Q ↔ Q (some (.int (rw_fv (tx_x i (nI m))))) σ := by
  refine sd_Call.iff (fun Q hq => ?_) Q
  have c3 : 430 ≤ 410 + i + 20 := by omega
  have c4 : 410 + i + 20 < 439 := by omega
  have h9 := tx_9 i hi
  have he : 410 + i + 20 - 430 = i := by omega
  have h4 := tx_e4 i hi
  have key : ∀ f k, f + k = tx_n i → Q (some (.int (rw_fv (tx_f i (nI m) f k)))) σ → sd_Go (sd_E1 L xs fm) d y_Lat_indexOfChar 7 [.ref (410 + i + 20), .int (nI m), .int (nI 0), .int (nI (tx_n i)), .int (nI m).toInt8.toInt32, .int (nI k)] [] σ Q := by
    intro f
    induction f with
    | zero =>
      intro k hk hq
      have h5 : tx_n i ≤ k := by omega
      simp (disch := first | exact sd_cr | exact sd_ci | exact sd_cu | exact sd_cl9 | assumption | omega) only [z_Lat_indexOfChar_7, z_Lat_indexOfChar_9, z_Lat_indexOfChar_10, z_Lat_indexOfChar_31, z_Lat_indexOfChar_32, false_and, and_false, if_true, if_false, Decidable.not_not, sd_ci, sd_cr, sd_cl9, sd_cu, sd_cat0, sd_cat1, sd_rfS, sd_n01, sd_n11, sd_n1, sd_n10, sd_n00, sd_b01, sd_b0, true_and, and_true, and_self, not_true_eq_false, not_false_eq_true, false_implies, true_implies, implies_true, or_true, true_or, or_false, false_or, Option.toList_some, Option.toList_none, List.cons_append, List.nil_append, Nat.reduceAdd, Nat.reduceLeDiff, nz_sub, nz_lt0, nz_ge0, nz_le0, nz_gt0, nz_eq0, nz_eq1, nz_lt, nz_le, nz_eq, nz_cl, nz_in, nz_add, nz_mul, nz_m1, nz_m1', Nat.reduceMul, Nat.reduceSub, Nat.reduceLT, Nat.reduceEqDiff, not_false_eq_true, false_implies, true_implies, true_and, and_true, h5]
      exact hq
    | succ f ih =>
      intro k hk hq
      have h5 : ¬ tx_n i ≤ k := by omega
      have h3 := tx_e3 i hi k (by omega)
      have hs := tx_s1 _ h3 m hm
      rw [tx_f] at hq
      by_cases q : tx_b i k = m
      · rw [if_pos (by rw [q])] at hq
        have hs1 : (nI (tx_b i k) = (nI m).toInt8.toInt32) = True := eq_true (hs.mpr q)
        simp (disch := first | exact sd_cr | exact sd_ci | exact sd_cu | exact sd_cl9 | assumption | omega) only [z_Lat_indexOfChar_7, z_Lat_indexOfChar_9, z_Lat_indexOfChar_10, z_Lat_indexOfChar_13, z_Lat_indexOfChar_14, z_Lat_indexOfChar_16, zx_Lat_indexOfChar_16, z_Lat_indexOfChar_17, z_Lat_indexOfChar_19, z_Lat_indexOfChar_22, z_Lat_indexOfChar_24, false_and, and_false, if_true, if_false, Decidable.not_not, sd_ci, sd_cr, sd_cl9, sd_cu, sd_cat0, sd_cat1, sd_rfS, sd_n01, sd_n11, sd_n1, sd_n10, sd_n00, sd_b01, sd_b0, true_and, and_true, and_self, not_true_eq_false, not_false_eq_true, false_implies, true_implies, implies_true, or_true, true_or, or_false, false_or, Option.toList_some, Option.toList_none, List.cons_append, List.nil_append, Nat.reduceAdd, Nat.reduceLeDiff, nz_sub, nz_lt0, nz_ge0, nz_le0, nz_gt0, nz_eq0, nz_eq1, nz_lt, nz_le, nz_eq, nz_cl, nz_in, nz_add, nz_mul, nz_m1, nz_m1', Nat.reduceMul, Nat.reduceSub, Nat.reduceLT, Nat.reduceEqDiff, not_false_eq_true, false_implies, true_implies, true_and, and_true, h5, c3, c4, he, tx_e1 i hi, tx_e2 i hi k (by omega), hs1]
        exact hq
      · rw [if_neg (fun r => q ((nz_eq (by omega) (by omega)).mp r))] at hq
        have nx := ih (k + 1) (by omega) hq
        rw [z_Lat_indexOfChar_7]
        simp (disch := first | exact sd_cr | exact sd_ci | exact sd_cu | exact sd_cl9 | assumption | omega) only [z_Lat_indexOfChar_9, z_Lat_indexOfChar_10, z_Lat_indexOfChar_13, z_Lat_indexOfChar_14, z_Lat_indexOfChar_16, zx_Lat_indexOfChar_16, z_Lat_indexOfChar_17, z_Lat_indexOfChar_19, z_Lat_indexOfChar_22, z_Lat_indexOfChar_24, z_Lat_indexOfChar_25, z_Lat_indexOfChar_28, false_and, and_false, if_true, if_false, Decidable.not_not, sd_ci, sd_cr, sd_cl9, sd_cu, sd_cat0, sd_cat1, sd_rfS, sd_n01, sd_n11, sd_n1, sd_n10, sd_n00, sd_b01, sd_b0, true_and, and_true, and_self, not_true_eq_false, not_false_eq_true, false_implies, true_implies, implies_true, or_true, true_or, or_false, false_or, Option.toList_some, Option.toList_none, List.cons_append, List.nil_append, Nat.reduceAdd, Nat.reduceLeDiff, nz_sub, nz_lt0, nz_ge0, nz_le0, nz_gt0, nz_eq0, nz_eq1, nz_lt, nz_le, nz_eq, nz_cl, nz_in, nz_add, nz_mul, nz_m1, nz_m1', Nat.reduceMul, Nat.reduceSub, Nat.reduceLT, Nat.reduceEqDiff, not_false_eq_true, false_implies, true_implies, true_and, and_true, h5, c3, c4, he, tx_e1 i hi, tx_e2 i hi k (by omega), hs, q]
        exact nx
  rw [sd_Call.start (ls := [.ref (410 + i + 20), .int (nI m), .int (nI 0), .int (nI (tx_n i)), sd_un, sd_un]) m_Lat_indexOfChar (by decide) (Nat.le_of_ble_eq_true rfl) rfl]
  simp (disch := first | exact sd_cr | exact sd_ci | exact sd_cu | exact sd_cl9 | assumption | omega) only [z_Lat_indexOfChar_0, z_Lat_indexOfChar_1, z_Lat_indexOfChar_2, z_Lat_indexOfChar_4, z_Lat_indexOfChar_5, false_and, and_false, if_true, if_false, Decidable.not_not, sd_ci, sd_cr, sd_cl9, sd_cu, sd_cat0, sd_cat1, sd_rfS, sd_n01, sd_n11, sd_n1, sd_n10, sd_n00, sd_b01, sd_b0, true_and, and_true, and_self, not_true_eq_false, not_false_eq_true, false_implies, true_implies, implies_true, or_true, true_or, or_false, false_or, Option.toList_some, Option.toList_none, List.cons_append, List.nil_append, Nat.reduceAdd, Nat.reduceLeDiff]
  exact key _ 0 rfl hq
theorem tx_pos : ∀ i, i < 7 → 0 < tx_n i := by decide +kernel
theorem c_Lat_indexOf {Q : Option Value → sd_Mem → Prop} {m : Nat} (hi : i < 7) (hm : m < 256) : sd_Call (sd_E1 L xs fm) (d + 2) y_Lat_indexOf [.ref (410 + i + 20), .int (nI m), .int (nI 0), .int (nI (tx_n i))] σ Q ↔ Q (some (.int (rw_fv (tx_x i (nI m))))) σ := by
  refine sd_Call.iff (fun Q hq => ?_) Q
  have c3 : 430 ≤ 410 + i + 20 := by omega
  have c4 : 410 + i + 20 < 439 := by omega
  have h9 := tx_9 i hi
  have hE := tx_E (L := L) (xs := xs) (fm := fm) hi
  have he : 410 + i + 20 - 430 = i := by omega
  have h4 := tx_e4 i hi
  have h0 := tx_pos i hi
  have e1 : (if nI 0 < nI 0 then nI 0 else nI 0) = nI 0 := by decide
  have e2 : (if nI (tx_n i) < nI (tx_n i) then nI (tx_n i) else nI (tx_n i)) = nI (tx_n i) := by split <;> rfl
  rw [sd_Call.start (ls := [.ref (410 + i + 20), .int (nI m), .int (nI 0), .int (nI (tx_n i))]) m_Lat_indexOf (by decide) (Nat.le_of_ble_eq_true rfl) rfl]
  simp (disch := first | exact sd_cr | exact sd_ci | exact sd_cu | exact sd_cl9 | assumption | omega) only [z_Lat_indexOf_0, z_Lat_indexOf_1, z_Lat_indexOf_4, z_Lat_indexOf_7, z_Lat_indexOf_8, z_Lat_indexOf_9, z_Lat_indexOf_10, z_Lat_indexOf_11, z_Lat_indexOf_14, z_Lat_indexOf_15, z_Lat_indexOf_16, z_Lat_indexOf_17, zs_Lat_indexOf_17, false_and, and_false, if_true, if_false, Decidable.not_not, sd_ci, sd_cr, sd_cl9, sd_cu, sd_cat0, sd_cat1, sd_rfS, sd_n01, sd_n11, sd_n1, sd_n10, sd_n00, sd_b01, sd_b0, true_and, and_true, and_self, not_true_eq_false, not_false_eq_true, false_implies, true_implies, implies_true, or_true, true_or, or_false, false_or, Option.toList_some, Option.toList_none, List.cons_append, List.nil_append, Nat.reduceAdd, Nat.reduceLeDiff, c_Lat_canEncode, e1, c3, c4, he, tx_e1 i hi, nz_eq0, Nat.reduceEqDiff]
  simp (disch := first | exact sd_cr | exact sd_ci | exact sd_cu | exact sd_cl9 | assumption | omega) only [z_Lat_indexOf_18, z_Lat_indexOf_21, z_Lat_indexOf_22, z_Lat_indexOf_23, z_Lat_indexOf_24, z_Lat_indexOf_27, z_Lat_indexOf_28, z_Lat_indexOf_29, z_Lat_indexOf_30, z_Lat_indexOf_31, z_Lat_indexOf_32, z_Lat_indexOf_33, z_Lat_indexOf_36, false_and, and_false, if_true, if_false, Decidable.not_not, sd_ci, sd_cr, sd_cl9, sd_cu, sd_cat0, sd_cat1, sd_rfS, sd_n01, sd_n11, sd_n1, sd_n10, sd_n00, sd_b01, sd_b0, true_and, and_true, and_self, not_true_eq_false, not_false_eq_true, false_implies, true_implies, implies_true, or_true, true_or, or_false, false_or, Option.toList_some, Option.toList_none, List.cons_append, List.nil_append, Nat.reduceAdd, Nat.reduceLeDiff, nz_sub, nz_lt0, nz_ge0, nz_le0, nz_gt0, nz_eq0, nz_eq1, nz_lt, nz_le, nz_eq, nz_cl, nz_in, nz_add, nz_mul, nz_m1, nz_m1', Nat.reduceMul, Nat.reduceSub, Nat.reduceLT, Nat.reduceEqDiff, not_false_eq_true, false_implies, true_implies, true_and, and_true, Nat.lt_irrefl, e2, h0, c_Lat_indexOfChar hi hm]
  exact hq
theorem c_Str_indexOf {Q : Option Value → sd_Mem → Prop} {m : Nat} (hi : i < 7) (hm : m < 256) : sd_Call (sd_E1 L xs fm) (d + 4) y_Str_indexOf [.ref (410 + i), .int (nI m)] σ Q ↔ Q (some (.int (rw_fv (tx_x i (nI m))))) σ := by
  refine sd_Call.iff (fun Q hq => ?_) Q
  have c1 : 410 ≤ 410 + i := by omega
  have c2 : 410 + i < 419 := by omega
  have c0 : 410 ≤ 410 + i ∧ 410 + i < 419 := ⟨c1, c2⟩
  have c5 : ∀ Q, sd_Call (sd_E1 L xs fm) (d + 3) y_Str_indexOf_2 [.ref (410 + i), .int (nI m), .int (nI 0)] σ Q ↔ Q (some (.int (rw_fv (tx_x i (nI m))))) σ := by
    intro Q
    refine sd_Call.iff (fun Q hq => ?_) Q
    rw [sd_Call.start (ls := [.ref (410 + i), .int (nI m), .int (nI 0)]) m_Str_indexOf_2 (by decide) (Nat.le_of_ble_eq_true rfl) rfl]
    simp (disch := first | exact sd_cr | exact sd_ci | exact sd_cu | exact sd_cl9 | assumption | omega) only [z_Str_indexOf_2_0, z_Str_indexOf_2_1, z_Str_indexOf_2_4, z_Str_indexOf_2_7, z_Str_indexOf_2_8, z_Str_indexOf_2_11, z_Str_indexOf_2_12, z_Str_indexOf_2_13, z_Str_indexOf_2_14, z_Str_indexOf_2_17, z_Str_indexOf_2_20, z_Str_indexOf_2_23, z_Str_indexOf_2_24, z_Str_indexOf_2_27, z_Str_indexOf_2_28, z_Str_indexOf_2_29, z_Str_indexOf_2_30, z_Str_indexOf_2_33, z_Str_indexOf_2_36, false_and, and_false, if_true, if_false, Decidable.not_not, sd_ci, sd_cr, sd_cl9, sd_cu, sd_cat0, sd_cat1, sd_rfS, sd_n01, sd_n11, sd_n1, sd_n10, sd_n00, sd_b01, sd_b0, true_and, and_true, and_self, not_true_eq_false, not_false_eq_true, false_implies, true_implies, implies_true, or_true, true_or, or_false, false_or, Option.toList_some, Option.toList_none, List.cons_append, List.nil_append, Nat.reduceAdd, Nat.reduceLeDiff, nz_sub, nz_lt0, nz_ge0, nz_le0, nz_gt0, nz_eq0, nz_eq1, nz_lt, nz_le, nz_eq, nz_cl, nz_in, nz_add, nz_mul, nz_m1, nz_m1', Nat.reduceMul, Nat.reduceSub, Nat.reduceLT, Nat.reduceEqDiff, not_false_eq_true, false_implies, true_implies, true_and, and_true, c1, c2, c_Str_isLatin1 hi, c_Str_length hi, c_Lat_indexOf hi hm]
    exact hq
  rw [sd_Call.start (ls := [.ref (410 + i), .int (nI m)]) m_Str_indexOf (by decide) (Nat.le_of_ble_eq_true rfl) rfl]
  simp (disch := first | exact sd_cr | exact sd_ci | exact sd_cu | exact sd_cl9 | assumption | omega) only [z_Str_indexOf_0, z_Str_indexOf_1, z_Str_indexOf_2, z_Str_indexOf_3, z_Str_indexOf_6, false_and, and_false, if_true, if_false, Decidable.not_not, sd_ci, sd_cr, sd_cl9, sd_cu, sd_cat0, sd_cat1, sd_rfS, sd_n01, sd_n11, sd_n1, sd_n10, sd_n00, sd_b01, sd_b0, true_and, and_true, and_self, not_true_eq_false, not_false_eq_true, false_implies, true_implies, implies_true, or_true, true_or, or_false, false_or, Option.toList_some, Option.toList_none, List.cons_append, List.nil_append, Nat.reduceAdd, Nat.reduceLeDiff, nz_sub, nz_lt0, nz_ge0, nz_le0, nz_gt0, nz_eq0, nz_eq1, nz_lt, nz_le, nz_eq, nz_cl, nz_in, nz_add, nz_mul, nz_m1, nz_m1', Nat.reduceMul, Nat.reduceSub, Nat.reduceLT, Nat.reduceEqDiff, not_false_eq_true, false_implies, true_implies, true_and, and_true, c5]
  exact hq
/-- in the reference -/
theorem c_M_isAmong {Q : Option Value → sd_Mem → Prop} {v : Int32} (hi : i < 7) : sd_Call (sd_E1 L xs fm) (d + 5) y_M_isAmong [.ref (410 + i), .int v] σ Q ↔ Q (some (.int (sd_b ((tx_x i v).isSome = true)))) σ := by
  refine sd_Call.iff (fun Q hq => ?_) Q
  have c1 : 410 ≤ 410 + i := by omega
  have c2 : 410 + i < 419 := by omega
  have c0 : 410 ≤ 410 + i ∧ 410 + i < 419 := ⟨c1, c2⟩
  have h4 := tx_e4 i hi
  have key : ∀ f k, f + k = tx_n i → Q (some (.int (sd_b ((tx_f i v f k).isSome = true)))) σ → sd_Go (sd_E1 L xs fm) (d + 4) y_M_isAmong 2 [.ref (410 + i), .int v, .int (nI k)] [] σ Q := by
    intro f
    induction f with
    | zero =>
      intro k hk hq
      have h5 : tx_n i ≤ k := by omega
      simp (disch := first | exact sd_cr | exact sd_ci | exact sd_cu | exact sd_cl9 | assumption | omega) only [z_M_isAmong_2, z_M_isAmong_3, z_M_isAmong_4, z_M_isAmong_7, z_M_isAmong_27, z_M_isAmong_28, false_and, and_false, if_true, if_false, Decidable.not_not, sd_ci, sd_cr, sd_cl9, sd_cu, sd_cat0, sd_cat1, sd_rfS, sd_n01, sd_n11, sd_n1, sd_n10, sd_n00, sd_b01, sd_b0, true_and, and_true, and_self, not_true_eq_false, not_false_eq_true, false_implies, true_implies, implies_true, or_true, true_or, or_false, false_or, Option.toList_some, Option.toList_none, List.cons_append, List.nil_append, Nat.reduceAdd, Nat.reduceLeDiff, nz_sub, nz_lt0, nz_ge0, nz_le0, nz_gt0, nz_eq0, nz_eq1, nz_lt, nz_le, nz_eq, nz_cl, nz_in, nz_add, nz_mul, nz_m1, nz_m1', Nat.reduceMul, Nat.reduceSub, Nat.reduceLT, Nat.reduceEqDiff, not_false_eq_true, false_implies, true_implies, true_and, and_true, h5, c_Str_length hi]
      exact hq
    | succ f ih =>
      intro k hk hq
      have h5 : ¬ tx_n i ≤ k := by omega
      rw [tx_f] at hq
      by_cases q : nI (tx_b i k) = v
      · rw [if_pos q] at hq
        simp (disch := first | exact sd_cr | exact sd_ci | exact sd_cu | exact sd_cl9 | assumption | omega) only [z_M_isAmong_2, z_M_isAmong_3, z_M_isAmong_4, z_M_isAmong_7, z_M_isAmong_10, z_M_isAmong_11, z_M_isAmong_12, z_M_isAmong_15, z_M_isAmong_16, z_M_isAmong_19, z_M_isAmong_20, false_and, and_false, if_true, if_false, Decidable.not_not, sd_ci, sd_cr, sd_cl9, sd_cu, sd_cat0, sd_cat1, sd_rfS, sd_n01, sd_n11, sd_n1, sd_n10, sd_n00, sd_b01, sd_b0, true_and, and_true, and_self, not_true_eq_false, not_false_eq_true, false_implies, true_implies, implies_true, or_true, true_or, or_false, false_or, Option.toList_some, Option.toList_none, List.cons_append, List.nil_append, Nat.reduceAdd, Nat.reduceLeDiff, nz_sub, nz_lt0, nz_ge0, nz_le0, nz_gt0, nz_eq0, nz_eq1, nz_lt, nz_le, nz_eq, nz_cl, nz_in, nz_add, nz_mul, nz_m1, nz_m1', Nat.reduceMul, Nat.reduceSub, Nat.reduceLT, Nat.reduceEqDiff, not_false_eq_true, false_implies, true_implies, true_and, and_true, h5, c_Str_length hi, c_Str_charAt hi (show k < tx_n i by omega), q]
        exact hq
      · rw [if_neg q] at hq
        have nx := ih (k + 1) (by omega) hq
        rw [z_M_isAmong_2]
        simp (disch := first | exact sd_cr | exact sd_ci | exact sd_cu | exact sd_cl9 | assumption | omega) only [z_M_isAmong_3, z_M_isAmong_4, z_M_isAmong_7, z_M_isAmong_10, z_M_isAmong_11, z_M_isAmong_12, z_M_isAmong_15, z_M_isAmong_16, z_M_isAmong_19, z_M_isAmong_20, z_M_isAmong_21, z_M_isAmong_24, false_and, and_false, if_true, if_false, Decidable.not_not, sd_ci, sd_cr, sd_cl9, sd_cu, sd_cat0, sd_cat1, sd_rfS, sd_n01, sd_n11, sd_n1, sd_n10, sd_n00, sd_b01, sd_b0, true_and, and_true, and_self, not_true_eq_false, not_false_eq_true, false_implies, true_implies, implies_true, or_true, true_or, or_false, false_or, Option.toList_some, Option.toList_none, List.cons_append, List.nil_append, Nat.reduceAdd, Nat.reduceLeDiff, nz_sub, nz_lt0, nz_ge0, nz_le0, nz_gt0, nz_eq0, nz_eq1, nz_lt, nz_le, nz_eq, nz_cl, nz_in, nz_add, nz_mul, nz_m1, nz_m1', Nat.reduceMul, Nat.reduceSub, Nat.reduceLT, Nat.reduceEqDiff, not_false_eq_true, false_implies, true_implies, true_and, and_true, h5, c_Str_length hi, c_Str_charAt hi (show k < tx_n i by omega), q]
        exact nx
  rw [sd_Call.start (ls := [.ref (410 + i), .int v, sd_un]) m_M_isAmong (by decide) (Nat.le_of_ble_eq_true rfl) rfl]
  simp (disch := first | exact sd_cr | exact sd_ci | exact sd_cu | exact sd_cl9 | assumption | omega) only [z_M_isAmong_0, z_M_isAmong_1, false_and, and_false, if_true, if_false, Decidable.not_not, sd_ci, sd_cr, sd_cl9, sd_cu, sd_cat0, sd_cat1, sd_rfS, sd_n01, sd_n11, sd_n1, sd_n10, sd_n00, sd_b01, sd_b0, true_and, and_true, and_self, not_true_eq_false, not_false_eq_true, false_implies, true_implies, implies_true, or_true, true_or, or_false, false_or, Option.toList_some, Option.toList_none, List.cons_append, List.nil_append, Nat.reduceAdd, Nat.reduceLeDiff]
  exact key _ 0 rfl hq
theorem c_M_spotOf {Q : Option Value → sd_Mem → Prop} {v : Int32} (hi : i < 7) : sd_Call (sd_E1 L xs fm) (d + 5) y_M_spotOf [.ref (410 + i), .int v] σ Q ↔ Q (some (.int (rw_fv (tx_x i v)))) σ := by
  refine sd_Call.iff (fun Q hq => ?_) Q
  have c1 : 410 ≤ 410 + i := by omega
  have c2 : 410 + i < 419 := by omega
  have c0 : 410 ≤ 410 + i ∧ 410 + i < 419 := ⟨c1, c2⟩
  have h4 := tx_e4 i hi
  have key : ∀ f k, f + k = tx_n i → Q (some (.int (rw_fv (tx_f i v f k)))) σ → sd_Go (sd_E1 L xs fm) (d + 4) y_M_spotOf 2 [.ref (410 + i), .int v, .int (nI k)] [] σ Q := by
    intro f
    induction f with
    | zero =>
      intro k hk hq
      have h5 : tx_n i ≤ k := by omega
      simp (disch := first | exact sd_cr | exact sd_ci | exact sd_cu | exact sd_cl9 | assumption | omega) only [z_M_spotOf_2, z_M_spotOf_3, z_M_spotOf_4, z_M_spotOf_7, z_M_spotOf_27, z_M_spotOf_28, false_and, and_false, if_true, if_false, Decidable.not_not, sd_ci, sd_cr, sd_cl9, sd_cu, sd_cat0, sd_cat1, sd_rfS, sd_n01, sd_n11, sd_n1, sd_n10, sd_n00, sd_b01, sd_b0, true_and, and_true, and_self, not_true_eq_false, not_false_eq_true, false_implies, true_implies, implies_true, or_true, true_or, or_false, false_or, Option.toList_some, Option.toList_none, List.cons_append, List.nil_append, Nat.reduceAdd, Nat.reduceLeDiff, nz_sub, nz_lt0, nz_ge0, nz_le0, nz_gt0, nz_eq0, nz_eq1, nz_lt, nz_le, nz_eq, nz_cl, nz_in, nz_add, nz_mul, nz_m1, nz_m1', Nat.reduceMul, Nat.reduceSub, Nat.reduceLT, Nat.reduceEqDiff, not_false_eq_true, false_implies, true_implies, true_and, and_true, h5, c_Str_length hi]
      exact hq
    | succ f ih =>
      intro k hk hq
      have h5 : ¬ tx_n i ≤ k := by omega
      rw [tx_f] at hq
      by_cases q : nI (tx_b i k) = v
      · rw [if_pos q] at hq
        simp (disch := first | exact sd_cr | exact sd_ci | exact sd_cu | exact sd_cl9 | assumption | omega) only [z_M_spotOf_2, z_M_spotOf_3, z_M_spotOf_4, z_M_spotOf_7, z_M_spotOf_10, z_M_spotOf_11, z_M_spotOf_12, z_M_spotOf_15, z_M_spotOf_16, z_M_spotOf_19, z_M_spotOf_20, false_and, and_false, if_true, if_false, Decidable.not_not, sd_ci, sd_cr, sd_cl9, sd_cu, sd_cat0, sd_cat1, sd_rfS, sd_n01, sd_n11, sd_n1, sd_n10, sd_n00, sd_b01, sd_b0, true_and, and_true, and_self, not_true_eq_false, not_false_eq_true, false_implies, true_implies, implies_true, or_true, true_or, or_false, false_or, Option.toList_some, Option.toList_none, List.cons_append, List.nil_append, Nat.reduceAdd, Nat.reduceLeDiff, nz_sub, nz_lt0, nz_ge0, nz_le0, nz_gt0, nz_eq0, nz_eq1, nz_lt, nz_le, nz_eq, nz_cl, nz_in, nz_add, nz_mul, nz_m1, nz_m1', Nat.reduceMul, Nat.reduceSub, Nat.reduceLT, Nat.reduceEqDiff, not_false_eq_true, false_implies, true_implies, true_and, and_true, h5, c_Str_length hi, c_Str_charAt hi (show k < tx_n i by omega), q]
        exact hq
      · rw [if_neg q] at hq
        have nx := ih (k + 1) (by omega) hq
        rw [z_M_spotOf_2]
        simp (disch := first | exact sd_cr | exact sd_ci | exact sd_cu | exact sd_cl9 | assumption | omega) only [z_M_spotOf_3, z_M_spotOf_4, z_M_spotOf_7, z_M_spotOf_10, z_M_spotOf_11, z_M_spotOf_12, z_M_spotOf_15, z_M_spotOf_16, z_M_spotOf_19, z_M_spotOf_20, z_M_spotOf_21, z_M_spotOf_24, false_and, and_false, if_true, if_false, Decidable.not_not, sd_ci, sd_cr, sd_cl9, sd_cu, sd_cat0, sd_cat1, sd_rfS, sd_n01, sd_n11, sd_n1, sd_n10, sd_n00, sd_b01, sd_b0, true_and, and_true, and_self, not_true_eq_false, not_false_eq_true, false_implies, true_implies, implies_true, or_true, true_or, or_false, false_or, Option.toList_some, Option.toList_none, List.cons_append, List.nil_append, Nat.reduceAdd, Nat.reduceLeDiff, nz_sub, nz_lt0, nz_ge0, nz_le0, nz_gt0, nz_eq0, nz_eq1, nz_lt, nz_le, nz_eq, nz_cl, nz_in, nz_add, nz_mul, nz_m1, nz_m1', Nat.reduceMul, Nat.reduceSub, Nat.reduceLT, Nat.reduceEqDiff, not_false_eq_true, false_implies, true_implies, true_and, and_true, h5, c_Str_length hi, c_Str_charAt hi (show k < tx_n i by omega), q]
        exact nx
  rw [sd_Call.start (ls := [.ref (410 + i), .int v, sd_un]) m_M_spotOf (by decide) (Nat.le_of_ble_eq_true rfl) rfl]
  simp (disch := first | exact sd_cr | exact sd_ci | exact sd_cu | exact sd_cl9 | assumption | omega) only [z_M_spotOf_0, z_M_spotOf_1, false_and, and_false, if_true, if_false, Decidable.not_not, sd_ci, sd_cr, sd_cl9, sd_cu, sd_cat0, sd_cat1, sd_rfS, sd_n01, sd_n11, sd_n1, sd_n10, sd_n00, sd_b01, sd_b0, true_and, and_true, and_self, not_true_eq_false, not_false_eq_true, false_implies, true_implies, implies_true, or_true, true_or, or_false, false_or, Option.toList_some, Option.toList_none, List.cons_append, List.nil_append, Nat.reduceAdd, Nat.reduceLeDiff]
  exact key _ 0 rfl hq
end SDBE
