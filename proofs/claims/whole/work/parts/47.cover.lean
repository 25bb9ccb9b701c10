/-! cover -/
def sw_us (x : Int32) (k : Int32) : Int32 := (x.toUInt32 >>> (k.toUInt32 &&& Int32.toUInt32 31)).toInt32
def sw_bc1 (x : Int32) : Int32 := x - (sw_us x (nI 1) &&& nI 1431655765)
def sw_bc2 (x : Int32) : Int32 := (x &&& nI 858993459) + (sw_us x (nI 2) &&& nI 858993459)
def sw_bc3 (x : Int32) : Int32 := (x + sw_us x (nI 4)) &&& nI 252645135
def sw_bc4 (x : Int32) : Int32 := x + sw_us x (nI 8)
def sw_bc5 (x : Int32) : Int32 := x + sw_us x (nI 16)
def sw_bc (x : Int32) : Int32 := sw_bc5 (sw_bc4 (sw_bc3 (sw_bc2 (sw_bc1 x)))) &&& nI 63
def sw_pc (n : Nat) : Nat := sd_fold (fun i t => if n.testBit i = true then t + 1 else t) 12 0 0
theorem sw_bc_pc0 : ∀ a, a < 64 → ∀ b, b < 64 → sw_bc (nI (64 * a + b)) = nI (sw_pc (64 * a + b)) := by decide +kernel
theorem sw_bc_pc : ∀ n, n < 4096 → sw_bc (nI n) = nI (sw_pc n) := by
  intro n hn
  have := sw_bc_pc0 (n / 64) (by omega) (n % 64) (by omega)
  rw [Nat.div_add_mod] at this
  exact this
theorem sw_pc_le (n : Nat) : sw_pc n ≤ 12 := by
  have := sd_fold_inv (g := fun i t => if n.testBit i = true then t + 1 else t) (fun i t => t ≤ i) 12 0 0 (Nat.le_refl _) (fun j b _ _ h => by split <;> omega)
  exact this
section SD47
variable {L : Nat} {xs : Nat → Int32} {fm : Option Nat} {A W : sw_T} {σ : sd_Mem} {c d : Nat} {Q : Option Value → sd_Mem → Prop}
theorem c_Int_bitCount {n : Nat} (hn : n < 4096) : sd_Call (sd_E1 L xs fm) (d + 1) y_Int_bitCount [.int (nI n)] σ Q ↔ Q (some (.int (nI (sw_pc n)))) σ := by
  refine sd_Call.iff (fun Q hq => ?_) Q
  rw [sd_Call.start (ls := [.int (nI n)]) m_Int_bitCount (by decide) (Nat.le_of_ble_eq_true rfl) rfl]
  simp (disch := first | exact sd_cr | exact sd_ci | exact sd_cu | exact sd_cl9 | assumption | omega) only [z_Int_bitCount_0, z_Int_bitCount_1, z_Int_bitCount_2, z_Int_bitCount_3, z_Int_bitCount_4, z_Int_bitCount_7, z_Int_bitCount_8, z_Int_bitCount_9, z_Int_bitCount_10, z_Int_bitCount_11, z_Int_bitCount_14, z_Int_bitCount_15, z_Int_bitCount_16, z_Int_bitCount_17, z_Int_bitCount_18, z_Int_bitCount_21, z_Int_bitCount_22, z_Int_bitCount_23, z_Int_bitCount_24, z_Int_bitCount_25, z_Int_bitCount_26, z_Int_bitCount_27, z_Int_bitCount_28, z_Int_bitCount_29, z_Int_bitCount_32, z_Int_bitCount_33, z_Int_bitCount_34, z_Int_bitCount_35, z_Int_bitCount_36, z_Int_bitCount_38, z_Int_bitCount_39, z_Int_bitCount_40, z_Int_bitCount_41, z_Int_bitCount_42, z_Int_bitCount_43, z_Int_bitCount_45, z_Int_bitCount_46, z_Int_bitCount_47, z_Int_bitCount_48, z_Int_bitCount_49, z_Int_bitCount_51, z_Int_bitCount_52, false_and, and_false, if_true, if_false, Decidable.not_not, sd_ci, sd_cr, sd_cl9, sd_cu, sd_cat0, sd_cat1, sd_rfS, sd_n01, sd_n11, sd_n1, sd_n10, sd_n00, sd_b01, sd_b0, true_and, and_true, and_self, not_true_eq_false, not_false_eq_true, false_implies, true_implies, implies_true, or_true, true_or, or_false, false_or, Option.toList_some, Option.toList_none, List.cons_append, List.nil_append, Nat.reduceAdd, Nat.reduceLeDiff]
  rw [← sw_bc_pc n hn] at hq
  exact hq
/-- the eyes on p; the places that a set of eyes spans -/
def sw_on (A : sw_T) (p : Nat) : Nat := sd_fold (fun e b => if A 4 e 1 = p then b ||| 2 ^ e else b) (A 5 0 0) 0 0
def sw_spn (A : sw_T) (S : Nat) : Nat := sd_fold (fun e b => if S.testBit e = true then b ||| sw_sp A e else b) (A 5 0 0) 0 0
theorem sw_on_inv (A : sw_T) (p n : Nat) : sd_fold (fun e b => if A 4 e 1 = p then b ||| 2 ^ e else b) n 0 0 < 2 ^ n ∧ ∀ v, (sd_fold (fun e b => if A 4 e 1 = p then b ||| 2 ^ e else b) n 0 0).testBit v = decide (v < n ∧ A 4 v 1 = p) := by
  induction n with
  | zero => exact ⟨Nat.one_pos, fun v => by simp [sd_fold]⟩
  | succ n ih =>
    rw [sd_fold_succ, Nat.zero_add]
    obtain ⟨ih1, ih2⟩ := ih
    have hlt : (2 : Nat) ^ n < 2 ^ (n + 1) := Nat.pow_lt_pow_right (by decide) (by omega)
    split
    · rename_i hc
      refine ⟨Nat.or_lt_two_pow (Nat.lt_trans ih1 hlt) hlt, fun v => ?_⟩
      rw [Nat.testBit_or, ih2, Nat.testBit_two_pow]
      by_cases hv : v = n
      · subst hv; simp [hc]
      · have : (v < n + 1) ↔ v < n := by omega
        simp [this, Ne.symm hv]
    · rename_i hc
      refine ⟨Nat.lt_trans ih1 hlt, fun v => ?_⟩
      rw [ih2]
      by_cases hv : v = n
      · subst hv; simp [hc]
      · have : (v < n + 1) ↔ v < n := by omega
        simp [this]
theorem sw_on_tb (A : sw_T) (p v : Nat) : ((sw_on A p).testBit v = true) ↔ (v < A 5 0 0 ∧ A 4 v 1 = p) := by
  unfold sw_on
  rw [(sw_on_inv A p (A 5 0 0)).2 v, decide_eq_true_iff]
theorem sw_on_lt (A : sw_T) (p : Nat) : sw_on A p < 2 ^ A 5 0 0 := (sw_on_inv A p (A 5 0 0)).1
theorem sw_spn_lt (hA : sw_AK A) (S : Nat) : sw_spn A S < 4096 := by
  have be := hA.2.2.2.2.2.2.1
  have := sd_fold_inv (g := fun e b => if S.testBit e = true then b ||| sw_sp A e else b) (fun n b => n ≤ A 5 0 0 → b < 4096) (A 5 0 0) 0 0 (fun _ => by decide) (by
    intro j b _ hj ih hn
    obtain ⟨e0, e1, e2⟩ := be j (by omega)
    split
    · exact Nat.or_lt_two_pow (n := 12) (ih (by omega)) (sw_sp_lt e1 e2)
    · exact ih (by omega))
  rw [Nat.zero_add] at this
  exact this (Nat.le_refl _)
theorem sw_spn_on (A : sw_T) (p : Nat) : sw_spn A (sw_on A p) = sw_wp A p := by
  unfold sw_spn sw_wp
  refine sd_fold_congr _ _ _ (fun j b h1 h2 => ?_)
  have := sw_on_tb A p j
  by_cases hp : A 4 j 1 = p
  · rw [if_pos (this.mpr ⟨by omega, hp⟩), if_pos hp]
  · rw [if_neg (fun q => hp (this.mp q).2), if_neg hp]
/-- a set of eyes on p alone that spans what they all do -/
def sw_cd (A : sw_T) (p S : Nat) : Bool := decide (S &&& (sw_on A p ^^^ 255) = 0 ∧ sw_spn A S = sw_wp A p)
theorem sw_sub0 {S T : Nat} (hS : S < 256) : (S &&& (T ^^^ 255) = 0) ↔ ∀ i, S.testBit i = true → T.testBit i = true := by
  have hb : ∀ i, (S &&& (T ^^^ 255)).testBit i = (S.testBit i && !T.testBit i) := by
    intro i
    rw [Nat.testBit_and, Nat.testBit_xor, show (255 : Nat) = 2 ^ 8 - 1 from rfl, Nat.testBit_two_pow_sub_one]
    rcases Nat.lt_or_ge i 8 with hi | hi
    · simp [hi]
    · have := Nat.testBit_lt_two_pow (Nat.lt_of_lt_of_le hS (Nat.pow_le_pow_right (n := 2) (by decide) hi))
      rw [this]; simp
  constructor
  · intro h i hi
    have := hb i
    rw [h, hi] at this
    simp at this
    exact this
  · intro h
    apply Nat.eq_of_testBit_eq
    intro i
    rw [hb i, Nat.zero_testBit]
    cases e : S.testBit i with
    | false => rfl
    | true => rw [h i e]; rfl
theorem nz_sub0 {S T : Nat} (hS : S < 256) : nI S &&& (nI T ^^^ -1) = nI (S &&& (T ^^^ 255)) := nz_andnot (fun i hi => by
  rw [Nat.testBit_and, Nat.testBit_xor, show (255 : Nat) = 2 ^ 8 - 1 from rfl, Nat.testBit_two_pow_sub_one]
  rcases Nat.lt_or_ge i 8 with hi | hi
  · simp [hi]
  · have := Nat.testBit_lt_two_pow (Nat.lt_of_lt_of_le hS (Nat.pow_le_pow_right (n := 2) (by decide) hi))
    rw [this]; simp)
def sw_pg (A : sw_T) (p S e b : Nat) : Unit ⊕ Nat := if S.testBit e = true then (if A 4 e 1 = p then .inr (b ||| sw_sp A e) else .inl ()) else .inr b
theorem sw_pg_ef (A : sw_T) (p S : Nat) : ∀ n i b, ((∀ e, i ≤ e → e < i + n → S.testBit e = true → A 4 e 1 = p) → sw_ef (sw_pg A p S) n i b = .inr (sd_fold (fun e b => if S.testBit e = true then b ||| sw_sp A e else b) n i b)) ∧ (¬ (∀ e, i ≤ e → e < i + n → S.testBit e = true → A 4 e 1 = p) → sw_ef (sw_pg A p S) n i b = .inl ())
  | 0, i, b => ⟨fun _ => rfl, fun q => absurd (fun e h1 h2 => by omega) q⟩
  | n + 1, i, b => by
    by_cases hb : S.testBit i = true
    · by_cases hp : A 4 i 1 = p
      · have e1 : sw_pg A p S i b = .inr (b ||| sw_sp A i) := by unfold sw_pg; rw [if_pos hb, if_pos hp]
        obtain ⟨h1, h2⟩ := sw_pg_ef A p S n (i + 1) (b ||| sw_sp A i)
        have iff : (∀ e, i ≤ e → e < i + (n + 1) → S.testBit e = true → A 4 e 1 = p) ↔ ∀ e, i + 1 ≤ e → e < i + 1 + n → S.testBit e = true → A 4 e 1 = p := ⟨fun q e a1 a2 => q e (by omega) (by omega), fun q e a1 a2 a3 => by
          rcases Nat.lt_or_ge i e with r | r
          · exact q e r (by omega) a3
          · rw [show e = i by omega]; exact hp⟩
        rw [iff]
        unfold sw_ef sd_fold
        rw [e1, if_pos hb]
        exact ⟨h1, h2⟩
      · have e1 : sw_pg A p S i b = .inl () := by unfold sw_pg; rw [if_pos hb, if_neg hp]
        refine ⟨fun q => absurd (q i (Nat.le_refl _) (by omega) hb) hp, fun _ => ?_⟩
        unfold sw_ef
        rw [e1]
    · have e1 : sw_pg A p S i b = .inr b := by unfold sw_pg; rw [if_neg hb]
      obtain ⟨h1, h2⟩ := sw_pg_ef A p S n (i + 1) b
      have iff : (∀ e, i ≤ e → e < i + (n + 1) → S.testBit e = true → A 4 e 1 = p) ↔ ∀ e, i + 1 ≤ e → e < i + 1 + n → S.testBit e = true → A 4 e 1 = p := ⟨fun q e a1 a2 => q e (by omega) (by omega), fun q e a1 a2 a3 => by
        rcases Nat.lt_or_ge i e with r | r
        · exact q e r (by omega) a3
        · rw [show e = i by omega] at a3; exact absurd a3 hb⟩
      rw [iff]
      unfold sw_ef sd_fold
      rw [e1, if_neg hb]
      exact ⟨h1, h2⟩
theorem c_Country_placesOf {p S : Nat} (hC : sd_isC c) (hX : sw_X σ c A) (hA : sw_AK A) (hp : p < 1000) (hS : S < 2 ^ A 5 0 0) : sd_Call (sd_E1 L xs fm) (d + 2) y_Country_placesOf [.ref c, .int (nI S), .int (nI p)] σ Q ↔ Q (some (.int (if S &&& (sw_on A p ^^^ 255) = 0 then nI (sw_spn A S) else -1))) σ := by
  refine sd_Call.iff (fun Q hq => ?_) Q
  obtain ⟨k0, k1, k2, k3, k4, k5, k6, k7, k8, r0, r1, r2, r3, r4, k9⟩ := hC.all (L := L) (xs := xs) (fm := fm)
  obtain ⟨a1, a2, a3, a4, a5, a6⟩ := id hX
  have bE := hA.2.2.1
  have bA := hA.1
  have hS8 : S < 256 := Nat.lt_of_lt_of_le hS (Nat.pow_le_pow_right (n := 2) (by decide) bE)
  have hsub := sw_sub0 (T := sw_on A p) hS8
  have hall : (∀ i, S.testBit i = true → (sw_on A p).testBit i = true) ↔ ∀ e, 0 ≤ e → e < 0 + A 5 0 0 → S.testBit e = true → A 4 e 1 = p := by
    constructor
    · intro q e _ _ h3; exact ((sw_on_tb A p e).mp (q e h3)).2
    · intro q e h3
      have he : e < A 5 0 0 := by
        rcases Nat.lt_or_ge e (A 5 0 0) with r | r
        · exact r
        · have := Nat.testBit_lt_two_pow (Nat.lt_of_lt_of_le hS (Nat.pow_le_pow_right (n := 2) (by decide) r))
          rw [this] at h3; cases h3
      exact (sw_on_tb A p e).mpr ⟨he, q e (Nat.zero_le _) (by omega) h3⟩
  obtain ⟨p1, p2⟩ := sw_pg_ef A p S (A 5 0 0) 0 0
  have hR : (match sw_ef (sw_pg A p S) (A 5 0 0) 0 0 with | .inl _ => Q (some (.int (-1))) σ | .inr b => Q (some (.int (nI b))) σ) := by
    by_cases hz : S &&& (sw_on A p ^^^ 255) = 0
    · rw [p1 (hall.mp (hsub.mp hz))]
      rw [if_pos hz] at hq; exact hq
    · rw [p2 (fun q => hz (hsub.mpr (hall.mpr q)))]
      rw [if_neg hz] at hq; exact hq
  rw [sd_Call.start (ls := [.ref c, .int (nI S), .int (nI p), sd_un, sd_un]) m_Country_placesOf (by decide) (Nat.le_of_ble_eq_true rfl) rfl]
  simp (disch := first | exact sd_cr | exact sd_ci | exact sd_cu | exact sd_cl9 | assumption | omega) only [z_Country_placesOf_0, z_Country_placesOf_1, z_Country_placesOf_2, z_Country_placesOf_3, false_and, and_false, if_true, if_false, Decidable.not_not, sd_ci, sd_cr, sd_cl9, sd_cu, sd_cat0, sd_cat1, sd_rfS, sd_n01, sd_n11, sd_n1, sd_n10, sd_n00, sd_b01, sd_b0, true_and, and_true, and_self, not_true_eq_false, not_false_eq_true, false_implies, true_implies, implies_true, or_true, true_or, or_false, false_or, Option.toList_some, Option.toList_none, List.cons_append, List.nil_append, Nat.reduceAdd, Nat.reduceLeDiff]
  refine sd_loopE (fun i b => sd_Go (sd_E1 L xs fm) (d + 1) y_Country_placesOf 5 [.ref c, .int (nI S), .int (nI p), .int (nI b), .int (nI i)] [] σ Q) (fun r => match r with | .inl _ => Q (some (.int (-1))) σ | .inr b => Q (some (.int (nI b))) σ) (sw_pg A p S) (A 5 0 0) ?_ ?_ (A 5 0 0) 0 0 (by omega) hR
  · intro i b hi hT hF
    have h2 : S / 2 ^ i < 2147483648 := Nat.lt_of_le_of_lt (Nat.div_le_self _ _) (by omega)
    have h4 : (S / 2 ^ i % 2 = 0) ↔ ¬ S.testBit i = true := by
      rw [← sw_tb]; omega
    unfold sw_pg at hT hF
    rw [z_Country_placesOf_5]
    simp (disch := first | exact sd_cr | exact sd_ci | exact sd_cu | exact sd_cl9 | assumption | omega | (apply nz_m; apply bA) | (apply nz_k; apply bA)) only [z_Country_placesOf_0, z_Country_placesOf_1, z_Country_placesOf_2, z_Country_placesOf_3, z_Country_placesOf_7, z_Country_placesOf_8, z_Country_placesOf_11, z_Country_placesOf_14, z_Country_placesOf_15, z_Country_placesOf_17, z_Country_placesOf_18, z_Country_placesOf_19, z_Country_placesOf_20, z_Country_placesOf_23, z_Country_placesOf_26, z_Country_placesOf_27, z_Country_placesOf_30, z_Country_placesOf_32, z_Country_placesOf_33, z_Country_placesOf_34, z_Country_placesOf_35, z_Country_placesOf_36, z_Country_placesOf_37, z_Country_placesOf_38, z_Country_placesOf_41, z_Country_placesOf_42, z_Country_placesOf_43, z_Country_placesOf_44, z_Country_placesOf_45, z_Country_placesOf_47, z_Country_placesOf_50, z_Country_placesOf_51, z_Country_placesOf_52, z_Country_placesOf_55, z_Country_placesOf_58, z_Country_placesOf_59, false_and, and_false, if_true, if_false, Decidable.not_not, sd_ci, sd_cr, sd_cl9, sd_cu, sd_cat0, sd_cat1, sd_rfS, sd_n01, sd_n11, sd_n1, sd_n10, sd_n00, sd_b01, sd_b0, true_and, and_true, and_self, not_true_eq_false, not_false_eq_true, false_implies, true_implies, implies_true, or_true, true_or, or_false, false_or, Option.toList_some, Option.toList_none, List.cons_append, List.nil_append, Nat.reduceAdd, Nat.reduceLeDiff, nz_sub, nz_lt0, nz_ge0, nz_le0, nz_gt0, nz_eq0, nz_eq1, nz_lt, nz_le, nz_eq, nz_cl, nz_in, nz_add, nz_mul, nz_m1, nz_m1', Nat.reduceMul, Nat.reduceSub, Nat.reduceLT, Nat.reduceEqDiff, not_false_eq_true, false_implies, true_implies, true_and, and_true, k0, k7, k8, r3, a2, a6, c_Country_span hC hX hA hi, nz_bor, nz_shr, nz_and1, h4]
    by_cases hb : S.testBit i = true
    · by_cases hp2 : A 4 i 1 = p
      · simp only [hb, hp2, if_true] at hF ⊢
        ((repeat' first | (refine And.intro ?_ ?_) | (intro _)) <;> first | omega | exact hF _ rfl | contradiction)
      · simp only [hb, hp2, if_true, if_false] at hT ⊢
        ((repeat' first | (refine And.intro ?_ ?_) | (intro _)) <;> first | omega | exact hT _ rfl | exact hT () trivial | contradiction)
    · simp only [hb, if_false] at hF ⊢
      ((repeat' first | (refine And.intro ?_ ?_) | (intro _)) <;> first | omega | exact hF _ rfl | contradiction)
  · intro b h9
    rw [z_Country_placesOf_5]
    simp (disch := first | exact sd_cr | exact sd_ci | exact sd_cu | exact sd_cl9 | assumption | omega | (apply nz_m; apply bA) | (apply nz_k; apply bA)) only [z_Country_placesOf_0, z_Country_placesOf_1, z_Country_placesOf_2, z_Country_placesOf_3, z_Country_placesOf_7, z_Country_placesOf_8, z_Country_placesOf_11, z_Country_placesOf_14, z_Country_placesOf_15, z_Country_placesOf_17, z_Country_placesOf_18, z_Country_placesOf_19, z_Country_placesOf_20, z_Country_placesOf_23, z_Country_placesOf_26, z_Country_placesOf_27, z_Country_placesOf_30, z_Country_placesOf_32, z_Country_placesOf_33, z_Country_placesOf_34, z_Country_placesOf_35, z_Country_placesOf_36, z_Country_placesOf_37, z_Country_placesOf_38, z_Country_placesOf_41, z_Country_placesOf_42, z_Country_placesOf_43, z_Country_placesOf_44, z_Country_placesOf_45, z_Country_placesOf_47, z_Country_placesOf_50, z_Country_placesOf_51, z_Country_placesOf_52, z_Country_placesOf_55, z_Country_placesOf_58, z_Country_placesOf_59, false_and, and_false, if_true, if_false, Decidable.not_not, sd_ci, sd_cr, sd_cl9, sd_cu, sd_cat0, sd_cat1, sd_rfS, sd_n01, sd_n11, sd_n1, sd_n10, sd_n00, sd_b01, sd_b0, true_and, and_true, and_self, not_true_eq_false, not_false_eq_true, false_implies, true_implies, implies_true, or_true, true_or, or_false, false_or, Option.toList_some, Option.toList_none, List.cons_append, List.nil_append, Nat.reduceAdd, Nat.reduceLeDiff, nz_sub, nz_lt0, nz_ge0, nz_le0, nz_gt0, nz_eq0, nz_eq1, nz_lt, nz_le, nz_eq, nz_cl, nz_in, nz_add, nz_mul, nz_m1, nz_m1', Nat.reduceMul, Nat.reduceSub, Nat.reduceLT, Nat.reduceEqDiff, not_false_eq_true, false_implies, true_implies, true_and, and_true, k0, a2]
    exact ⟨fun _ => h9, fun q => by omega⟩
end SD47
