/-! where a row breaks a vow -/
theorem sd_o_eq {o : Option Nat} {a : Nat} (ho : ∀ q, o = some q → q < 1000) (ha : a < 1000) : (sd_o o = nI a) ↔ o = some a := by
  cases o with
  | none => exact ⟨fun q => ((nz_m1' (by omega)).mp q).elim, fun q => by cases q⟩
  | some q =>
    rw [sd_oS, nz_eq (Nat.lt_trans (ho q rfl) (by decide)) (by omega)]
    exact ⟨fun z => by rw [z], fun z => by cases z; rfl⟩
/-- how often a is among f 0 .. f (i - 1) -/
def sw_cn (f : Nat → Nat) (a : Nat) : Nat → Nat
  | 0 => 0
  | i + 1 => sw_cn f a i + (if f i = a then 1 else 0)
theorem sw_cn_le (f : Nat → Nat) (a : Nat) : ∀ i, sw_cn f a i ≤ i
  | 0 => Nat.le_refl _
  | i + 1 => by
    have := sw_cn_le f a i
    unfold sw_cn
    split <;> omega
/-- deed x, behind bf, with so many a and b ahead of it, breaks the vow just there -/
def sd_bs (kd a b n : Nat) (bf : Option Nat) (x dA dB : Nat) (last : Prop) [Decidable last] : Bool := decide (
  (kd = 0 ∧ x = a) ∨ (kd = 1 ∧ last ∧ dA + (if x = a then 1 else 0) < n) ∨ (kd = 2 ∧ x = a ∧ ¬ x = b ∧ dB = 0) ∨ (kd = 3 ∧ ((bf = some a ∧ ¬ x = b) ∨ (last ∧ x = a))) ∨ (kd = 4 ∧ x = a ∧ n ≤ dA) ∨ (kd = 5 ∧ x = a ∧ bf = some b))
theorem sw_cn_s {f : Nat → Nat} {a i : Nat} : sw_cn f a (i + 1) = sw_cn f a i + (if f i = a then 1 else 0) := rfl
section SD35
variable {L : Nat} {xs : Nat → Int32} {fm : Option Nat} {σ : sd_Mem} {d : Nat} {Q : Option Value → sd_Mem → Prop}
theorem c_X_breaks {c t : Nat} {v : Nat → Nat} (hc : sd_tg c = 0) (hn : t + 6 ≤ sd_ln c) (hl : sd_ln c < 2147483648) (hv : ∀ j, j < 5 → 0 < j → σ.1 c (t + j) = nI (v j)) (h5 : v 1 ≤ 5) (hb : ∀ j, v j < 1000)
    {bf : Option Nat} (hbf : ∀ q, bf = some q → q < 1000) {x dA dB : Nat} (hx : x < 1000) (hA : dA < 1000) (hB : dB < 1000) {last : Prop} [Decidable last] {lb : Int32} (hlb : lb = sd_b last) :
    sd_Call (sd_E1 L xs fm) (d + 1) y_X_breaks [.ref c, .int (nI t), .int (sd_o bf), .int (nI x), .int (nI dA), .int (nI dB), .int lb] σ Q ↔ Q (some (.int (sd_b (sd_bs (v 1) (v 2) (v 3) (v 4) bf x dA dB last = true)))) σ := by
  subst hlb
  refine sd_Call.iff (fun Q hq => ?_) Q
  have b2 := hb 2
  have b3 := hb 3
  have b4 := hb 4
  have e1 := hv 1 (by decide) (by decide)
  have e2 := hv 2 (by decide) (by decide)
  have e3 := hv 3 (by decide) (by decide)
  have e4 := hv 4 (by decide) (by decide)
  rw [sd_Call.start (ls := [.ref c, .int (nI t), .int (sd_o bf), .int (nI x), .int (nI dA), .int (nI dB), .int (sd_b last), sd_un, sd_un]) m_X_breaks (by decide) (Nat.le_of_ble_eq_true rfl) rfl]
  have o2 := sd_o_eq hbf b2
  have o3 := sd_o_eq hbf b3
  rcases (show v 1 = 0 ∨ v 1 = 1 ∨ v 1 = 2 ∨ v 1 = 3 ∨ v 1 = 4 ∨ v 1 = 5 by omega) with h | h | h | h | h | h <;> rw [h] at e1 <;> unfold sd_bs at hq <;> rw [show ∀ (p : Prop) [Decidable p], sd_b (decide p = true) = sd_b p from fun p _ => by simp [sd_b]] at hq <;>
    simp (disch := first | exact sd_cr | exact sd_ci | exact sd_cu | exact sd_cl9 | assumption | omega) only [z_X_breaks_0, z_X_breaks_1, z_X_breaks_2, z_X_breaks_3, z_X_breaks_4, z_X_breaks_5, z_X_breaks_7, z_X_breaks_8, z_X_breaks_9, z_X_breaks_10, z_X_breaks_11, z_X_breaks_12, z_X_breaks_14, z_X_breaks_15, z_X_breaks_16, z_X_breaks_17, z_X_breaks_18, z_X_breaks_19_0, z_X_breaks_19_1, z_X_breaks_19_2, z_X_breaks_19_3, z_X_breaks_19_4, z_X_breaks_19_5, z_X_breaks_56, z_X_breaks_57, z_X_breaks_59, z_X_breaks_62, z_X_breaks_63, z_X_breaks_66, z_X_breaks_67, z_X_breaks_68, z_X_breaks_70, z_X_breaks_73, z_X_breaks_75, z_X_breaks_76, z_X_breaks_78, z_X_breaks_81, z_X_breaks_82, z_X_breaks_85, z_X_breaks_86, z_X_breaks_87, z_X_breaks_88, z_X_breaks_89, z_X_breaks_90, z_X_breaks_91, z_X_breaks_92, z_X_breaks_95, z_X_breaks_96, z_X_breaks_99, z_X_breaks_100, z_X_breaks_101, z_X_breaks_102, z_X_breaks_104, z_X_breaks_107, z_X_breaks_108, z_X_breaks_110, z_X_breaks_113, z_X_breaks_115, z_X_breaks_118, z_X_breaks_119, z_X_breaks_122, z_X_breaks_123, z_X_breaks_124, z_X_breaks_125, z_X_breaks_127, z_X_breaks_130, z_X_breaks_131, z_X_breaks_133, z_X_breaks_136, z_X_breaks_138, z_X_breaks_141, z_X_breaks_142, z_X_breaks_144, z_X_breaks_147, z_X_breaks_148, z_X_breaks_151, z_X_breaks_152, z_X_breaks_153, z_X_breaks_154, z_X_breaks_156, z_X_breaks_159, z_X_breaks_161, z_X_breaks_162, z_X_breaks_163, z_X_breaks_164, z_X_breaks_165, z_X_breaks_166, z_X_breaks_169, z_X_breaks_170, z_X_breaks_173, z_X_breaks_174, z_X_breaks_175, z_X_breaks_176, z_X_breaks_178, z_X_breaks_181, z_X_breaks_182, z_X_breaks_184, z_X_breaks_187, z_X_breaks_188, z_X_breaks_191, z_X_breaks_192, z_X_breaks_193, z_X_breaks_194, Decidable.not_not, sd_ci, sd_cr, sd_cl9, sd_cu, sd_cat0, sd_cat1, sd_rfS, sd_n01, sd_n11, sd_n1, sd_n10, sd_n00, sd_b01, sd_b0, true_and, and_true, and_self, not_true_eq_false, not_false_eq_true, false_implies, true_implies, implies_true, or_true, true_or, or_false, false_or, Option.toList_some, Option.toList_none, List.cons_append, List.nil_append, Nat.reduceAdd, Nat.reduceLeDiff, nz_sub, nz_lt0, nz_ge0, nz_le0, nz_gt0, nz_eq0, nz_eq1, nz_lt, nz_le, nz_eq, nz_cl, nz_in, nz_add, nz_mul, nz_m1, nz_m1', Nat.reduceMul, Nat.reduceSub, Nat.reduceLT, Nat.reduceEqDiff, not_false_eq_true, false_implies, true_implies, true_and, and_true, hc, e1, e2, e3, e4, o2, o3] <;>
    simp only [h, Nat.reduceEqDiff, false_and, true_and, or_false, false_or] at hq
  · grind [sd_b]
  · grind [sd_b]
  · grind [sd_b]
  · grind [sd_b]
  · grind [sd_b]
  · grind [sd_b]
/-- the row f breaks the vow at i -/
def sw_ba (f : Nat → Nat) (m kd a b n i : Nat) : Bool := sd_bs kd a b n (if i = 0 then none else some (f (i - 1))) (f i) (sw_cn f a i) (sw_cn f b i) (i + 1 = m)
def sw_pb (f : Nat → Nat) (m kd a b n : Nat) : Option Nat := sd_fst (fun i => sw_ba f m kd a b n i = true) m 0
theorem c_X_placeBroken {c t e g m : Nat} {v f : Nat → Nat} (hc : sd_tg c = 0) (hn : t + 6 ≤ sd_ln c) (hl : sd_ln c < 2147483648) (hv : ∀ j, j < 5 → 0 < j → σ.1 c (t + j) = nI (v j)) (h5 : v 1 ≤ 5) (hb : ∀ j, v j < 1000)
    (he : sd_tg e = 0) (hm : g + m ≤ sd_ln e) (hel : sd_ln e < 1000) (hf : ∀ i, i < m → σ.1 e (g + i) = nI (f i)) (hfb : ∀ i, f i < 1000) :
    sd_Call (sd_E1 L xs fm) (d + 2) y_X_placeBroken [.ref c, .int (nI t), .ref e, .int (nI g), .int (nI m)] σ Q ↔ Q (some (.int (sd_o (sw_pb f m (v 1) (v 2) (v 3) (v 4))))) σ := by
  refine sd_Call.iff (fun Q hq => ?_) Q
  have b2 := hb 2
  have b3 := hb 3
  have e2 := hv 2 (by decide) (by decide)
  have e3 := hv 3 (by decide) (by decide)
  rw [sd_Call.start (ls := [.ref c, .int (nI t), .ref e, .int (nI g), .int (nI m), sd_un, sd_un, sd_un, sd_un, sd_un]) m_X_placeBroken (by decide) (Nat.le_of_ble_eq_true rfl) rfl]
  simp (disch := first | exact sd_cr | exact sd_ci | exact sd_cu | exact sd_cl9 | assumption | omega) only [z_X_placeBroken_0, z_X_placeBroken_1, z_X_placeBroken_3, z_X_placeBroken_4, z_X_placeBroken_6, z_X_placeBroken_7, z_X_placeBroken_9, z_X_placeBroken_10, Decidable.not_not, sd_ci, sd_cr, sd_cl9, sd_cu, sd_cat0, sd_cat1, sd_rfS, sd_n01, sd_n11, sd_n1, sd_n10, sd_n00, sd_b01, sd_b0, true_and, and_true, and_self, not_true_eq_false, not_false_eq_true, false_implies, true_implies, implies_true, or_true, true_or, or_false, false_or, Option.toList_some, Option.toList_none, List.cons_append, List.nil_append, Nat.reduceAdd, Nat.reduceLeDiff]
  have main : ∀ n i l9 A B, i + n = m → A = sw_cn f (v 2) i → B = sw_cn f (v 3) i → Q (some (.int (sd_o (sd_fst (fun i => sw_ba f m (v 1) (v 2) (v 3) (v 4) i = true) n i)))) σ → sd_Go (sd_E1 L xs fm) (d + 1) y_X_placeBroken 12 [.ref c, .int (nI t), .ref e, .int (nI g), .int (nI m), .int (sd_o (if i = 0 then none else some (f (i - 1)))), .int (nI A), .int (nI B), .int (nI i), l9] [] σ Q := by
    intro n
    induction n with
    | zero =>
      intro i l9 A B hi hA hB h
      rw [z_X_placeBroken_12]
      simp (disch := first | exact sd_cr | exact sd_ci | exact sd_cu | exact sd_cl9 | assumption | omega) only [z_X_placeBroken_0, z_X_placeBroken_1, z_X_placeBroken_3, z_X_placeBroken_4, z_X_placeBroken_6, z_X_placeBroken_7, z_X_placeBroken_9, z_X_placeBroken_10, z_X_placeBroken_14, z_X_placeBroken_16, z_X_placeBroken_19, z_X_placeBroken_20, z_X_placeBroken_21, z_X_placeBroken_23, z_X_placeBroken_24, z_X_placeBroken_25, z_X_placeBroken_27, z_X_placeBroken_28, z_X_placeBroken_29, z_X_placeBroken_31, z_X_placeBroken_33, z_X_placeBroken_35, z_X_placeBroken_37, z_X_placeBroken_39, z_X_placeBroken_41, z_X_placeBroken_42, z_X_placeBroken_43, z_X_placeBroken_46, z_X_placeBroken_47, z_X_placeBroken_50, z_X_placeBroken_51, z_X_placeBroken_54, z_X_placeBroken_57, z_X_placeBroken_59, z_X_placeBroken_60, z_X_placeBroken_62, z_X_placeBroken_63, z_X_placeBroken_64, z_X_placeBroken_65, z_X_placeBroken_66, z_X_placeBroken_67, z_X_placeBroken_70, z_X_placeBroken_73, z_X_placeBroken_75, z_X_placeBroken_76, z_X_placeBroken_77, z_X_placeBroken_78, z_X_placeBroken_79, z_X_placeBroken_80, z_X_placeBroken_83, z_X_placeBroken_86, z_X_placeBroken_88, z_X_placeBroken_90, z_X_placeBroken_93, z_X_placeBroken_96, z_X_placeBroken_97, Decidable.not_not, sd_ci, sd_cr, sd_cl9, sd_cu, sd_cat0, sd_cat1, sd_rfS, sd_n01, sd_n11, sd_n1, sd_n10, sd_n00, sd_b01, sd_b0, true_and, and_true, and_self, not_true_eq_false, not_false_eq_true, false_implies, true_implies, implies_true, or_true, true_or, or_false, false_or, Option.toList_some, Option.toList_none, List.cons_append, List.nil_append, Nat.reduceAdd, Nat.reduceLeDiff, nz_sub, nz_lt0, nz_ge0, nz_le0, nz_gt0, nz_eq0, nz_eq1, nz_lt, nz_le, nz_eq, nz_cl, nz_in, nz_add, nz_mul, nz_m1, nz_m1', Nat.reduceMul, Nat.reduceSub, Nat.reduceLT, Nat.reduceEqDiff, not_false_eq_true, false_implies, true_implies, true_and, and_true]
      exact ⟨fun _ => h, fun q => by omega⟩
    | succ n ih =>
      intro i l9 A B hi hA hB h
      have hbf : ∀ q, (if i = 0 then none else some (f (i - 1))) = some q → q < 1000 := by
        intro q hq
        split at hq
        · cases hq
        · cases hq; exact hfb _
      have fi := hf i (by omega)
      have fb := hfb i
      have ca := sw_cn_le f (v 2) i
      have cb := sw_cn_le f (v 3) i
      have ih1 := fun A B => ih (i + 1) (.int (nI (f i))) A B (by omega)
      rw [if_neg (Nat.succ_ne_zero i), Nat.add_sub_cancel, sd_oS, sw_cn_s, sw_cn_s] at ih1
      unfold sd_fst at h
      have hba : sw_ba f m (v 1) (v 2) (v 3) (v 4) i = sd_bs (v 1) (v 2) (v 3) (v 4) (if i = 0 then none else some (f (i - 1))) (f i) A B (i + 1 = m) := by
        rw [hA, hB]; rfl
      rw [hba] at h
      have hbr := fun lb hlb Q => c_X_breaks (L := L) (xs := xs) (fm := fm) (d := d) (σ := σ) (Q := Q) (last := i + 1 = m) (lb := lb) hc hn hl hv h5 hb hbf fb (show A < 1000 by omega) (show B < 1000 by omega) hlb
      rw [z_X_placeBroken_12]
      by_cases hla : i + 1 = m
      · have hbr := hbr (nI 1) (sd_bT hla).symm
        simp (disch := first | exact sd_cr | exact sd_ci | exact sd_cu | exact sd_cl9 | assumption | omega) only [z_X_placeBroken_0, z_X_placeBroken_1, z_X_placeBroken_3, z_X_placeBroken_4, z_X_placeBroken_6, z_X_placeBroken_7, z_X_placeBroken_9, z_X_placeBroken_10, z_X_placeBroken_14, z_X_placeBroken_16, z_X_placeBroken_19, z_X_placeBroken_20, z_X_placeBroken_21, z_X_placeBroken_23, z_X_placeBroken_24, z_X_placeBroken_25, z_X_placeBroken_27, z_X_placeBroken_28, z_X_placeBroken_29, z_X_placeBroken_31, z_X_placeBroken_33, z_X_placeBroken_35, z_X_placeBroken_37, z_X_placeBroken_39, z_X_placeBroken_41, z_X_placeBroken_42, z_X_placeBroken_43, z_X_placeBroken_46, z_X_placeBroken_47, z_X_placeBroken_50, z_X_placeBroken_51, z_X_placeBroken_54, z_X_placeBroken_57, z_X_placeBroken_59, z_X_placeBroken_60, z_X_placeBroken_62, z_X_placeBroken_63, z_X_placeBroken_64, z_X_placeBroken_65, z_X_placeBroken_66, z_X_placeBroken_67, z_X_placeBroken_70, z_X_placeBroken_73, z_X_placeBroken_75, z_X_placeBroken_76, z_X_placeBroken_77, z_X_placeBroken_78, z_X_placeBroken_79, z_X_placeBroken_80, z_X_placeBroken_83, z_X_placeBroken_86, z_X_placeBroken_88, z_X_placeBroken_90, z_X_placeBroken_93, z_X_placeBroken_96, z_X_placeBroken_97, Decidable.not_not, sd_ci, sd_cr, sd_cl9, sd_cu, sd_cat0, sd_cat1, sd_rfS, sd_n01, sd_n11, sd_n1, sd_n10, sd_n00, sd_b01, sd_b0, true_and, and_true, and_self, not_true_eq_false, not_false_eq_true, false_implies, true_implies, implies_true, or_true, true_or, or_false, false_or, Option.toList_some, Option.toList_none, List.cons_append, List.nil_append, Nat.reduceAdd, Nat.reduceLeDiff, nz_sub, nz_lt0, nz_ge0, nz_le0, nz_gt0, nz_eq0, nz_eq1, nz_lt, nz_le, nz_eq, nz_cl, nz_in, nz_add, nz_mul, nz_m1, nz_m1', Nat.reduceMul, Nat.reduceSub, Nat.reduceLT, Nat.reduceEqDiff, not_false_eq_true, false_implies, true_implies, true_and, and_true, he, hc, e2, e3, fi, hbr]
        ((repeat' first | (refine And.intro ?_ ?_) | (intro _)) <;> first | omega | (rw [if_pos (by assumption)] at h; exact h) | (rw [if_neg (by assumption)] at h; refine ih1 _ _ ?_ ?_ h <;> split <;> omega))
      · have hbr := hbr (nI 0) (sd_bF hla).symm
        simp (disch := first | exact sd_cr | exact sd_ci | exact sd_cu | exact sd_cl9 | assumption | omega) only [z_X_placeBroken_0, z_X_placeBroken_1, z_X_placeBroken_3, z_X_placeBroken_4, z_X_placeBroken_6, z_X_placeBroken_7, z_X_placeBroken_9, z_X_placeBroken_10, z_X_placeBroken_14, z_X_placeBroken_16, z_X_placeBroken_19, z_X_placeBroken_20, z_X_placeBroken_21, z_X_placeBroken_23, z_X_placeBroken_24, z_X_placeBroken_25, z_X_placeBroken_27, z_X_placeBroken_28, z_X_placeBroken_29, z_X_placeBroken_31, z_X_placeBroken_33, z_X_placeBroken_35, z_X_placeBroken_37, z_X_placeBroken_39, z_X_placeBroken_41, z_X_placeBroken_42, z_X_placeBroken_43, z_X_placeBroken_46, z_X_placeBroken_47, z_X_placeBroken_50, z_X_placeBroken_51, z_X_placeBroken_54, z_X_placeBroken_57, z_X_placeBroken_59, z_X_placeBroken_60, z_X_placeBroken_62, z_X_placeBroken_63, z_X_placeBroken_64, z_X_placeBroken_65, z_X_placeBroken_66, z_X_placeBroken_67, z_X_placeBroken_70, z_X_placeBroken_73, z_X_placeBroken_75, z_X_placeBroken_76, z_X_placeBroken_77, z_X_placeBroken_78, z_X_placeBroken_79, z_X_placeBroken_80, z_X_placeBroken_83, z_X_placeBroken_86, z_X_placeBroken_88, z_X_placeBroken_90, z_X_placeBroken_93, z_X_placeBroken_96, z_X_placeBroken_97, Decidable.not_not, sd_ci, sd_cr, sd_cl9, sd_cu, sd_cat0, sd_cat1, sd_rfS, sd_n01, sd_n11, sd_n1, sd_n10, sd_n00, sd_b01, sd_b0, true_and, and_true, and_self, not_true_eq_false, not_false_eq_true, false_implies, true_implies, implies_true, or_true, true_or, or_false, false_or, Option.toList_some, Option.toList_none, List.cons_append, List.nil_append, Nat.reduceAdd, Nat.reduceLeDiff, nz_sub, nz_lt0, nz_ge0, nz_le0, nz_gt0, nz_eq0, nz_eq1, nz_lt, nz_le, nz_eq, nz_cl, nz_in, nz_add, nz_mul, nz_m1, nz_m1', Nat.reduceMul, Nat.reduceSub, Nat.reduceLT, Nat.reduceEqDiff, not_false_eq_true, false_implies, true_implies, true_and, and_true, he, hc, e2, e3, fi, hbr]
        ((repeat' first | (refine And.intro ?_ ?_) | (intro _)) <;> first | omega | (rw [if_pos (by assumption)] at h; exact h) | (rw [if_neg (by assumption)] at h; refine ih1 _ _ ?_ ?_ h <;> split <;> omega))
  exact main m 0 sd_un 0 0 (by omega) rfl rfl hq
end SD35
