/-! the law's loop (written by wip/whole/mkAV.py) -/
section SDAV
theorem x_400s {L : Nat} {xs : Nat → Int32} {fm : Option Nat} : ((sd_E1 L xs fm).2 400).isSome = true := rfl
theorem nz_and63 (x : Int32) : ∃ k : Nat, k < 64 ∧ x &&& nI 63 = nI k := by
  refine ⟨(x.toBitVec &&& 63#32).toNat, ?_, ?_⟩
  · rw [BitVec.toNat_and]
    exact Nat.lt_of_le_of_lt Nat.and_le_right (by decide)
  · apply Int32.toBitVec_inj.mp
    show x.toBitVec &&& (nI 63).toBitVec = BitVec.ofNat 32 _
    rw [BitVec.ofNat_toNat, BitVec.setWidth_eq]
    rfl
theorem nz_over {L i : Nat} (hL : L ≤ 3072) (hi : i ≤ 4000) (h : L < i + 6) : nI L - nI 6 < nI i := by
  by_cases h6 : 6 ≤ L
  · rw [nz_sub h6, nz_lt (by omega) (by omega)]
    omega
  · have h0 : ∀ l, l < 6 → nI l - nI 6 < nI 0 := by decide
    refine Int32.lt_of_lt_of_le (h0 L (by omega)) ?_
    rw [nz_le (by decide) (by omega)]
    exact Nat.zero_le _
theorem nz_toI {k : Nat} (h : k < 64) : (nI k).toInt = k := by
  have : ∀ k, k < 64 → (nI k).toInt = k := by decide
  exact this k h
variable {L : Nat} {xs : Nat → Int32} {fm : Option Nat}
/-- one operation -/
theorem lw_op {n1 n2 : Nat} (hn1 : n1 ≤ 1000) (hn2 : n2 ≤ 1000) (h_fault : ∀ x : Int32, sw_step L xs fm n1 y_X_fault y_M_fault [.int x]) (h_text : ∀ x : Int32, sw_step L xs fm n2 y_X_text y_M_text [.int x]) {A W : sw_T} {B T : Nat} {V : Nat → sw_T} {im : Nat} {I U : sw_T} {σ : sd_Mem} {c kk i : Nat} (hI : sw_Inv L xs fm B σ c A W T V im I U) (hB : B ≤ 100000) (hi : i + 6 ≤ L) (hL : L ≤ 3072) (k0 : lw_kk L xs fm (B + 60) kk i) (k1 : lw_kk L xs fm (B + 60) (kk + 1) i) (l5 l6 : Value) : sd_LG (sd_E1 L xs fm) 1000 y_L_law (kk + 1) 40 [.ref 400, .ref 0, .ref 271, .ref 301, .int (nI i), l5, l6] [.int (xs i &&& nI 63)] σ (fun v _ => v = some (.int 1)) := by
  obtain ⟨k, hk, e⟩ := nz_and63 (xs i)
  rw [e]
  by_cases h46 : k < 46
  case neg =>
    rw [zo_L_law_40 (Or.inr (by rw [nz_toI hk]; omega))]
    exact k1 _ _ _ _ _ _ _ _ _ (show sw_Inv L xs fm (B + 60) σ c A W T V im I U from ⟨hI.1.mono (by omega), hI.2⟩) l5 l6
  have hc : k = 0 ∨ k = 1 ∨ k = 2 ∨ k = 3 ∨ k = 4 ∨ k = 5 ∨ k = 6 ∨ k = 7 ∨ k = 8 ∨ k = 9 ∨ k = 10 ∨ k = 11 ∨ k = 12 ∨ k = 13 ∨ k = 14 ∨ k = 15 ∨ k = 16 ∨ k = 17 ∨ k = 18 ∨ k = 19 ∨ k = 20 ∨ k = 21 ∨ k = 22 ∨ k = 23 ∨ k = 24 ∨ k = 25 ∨ k = 26 ∨ k = 27 ∨ k = 28 ∨ k = 29 ∨ k = 30 ∨ k = 31 ∨ k = 32 ∨ k = 33 ∨ k = 34 ∨ k = 35 ∨ k = 36 ∨ k = 37 ∨ k = 38 ∨ k = 39 ∨ k = 40 ∨ k = 41 ∨ k = 42 ∨ k = 43 ∨ k = 44 ∨ k = 45 := by omega
  rcases hc with rfl | rfl | rfl | rfl | rfl | rfl | rfl | rfl | rfl | rfl | rfl | rfl | rfl | rfl | rfl | rfl | rfl | rfl | rfl | rfl | rfl | rfl | rfl | rfl | rfl | rfl | rfl | rfl | rfl | rfl | rfl | rfl | rfl | rfl | rfl | rfl | rfl | rfl | rfl | rfl | rfl | rfl | rfl | rfl | rfl | rfl
  · rw [z_L_law_40_0]
    exact lw_c0 (n := 3) hI hB hi hL (by decide) (s_feed _ _ _ _ _) k1 l5 l6
  · rw [z_L_law_40_1]
    exact lw_c1 (n := 3) hI hB hi hL (by decide) (s_end _) k1 l5 l6
  · rw [z_L_law_40_2]
    exact lw_c2 hI hB hi hL hn1 (h_fault _) k1 l5 l6
  · rw [z_L_law_40_3]
    exact lw_c3 hI hB hi hL hn2 (h_text _) k1 l5 l6
  · rw [z_L_law_40_4]
    exact lw_c4 hI hi hL k0 l5 l6
  · rw [z_L_law_40_5]
    exact lw_c5 (n := 2) hI hB hi hL (by decide) (sw_q_step (fun A W => q_deed _ _)) k1 l5 l6
  · rw [z_L_law_40_6]
    exact lw_c6 (n := 2) hI hB hi hL (by decide) (sw_q_step (fun A W => q_vow _ _)) k1 l5 l6
  · rw [z_L_law_40_7]
    exact lw_c7 (n := 2) hI hB hi hL (by decide) (sw_q_step (fun A W => q_eye _ _)) k1 l5 l6
  · rw [z_L_law_40_8]
    exact lw_c8 (n := 2) hI hB hi hL (by decide) (sw_q_step (fun A W => q_row _ _)) k1 l5 l6
  · rw [z_L_law_40_9]
    exact lw_c9 (n := 3) hI hB hi hL (by decide) (s_taste _) k1 l5 l6
  · rw [z_L_law_40_10]
    exact lw_c10 (n := 3) hI hB hi hL (by decide) (sw_act_step (fun B A W T V im I hB hp => by obtain ⟨A', _, h1, h2⟩ := a_tempted hp _; exact ⟨A', W, T, V, im, I, h1.mono (by omega), h2⟩)) k1 l5 l6
  · rw [z_L_law_40_11]
    exact lw_c11 (n := 3) hI hB hi hL (by decide) (sw_q_step (fun A W => q_broken _ _)) k1 l5 l6
  · rw [z_L_law_40_12]
    exact lw_c12 (n := 7) hI hB hi hL (by decide) (sw_act_same (fun B A W T V im I hB hp => a_fares hp _)) k1 l5 l6
  · rw [z_L_law_40_13]
    exact lw_c13 (n := 3) hI hB hi hL (by decide) (sw_act_step (fun B A W T V im I hB hp => by obtain ⟨W', T', V', h1, h2⟩ := a_lives hp _ _; exact ⟨A, W', T', V', im, I, h1.mono (by omega), h2⟩)) k1 l5 l6
  · rw [z_L_law_40_14]
    exact lw_c14 (n := 3) hI hB hi hL (by decide) (sw_act_step (fun B A W T V im I hB hp => by obtain ⟨W', T', V', h1, h2⟩ := a_change hp _ _ _; exact ⟨A, W', T', V', im, I, h1.mono (by omega), h2⟩)) k1 l5 l6
  · rw [z_L_law_40_15]
    exact lw_c15 (n := 3) hI hB hi hL (by decide) (sw_act_step (fun B A W T V im I hB hp => by obtain ⟨W', T', V', h1, h2⟩ := a_swear hp _ _ _; exact ⟨A, W', T', V', im, I, h1.mono (by omega), h2⟩)) k1 l5 l6
  · rw [z_L_law_40_16]
    exact lw_c16 (n := 3) hI hB hi hL (by decide) (sw_act_step (fun B A W T V im I hB hp => by obtain ⟨W', T', V', h1, h2⟩ := a_pardon hp _; exact ⟨A, W', T', V', im, I, h1.mono (by omega), h2⟩)) k1 l5 l6
  · rw [z_L_law_40_17]
    exact lw_c17 (n := 4) hI hB hi hL (by decide) (sw_act_step (fun B A W T V im I hB hp => by obtain ⟨W', T', V', h1, h2⟩ := a_amnesty hp; exact ⟨A, W', T', V', im, I, h1.mono (by omega), h2⟩)) k1 l5 l6
  · rw [z_L_law_40_18]
    exact lw_c18 (n := 9) hI hB hi hL (by decide) (sw_act_step (fun B A W T V im I hB hp => by obtain ⟨W', T', V', h1, h2⟩ := a_days hp hB _; exact ⟨A, W', T', V', im, I, h1, h2⟩)) k1 l5 l6
  · rw [z_L_law_40_19]
    exact lw_c19 (n := 9) hI hB hi hL (by decide) (sw_act_step (fun B A W T V im I hB hp => by obtain ⟨W', T', V', h1, h2⟩ := a_decades hp hB _ _; exact ⟨A, W', T', V', im, I, h1, h2⟩)) k1 l5 l6
  · rw [z_L_law_40_20]
    exact lw_c20 (n := 3) hI hB hi hL (by decide) (sw_act_step (fun B A W T V im I hB hp => by obtain ⟨W', T', h1, h2⟩ := a_undo hp; exact ⟨A, W', T', V, im, I, h1.mono (by omega), h2⟩)) k1 l5 l6
  · rw [z_L_law_40_21]
    exact lw_c21 (n := 3) hI hB hi hL (by decide) (sw_act_same (fun B A W T V im I hB hp => a_log hp hB _ _)) k1 l5 l6
  · rw [z_L_law_40_22]
    exact lw_c22 (n := 12) hI hB hi hL (by decide) (sw_act_same (fun B A W T V im I hB hp => a_can _ _ _)) k1 l5 l6
  · rw [z_L_law_40_23]
    exact lw_c23 (n := 11) hI hB hi hL (by decide) (sw_act_same (fun B A W T V im I hB hp => a_strike _ _)) k1 l5 l6
  · rw [z_L_law_40_24]
    exact lw_c24 (n := 11) hI hB hi hL (by decide) (sw_act_same (fun B A W T V im I hB hp => a_together _ _ _)) k1 l5 l6
  · rw [z_L_law_40_25]
    exact lw_c25 (n := 70) hI hB hi hL (by decide) (s_joy _ _) k1 l5 l6
  · rw [z_L_law_40_26]
    exact lw_c26 (n := 69) hI hB hi hL (by decide) (s_best _ _ _) k1 l5 l6
  · rw [z_L_law_40_27]
    exact lw_c27 (n := 70) hI hB hi hL (by decide) (s_cost _ _) k1 l5 l6
  · rw [z_L_law_40_28]
    exact lw_c28 (n := 70) hI hB hi hL (by decide) (s_sentence _ _ _ _) k1 l5 l6
  · rw [z_L_law_40_29]
    exact lw_c29 (n := 11) hI hB hi hL (by decide) (sw_act_same (fun B A W T V im I hB hp => a_loopholes _ _ _ _)) k1 l5 l6
  · rw [z_L_law_40_30]
    exact lw_c30 (n := 2) hI hB hi hL (by decide) (sw_q_step (fun A W => q_harm _)) k1 l5 l6
  · rw [z_L_law_40_31]
    exact lw_c31 (n := 3) hI hB hi hL (by decide) (sw_q_step (fun A W => q_safe _)) k1 l5 l6
  · rw [z_L_law_40_32]
    exact lw_c32 (n := 4) hI hB hi hL (by decide) (sw_q_step (fun A W => q_cover _)) k1 l5 l6
  · rw [z_L_law_40_33]
    exact lw_c33 (n := 70) hI hB hi hL (by decide) (s_bold _ _ _) k1 l5 l6
  · rw [z_L_law_40_34]
    exact lw_c34 (n := 4) hI hB hi hL (by decide) (sw_q_step (fun A W => q_fails _ _)) k1 l5 l6
  · rw [z_L_law_40_35]
    exact lw_c35 (n := 9) hI hB hi hL (by decide) (sw_act_same (fun B A W T V im I hB hp => a_length hp hB _)) k1 l5 l6
  · rw [z_L_law_40_36]
    exact lw_c36 (n := 3) hI hB hi hL (by decide) (sw_act_step (fun B A W T V im I hB hp => by obtain ⟨A', _, h1, h2⟩ := a_see hp _ _; exact ⟨A', W, T, V, im, I, h1.mono (by omega), h2⟩)) k1 l5 l6
  · rw [z_L_law_40_37]
    exact lw_c37 (n := 9) hI hB hi hL (by decide) (sw_act_same (fun B A W T V im I hB hp => a_promised _ _)) k1 l5 l6
  · rw [z_L_law_40_38]
    exact lw_c38 (n := 9) hI hB hi hL (by decide) (sw_act_same (fun B A W T V im I hB hp => a_tells _ _)) k1 l5 l6
  · rw [z_L_law_40_39]
    exact lw_c39 (n := 10) hI hB hi hL (by decide) (sw_act_same (fun B A W T V im I hB hp => a_tempting _)) k1 l5 l6
  · rw [z_L_law_40_40]
    exact lw_c40 (n := 4) hI hB hi hL (by decide) (sw_q_step (fun A W => q_huts _)) k1 l5 l6
  · rw [z_L_law_40_41]
    exact lw_c41 (n := 5) hI hB hi hL (by decide) (sw_q_step (fun A W => q_easy)) k1 l5 l6
  · rw [z_L_law_40_42]
    exact lw_c42 (n := 3) hI hB hi hL (by decide) (sw_q_step (fun A W => q_left _)) k1 l5 l6
  · rw [z_L_law_40_43]
    exact lw_c43 (n := 3) hI hB hi hL (by decide) (sw_act_step (fun B A W T V im I hB hp => by obtain ⟨im', I', h1, h2⟩ := a_image hp; exact ⟨A, W, T, V, im', I', h1.mono (by omega), h2⟩)) k1 l5 l6
  · rw [z_L_law_40_44]
    exact lw_c44 (n := 3) hI hB hi hL (by decide) (sw_act_step (fun B A W T V im I hB hp => by obtain ⟨W', T', h1, h2⟩ := a_back hp; exact ⟨A, W', T', V, im, I, h1.mono (by omega), h2⟩)) k1 l5 l6
  · rw [z_L_law_40_45]
    exact lw_c45 (n := 4) hI hB hi hL (by decide) (s_count _) k1 l5 l6
/-- the loop -/
theorem lw_loop {n1 n2 : Nat} (hn1 : n1 ≤ 1000) (hn2 : n2 ≤ 1000) (h_fault : ∀ x : Int32, sw_step L xs fm n1 y_X_fault y_M_fault [.int x]) (h_text : ∀ x : Int32, sw_step L xs fm n2 y_X_text y_M_text [.int x]) (hL : L ≤ 3072) : ∀ m i B kk σ c A W T V im I U, sw_Inv L xs fm B σ c A W T V im I U → L < i + 6 * m + 6 → i + 6 * m ≤ 4000 → B + 60 * m ≤ 100000 → m ≤ kk → lw_go L xs fm kk i 23 σ := by
  intro m
  induction m with
  | zero =>
    intro i B kk σ c A W T V im I U hI h1 h2 hB hk l5 l6
    have ho := nz_over hL (i := i) (by omega) (by omega)
    simp (disch := first | exact sd_cr | exact sd_ci | exact sd_cu | exact sd_cl9 | exact t_400 | exact x_400s | exact t_301 | assumption | omega) only [z_L_law_23, z_L_law_25, zx_L_law_26, z_L_law_27, z_L_law_29, z_L_law_30, z_L_law_1855, z_L_law_1856, false_and, and_false, if_true, if_false, Decidable.not_not, sd_ci, sd_cr, sd_cl9, sd_cu, sd_cat0, sd_cat1, sd_rfS, sd_n01, sd_n11, sd_n1, sd_n10, sd_n00, sd_b01, sd_b0, true_and, and_true, and_self, not_true_eq_false, not_false_eq_true, false_implies, true_implies, implies_true, or_true, true_or, or_false, false_or, Option.toList_some, Option.toList_none, List.cons_append, List.nil_append, Nat.reduceAdd, Nat.reduceLeDiff, x_400q, ho]
    exact rfl
  | succ m ih =>
    intro i B kk σ c A W T V im I U hI h1 h2 hB hk l5 l6
    by_cases h6 : i + 6 ≤ L
    case neg =>
      have ho := nz_over hL (i := i) (by omega) (by omega)
      simp (disch := first | exact sd_cr | exact sd_ci | exact sd_cu | exact sd_cl9 | exact t_400 | exact x_400s | exact t_301 | assumption | omega) only [z_L_law_23, z_L_law_25, zx_L_law_26, z_L_law_27, z_L_law_29, z_L_law_30, z_L_law_1855, z_L_law_1856, false_and, and_false, if_true, if_false, Decidable.not_not, sd_ci, sd_cr, sd_cl9, sd_cu, sd_cat0, sd_cat1, sd_rfS, sd_n01, sd_n11, sd_n1, sd_n10, sd_n00, sd_b01, sd_b0, true_and, and_true, and_self, not_true_eq_false, not_false_eq_true, false_implies, true_implies, implies_true, or_true, true_or, or_false, false_or, Option.toList_some, Option.toList_none, List.cons_append, List.nil_append, Nat.reduceAdd, Nat.reduceLeDiff, x_400q, ho]
      exact rfl
    obtain ⟨kk, rfl⟩ : ∃ q, kk = q + 1 := ⟨kk - 1, by omega⟩
    have K : ∀ q, m ≤ q → lw_kk L xs fm (B + 60) q i := by
      intro q hq σ' c' A' W' T' V' im' I' U' hI' l5 l6
      have := ih (i + 6) (B + 60) q σ' c' A' W' T' V' im' I' U' hI' (by omega) (by omega) (by omega) hq l5 l6
      simp (disch := first | exact sd_cr | exact sd_ci | exact sd_cu | exact sd_cl9 | exact t_400 | exact x_400s | exact t_301 | assumption | omega) only [z_L_law_1849, z_L_law_1852, nz_add]
      exact this
    have op := lw_op hn1 hn2 h_fault h_text hI (by omega) h6 hL (K kk (by omega)) (K (kk + 1) (by omega)) l5 l6
    have hlt : ¬ L - 6 < i := by omega
    simp (disch := first | exact sd_cr | exact sd_ci | exact sd_cu | exact sd_cl9 | exact t_400 | exact x_400s | exact t_301 | assumption | omega) only [z_L_law_23, z_L_law_25, zx_L_law_26, z_L_law_27, z_L_law_29, z_L_law_30, z_L_law_33, z_L_law_34, zx_L_law_36, z_L_law_37, z_L_law_39, false_and, and_false, if_true, if_false, Decidable.not_not, sd_ci, sd_cr, sd_cl9, sd_cu, sd_cat0, sd_cat1, sd_rfS, sd_n01, sd_n11, sd_n1, sd_n10, sd_n00, sd_b01, sd_b0, true_and, and_true, and_self, not_true_eq_false, not_false_eq_true, false_implies, true_implies, implies_true, or_true, true_or, or_false, false_or, Option.toList_some, Option.toList_none, List.cons_append, List.nil_append, Nat.reduceAdd, Nat.reduceLeDiff, x_400q, x_400e, nz_sub, nz_lt, nz_cl, nz_in, eq_false hlt, eq_true (show i < L by omega)]
    exact op
end SDAV
