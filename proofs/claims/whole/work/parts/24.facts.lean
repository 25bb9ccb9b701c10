/-! the law's entry, in the pure machine's words (written by wip/whole/mk24.py) -/
def sd_stat (t : Nat) : List Int32 := match t with
  | 0 => [5, 8, 8, 8]
  | 1 => [8, 0, 0, 0, 0, 0, 0, 1, 0, 0, 0, 0, 0, 0, 0, 1, 1, 7, 0, 1, 0, 11, 0, 0]
  | 2 => [0, 0, 0, 0, 0, 0, 0, 0, 0, 0, 0, 0, 0, 0, 0, 0, 0, 1, 0, 0, 0, 0, 0, 0]
  | _ => [8, 9, 0, 0, 0, 0, 7, 9, 9, 0, 0, 0, 4, 7, 7, 7, 9, 99, 4, 4, 11, 11, 0, 0]
/-- final references, the script, the static arrays, what SIOOBE_FORMATTER holds -/
def sd_E1 (L : Nat) (xs : Nat → Int32) (fm : Option Nat) : sd_E := (fun k i => if k = 450 then fm else sd_ft k i, fun k => if k = 400 then some (L, xs) else if 401 ≤ k ∧ k ≤ 404 then some ((sd_stat (k - 401)).length, fun j => (sd_stat (k - 401)).getD j 0) else none)
def sd_tm (i : Nat) : Term := match i with
  | 0 => .string "SwornDays$CountryReader" 60
  | 1 => .string "SwornDays$CountryReader" 22
  | 2 => .string "SwornDays$CountryReader" 24
  | 3 => .string "SwornDays$CountryReader" 26
  | 4 => .string "SwornDays$CountryReader" 28
  | 5 => .string "SwornDays$TasteReader" 80
  | 6 => .string "SwornDaysModel" 26
  | 7 => .string "SwornDays" 153
  | _ => .string "SwornDays" 170
theorem sd_eqR {args : Array Value} {s : State} {t1 t2 : Term} {a : Nat} (h : (Cond.eq t1 t2).before args s = true) (h1 : t1.eval args s none [] s = some (.ref a)) : t2.eval args s none [] s = some (.ref a) := by
  obtain ⟨w, q1, q2⟩ := Cond.eq_one (show (Cond.eq t1 t2).holds args s none s [] = true from h)
  rw [h1] at q1
  cases q1
  exact q2
def sd_f1 : List Cond := flatC (Jvm.Cond.and given_1 narrow_1)
theorem sd_s1 : ∀ i, i < 9 → Cond.exactly (sd_tm i) "java/lang/String" ∈ sd_f1 := by decide +kernel
theorem sd_s2 : ∀ i, i < 9 → Cond.eq (.field (sd_tm i) "java/lang/String" "coder" "B") (.int 0) ∈ sd_f1 := by decide +kernel
theorem sd_s3 : ∀ i, i < 9 → Cond.arrayOf (.field (sd_tm i) "java/lang/String" "value" "[B") .byte ∈ sd_f1 := by decide +kernel
theorem sd_s4 : ∀ i, i < 9 → Cond.eq (.length (.field (sd_tm i) "java/lang/String" "value" "[B")) (.int (Int32.ofNat (sd_slen.getD i 0))) ∈ sd_f1 := by decide +kernel
theorem sd_s5 : ∀ i, i < 9 → ∀ j, j < sd_slen.getD i 0 → Cond.eq (.elem (.field (sd_tm i) "java/lang/String" "value" "[B") (.int (Int32.ofNat j))) (.int ((sd_sbyt.getD i []).getD j 0)) ∈ sd_f1 := by decide +kernel
theorem sd_s6 : ∀ i, i < 9 → ∀ j, j < 9 → i ≠ j → (Cond.not (Cond.eq (sd_tm i) (sd_tm j)) ∈ sd_f1 ∨ Cond.not (Cond.eq (sd_tm j) (sd_tm i)) ∈ sd_f1) := by decide +kernel
theorem sd_s7 : ∀ i, i < 9 → sd_slen.getD i 0 < 2 ^ 31 := by decide +kernel
theorem sd_s8 : ∀ r ∈ sd_scL, r.2.1 < 9 ∧ lw_tbl[r.2.2]? = some (Cond.stringRef (sd_R (r.1 / 65536)) (r.1 % 65536) (sd_txt r.2.1)) ∧ (sd_tm r.2.1 = .string (sd_R (r.1 / 65536)) (r.1 % 65536) ∨ Cond.eq (sd_tm r.2.1) (.string (sd_R (r.1 / 65536)) (r.1 % 65536)) ∈ sd_f1) := by decide +kernel
theorem sd_a1 : ∀ t, t < 4 → Cond.arrayOf (.static (sd_gsN t).1 (sd_gsN t).2.1 (sd_gsN t).2.2) .int ∈ sd_f1 := by decide +kernel
theorem sd_a2 : ∀ t, t < 4 → Cond.eq (.length (.static (sd_gsN t).1 (sd_gsN t).2.1 (sd_gsN t).2.2)) (.int (Int32.ofNat (sd_stat t).length)) ∈ sd_f1 := by decide +kernel
theorem sd_a3 : ∀ t, t < 4 → ∀ j, j < (sd_stat t).length → Cond.eq (.elem (.static (sd_gsN t).1 (sd_gsN t).2.1 (sd_gsN t).2.2) (.int (Int32.ofNat j))) (.int ((sd_stat t).getD j 0)) ∈ sd_f1 := by decide +kernel
theorem sd_a10 : ∀ t, t < 4 → (sd_stat t).length < 2 ^ 31 := by decide
theorem sd_a4 : ∀ t, t < 6 → Cond.laysStatic (sd_gsN t).1 (sd_gsN t).2.1 (sd_gsN t).2.2 ∈ lw_tbl ∧ Cond.initialized (sd_gsN t).1 ∈ lw_tbl := by decide +kernel
theorem sd_a5 : Cond.eq (.static (sd_gsN 4).1 (sd_gsN 4).2.1 (sd_gsN 4).2.2) (.int 1) ∈ sd_f1 := by decide +kernel
theorem sd_a6 : Cond.isRef (.static (sd_gsN 5).1 (sd_gsN 5).2.1 (sd_gsN 5).2.2) ∈ sd_f1 := by decide +kernel
theorem sd_a7 : Cond.isRef (.static Bundle.tN "UNASSIGNED_STACK" Bundle.steD) ∈ sd_f1 ∧ Cond.isRef (.static Bundle.tN "SUPPRESSED_SENTINEL" Bundle.listD) ∈ sd_f1 := by decide +kernel
theorem sd_a8 : Cond.laysStatic Bundle.tN "UNASSIGNED_STACK" Bundle.steD ∈ lw_tbl ∧ Cond.laysStatic Bundle.tN "SUPPRESSED_SENTINEL" Bundle.listD ∈ lw_tbl ∧ Cond.initialized Bundle.tN ∈ lw_tbl := by decide +kernel
theorem sd_a9 : ∀ w ∈ sd_xn, w ∈ lw_tbl := by decide +kernel
theorem sd_ao1 : Cond.arrayOver (.object "SwornDays$State") ∈ lw_tbl ∧ Cond.arrayOver (.array .int) ∈ lw_tbl := by decide +kernel
