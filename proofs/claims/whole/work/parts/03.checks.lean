/-! the tables are those of the Statement: by places in lw_tbl, decided by the kernel -/
def sd_mchk (y : Nat) : Bool :=
  let q := sd_m y
  (decide (lw_tbl[q.2.2.2.2.2.2.2.1]? = some (Cond.initialized q.1.cls)) &&
  ((decide (lw_tbl[q.2.2.2.2.2.2.2.2.1]? = some (Cond.static q.1)) ||
    (decide (lw_tbl[q.2.2.2.2.2.2.2.2.1]? = some (Cond.instanceMethod q.1)) && (decide (q.1.name = "<init>") || decide (lw_tbl[q.2.2.2.2.2.2.2.2.2]? = some (Cond.selects q.1.cls q.1 q.1))))) &&
  (decide (q.1.cls ≠ "java/lang/invoke/MethodHandle" ∧ q.1.cls ≠ "java/lang/invoke/VarHandle") &&
  (decide ((parseMethodDescriptor q.1.desc).map (fun d => d.parameters.length) = some q.2.2.2.2.2.1) &&
  (decide (q.2.2.1 ≤ 21) && (decide (sd_R q.2.2.2.2.1 = q.1.cls) && plainName q.1.cls))))))
theorem sd_mok_0 : (List.range' 0 60).all sd_mchk = true := by decide +kernel
theorem sd_mok_1 : (List.range' 60 60).all sd_mchk = true := by decide +kernel
theorem sd_mok_2 : (List.range' 120 60).all sd_mchk = true := by decide +kernel
theorem sd_mok_3 : (List.range' 180 60).all sd_mchk = true := by decide +kernel
theorem sd_mok_4 : (List.range' 240 57).all sd_mchk = true := by decide +kernel
theorem sd_mok {y : Nat} (h : y < 297) : sd_mchk y = true := by
  rcases Nat.lt_or_ge y 60 with q | q
  · exact List.all_eq_true.mp sd_mok_0 y (List.mem_range'_1.mpr ⟨Nat.zero_le _, by omega⟩)
  · rcases Nat.lt_or_ge y 120 with q2 | q2
    · exact List.all_eq_true.mp sd_mok_1 y (List.mem_range'_1.mpr ⟨q, by omega⟩)
    · rcases Nat.lt_or_ge y 180 with q3 | q3
      · exact List.all_eq_true.mp sd_mok_2 y (List.mem_range'_1.mpr ⟨q2, by omega⟩)
      · rcases Nat.lt_or_ge y 240 with q4 | q4
        · exact List.all_eq_true.mp sd_mok_3 y (List.mem_range'_1.mpr ⟨q3, by omega⟩)
        · exact List.all_eq_true.mp sd_mok_4 y (List.mem_range'_1.mpr ⟨q4, by omega⟩)
def sd_lchk (r : Nat × (Nat × Nat × Nat × Nat)) : Bool :=
  decide (r.2.1 < 297) && ((decide (r.2.2.2.1 = 0) && decide (lw_tbl[r.2.2.2.2]? = some (Cond.methodLink (sd_R (r.1 / 65536)) (r.1 % 65536) (sd_m r.2.1).1)) ||
   decide (r.2.2.2.1 = 1) && decide (lw_tbl[r.2.2.2.2]? = some (Cond.methodLinkNest (sd_R (r.1 / 65536)) (r.1 % 65536) (sd_m r.2.1).1 "SwornDays"))) &&
  (decide (r.2.2.1 = 0) && (decide (lw_tbl[(sd_m r.2.1).2.2.2.2.2.2.2.2.1]? = some (Cond.instanceMethod (sd_m r.2.1).1)) && (decide (lw_tbl[(sd_m r.2.1).2.2.2.2.2.2.2.2.2]? = some (Cond.selects (sd_m r.2.1).1.cls (sd_m r.2.1).1 (sd_m r.2.1).1)) && decide ((sd_C (sd_m r.2.1).2.2.2.2.1).1 = (sd_m r.2.1).1.cls ∨ 12 ≤ (sd_m r.2.1).2.2.2.2.1))) ||
   (decide (r.2.2.1 = 1) && decide (lw_tbl[(sd_m r.2.1).2.2.2.2.2.2.2.2.1]? = some (Cond.static (sd_m r.2.1).1)) ||
    decide (r.2.2.1 = 2) && (decide (lw_tbl[(sd_m r.2.1).2.2.2.2.2.2.2.2.1]? = some (Cond.instanceMethod (sd_m r.2.1).1)) && (decide ((sd_m r.2.1).1.name = "<init>") && decide ((sd_m r.2.1).2.2.2.1 = none)))))
    )
theorem sd_lok_0 : (sd_lkL.take 120).all sd_lchk = true := by decide +kernel
theorem sd_lok_1 : ((sd_lkL.drop 120).take 120).all sd_lchk = true := by decide +kernel
theorem sd_lok_2 : ((sd_lkL.drop 120).drop 120).all sd_lchk = true := by decide +kernel
theorem sd_lok : ∀ r ∈ sd_lkL, sd_lchk r = true := by
  intro r hr
  rw [← List.take_append_drop 120 sd_lkL] at hr
  rcases List.mem_append.mp hr with h | h
  · exact List.all_eq_true.mp sd_lok_0 r h
  · rw [← List.take_append_drop 120 (sd_lkL.drop 120)] at h
    rcases List.mem_append.mp h with h | h
    · exact List.all_eq_true.mp sd_lok_1 r h
    · exact List.all_eq_true.mp sd_lok_2 r h
def sd_fchk (r : Nat × (Nat × Nat × Nat)) : Bool :=
  decide (r.2.1 < 12) && (decide (r.2.2.1 < (sd_C r.2.1).2.2) && decide (lw_tbl[r.2.2.2]? = some (Cond.fieldLink (sd_R (r.1 / 65536)) (r.1 % 65536) ((sd_C r.2.1).2.1 r.2.2.1).1 ((sd_C r.2.1).2.1 r.2.2.1).2.1 ((sd_C r.2.1).2.1 r.2.2.1).2.2.1)))
theorem sd_fok : ∀ r ∈ sd_flL, sd_fchk r = true := List.all_eq_true.mp (by decide +kernel)
theorem sd_cok : ∀ r ∈ sd_cstL, decide (lw_tbl[r.2.2]? = some (Cond.constant (sd_R (r.1 / 65536)) (r.1 % 65536) r.2.1)) = true := List.all_eq_true.mp (by decide +kernel)
theorem sd_cokL : ∀ r ∈ sd_cslL, decide (lw_tbl[r.2.2]? = some (Cond.constantLong (sd_R (r.1 / 65536)) (r.1 % 65536) r.2.1)) = true := List.all_eq_true.mp (by decide +kernel)
theorem sd_acok : ∀ r ∈ sd_acL, decide (lw_tbl[r.2]? = some (Cond.methodLink (sd_R (r.1 / 65536)) (r.1 % 65536) arraycopyName)) = true := List.all_eq_true.mp (by decide +kernel)
theorem sd_mtok : ∀ r ∈ sd_mtL, decide (lw_tbl[r.2.2]? = some (Cond.methodLink (sd_R (r.1 / 65536)) (r.1 % 65536) ⟨"java/lang/Math", (match r.2.1 with | 0 => "max" | 1 => "min" | 2 => "abs" | 3 => "max" | _ => "min"), (match r.2.1 with | 0 => "(II)I" | 1 => "(II)I" | 2 => "(I)I" | _ => "(JJ)J")⟩)) = true := List.all_eq_true.mp (by decide +kernel)
theorem sd_gsok : ∀ r ∈ sd_gsL, decide (lw_tbl[r.2.2]? = some (Cond.fieldLink (sd_R (r.1 / 65536)) (r.1 % 65536) (sd_gsN r.2.1).1 (sd_gsN r.2.1).2.1 (sd_gsN r.2.1).2.2)) = true := List.all_eq_true.mp (by decide +kernel)
theorem sd_sfok : ∀ r ∈ sd_sfL, decide (r.2.1 = 0 ∧ lw_tbl[r.2.2]? = some (Cond.fieldLink (sd_R (r.1 / 65536)) (r.1 % 65536) "java/lang/String" "value" "[B") ∨ r.2.1 = 1 ∧ lw_tbl[r.2.2]? = some (Cond.fieldLink (sd_R (r.1 / 65536)) (r.1 % 65536) "java/lang/String" "coder" "B")) = true := List.all_eq_true.mp (by decide +kernel)
theorem sd_findM {α : Type} : ∀ {l : List (Nat × α)} {n : Nat} {v : α}, sd_find l n = some v → (n, v) ∈ l
  | [], _, _, h => by cases h
  | (k, w) :: l, n, v, h => by
    unfold sd_find at h
    by_cases e : k = n
    · rw [if_pos e] at h
      cases h
      subst e
      exact List.mem_cons_self
    · rw [if_neg e] at h
      exact List.mem_cons_of_mem _ (sd_findM h)
theorem sd_in_0 : ∀ w ∈ u_ws (sd_C 0).1 (sd_C 0).2.1 (sd_C 0).2.2, w ∈ lw_tbl := by decide +kernel
theorem sd_in_1 : ∀ w ∈ u_ws (sd_C 1).1 (sd_C 1).2.1 (sd_C 1).2.2, w ∈ lw_tbl := by decide +kernel
theorem sd_in_2 : ∀ w ∈ u_ws (sd_C 2).1 (sd_C 2).2.1 (sd_C 2).2.2, w ∈ lw_tbl := by decide +kernel
theorem sd_in_3 : ∀ w ∈ u_ws (sd_C 3).1 (sd_C 3).2.1 (sd_C 3).2.2, w ∈ lw_tbl := by decide +kernel
theorem sd_in_4 : ∀ w ∈ u_ws (sd_C 4).1 (sd_C 4).2.1 (sd_C 4).2.2, w ∈ lw_tbl := by decide +kernel
theorem sd_in_5 : ∀ w ∈ u_ws (sd_C 5).1 (sd_C 5).2.1 (sd_C 5).2.2, w ∈ lw_tbl := by decide +kernel
theorem sd_in_6 : ∀ w ∈ u_ws (sd_C 6).1 (sd_C 6).2.1 (sd_C 6).2.2, w ∈ lw_tbl := by decide +kernel
theorem sd_in_7 : ∀ w ∈ u_ws (sd_C 7).1 (sd_C 7).2.1 (sd_C 7).2.2, w ∈ lw_tbl := by decide +kernel
theorem sd_in_8 : ∀ w ∈ u_ws (sd_C 8).1 (sd_C 8).2.1 (sd_C 8).2.2, w ∈ lw_tbl := by decide +kernel
theorem sd_in_9 : ∀ w ∈ u_ws (sd_C 9).1 (sd_C 9).2.1 (sd_C 9).2.2, w ∈ lw_tbl := by decide +kernel
theorem sd_in_10 : ∀ w ∈ u_ws (sd_C 10).1 (sd_C 10).2.1 (sd_C 10).2.2, w ∈ lw_tbl := by decide +kernel
theorem sd_in_11 : ∀ w ∈ u_ws (sd_C 11).1 (sd_C 11).2.1 (sd_C 11).2.2, w ∈ lw_tbl := by decide +kernel
theorem sd_in : ∀ ci, ci < 12 → ∀ w ∈ u_ws (sd_C ci).1 (sd_C ci).2.1 (sd_C ci).2.2, w ∈ lw_tbl
  | 0, _ => sd_in_0 | 1, _ => sd_in_1 | 2, _ => sd_in_2 | 3, _ => sd_in_3 | 4, _ => sd_in_4 | 5, _ => sd_in_5
  | 6, _ => sd_in_6 | 7, _ => sd_in_7 | 8, _ => sd_in_8 | 9, _ => sd_in_9 | 10, _ => sd_in_10 | 11, _ => sd_in_11
  | n + 12, h => absurd h (by omega)
theorem sd_tyok : ∀ ci, ci < 12 → ∀ k, k < (sd_C ci).2.2 → parseFieldDescriptor ((sd_C ci).2.1 k).2.2.1 = some (sd_ty ci k) := by decide +kernel
theorem sd_nm : ∀ ci, ci < 12 → ∀ a, a < (sd_C ci).2.2 → ∀ b, b < (sd_C ci).2.2 → a ≠ b → ((sd_C ci).2.1 a).2.1 ≠ ((sd_C ci).2.1 b).2.1 := by decide +kernel
def sd_kdchk (ci k : Nat) : Bool := match sd_kd ci k with
  | 0 => decide (sd_ty ci k = .int)
  | 1 => decide (sd_ty ci k = .long)
  | 2 => match sd_ty ci k with
    | .object _ => true
    | .array _ => true
    | _ => false
  | 3 => decide (sd_ty ci k = .boolean)
  | _ => false
theorem sd_kdok : ∀ ci, ci < 12 → ∀ k, k < (sd_C ci).2.2 → sd_kdchk ci k = true := by decide +kernel
theorem sd_clok : ∀ ci, ci < 12 → sd_cl[ci]? = some (sd_C ci)
  | 0, _ => rfl | 1, _ => rfl | 2, _ => rfl | 3, _ => rfl | 4, _ => rfl | 5, _ => rfl
  | 6, _ => rfl | 7, _ => rfl | 8, _ => rfl | 9, _ => rfl | 10, _ => rfl | 11, _ => rfl
  | n + 12, h => absurd h (by omega)
theorem sd_shok : ∀ k, k < sd_n → ∀ ci, sd_sh k = .inl ci → ci < 12 := by
  have h : (List.range sd_n).all (fun k => match sd_sh k with | .inl ci => decide (ci < 12) | _ => true) = true := by decide +kernel
  intro k hk ci e
  have h1 := List.all_eq_true.mp h k (List.mem_range.mpr hk)
  rw [e] at h1
  exact of_decide_eq_true h1
