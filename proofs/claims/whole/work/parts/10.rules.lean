/-! the pure machine's rules, one for each kind of instruction; its calls have one answer -/
def sd_K (E : sd_E) (d y pc : Nat) (ls : List Value) (σ : sd_Mem) (Q : Option Value → sd_Mem → Prop) (o : sd_O) : Prop := match o with
  | none => False
  | some (.inl z) => sd_Go E d y z.1 z.2.1 z.2.2.1 z.2.2.2 Q
  | some (.inr (.inl q)) => sd_Call E d q.1 q.2.1 σ (fun v σ' => sd_Go E d y (pc + 3) ls (v.toList ++ q.2.2) σ' Q)
  | some (.inr (.inr v)) => Q v σ
/-- what a call needs of the method: name, code, locals, return, class and the rest -/
theorem sd_goS {E : sd_E} {d y pc : Nat} {ls st : List Value} {σ : sd_Mem} {Q : Option Value → sd_Mem → Prop} : sd_Go E d y pc ls st σ Q ↔ sd_K E d y pc ls σ Q (sd_step E y pc ls st σ) := by
  constructor
  · rintro ⟨n, r, σ', h, hq⟩
    cases n with
    | zero => cases h
    | succ n =>
      unfold sd_run at h
      cases hs : sd_step E y pc ls st σ with
      | none => rw [hs] at h; cases h
      | some z =>
        rw [hs] at h
        rcases z with z | q | v
        · exact ⟨n, r, σ', h, hq⟩
        · obtain ⟨v, σ1, hc, h⟩ := h
          exact ⟨v, σ1, hc, n, r, σ', h, hq⟩
        · obtain ⟨rfl, rfl⟩ := h
          exact hq
  · intro h
    cases hs : sd_step E y pc ls st σ with
    | none => rw [hs] at h; cases h
    | some z =>
      rw [hs] at h
      rcases z with ⟨pc2, ls2, st2, σ2⟩ | ⟨y2, av, rest⟩ | v
      · exact sd_Go.next hs h
      · exact sd_Go.call hs h
      · exact sd_Go.ret hs h
theorem sd_goM {E : sd_E} {d y pc : Nat} {ls st : List Value} {σ : sd_Mem} {Q : Option Value → sd_Mem → Prop} {nm : MethodName} {cc : ByteArray} {L : Nat} {rt : Option FieldType} {o : Nat} {rest : Nat × Nat × Nat × Nat × Nat} {i : Instr} {len : Nat}
    (hm : sd_m y = (nm, cc, L, rt, o, rest)) (hd : decode cc pc = .ok (i, len)) : sd_Go E d y pc ls st σ Q ↔ sd_K E d y pc ls σ Q (sd_ins E o rt i len pc ls st σ) := by
  rw [sd_goS]
  unfold sd_step
  rw [hm]
  dsimp only
  rw [hd]
theorem sd_K_if {E : sd_E} {d y pc : Nat} {ls : List Value} {σ : sd_Mem} {Q : Option Value → sd_Mem → Prop} {c : Prop} [Decidable c] {a : sd_O} : sd_K E d y pc ls σ Q (if c then a else none) ↔ (c ∧ sd_K E d y pc ls σ Q a) := by
  by_cases h : c
  · rw [if_pos h]
    exact ⟨fun q => ⟨h, q⟩, fun q => q.2⟩
  · rw [if_neg h]
    exact ⟨fun q => q.elim, fun q => h q.1⟩
theorem sd_K_ite {E : sd_E} {d y pc : Nat} {ls : List Value} {σ : sd_Mem} {Q : Option Value → sd_Mem → Prop} {c : Prop} [Decidable c] {a b : sd_O} : sd_K E d y pc ls σ Q (if c then a else b) ↔ ((c → sd_K E d y pc ls σ Q a) ∧ (¬ c → sd_K E d y pc ls σ Q b)) := by
  by_cases h : c
  · rw [if_pos h]
    exact ⟨fun q => ⟨fun _ => q, fun z => absurd h z⟩, fun q => q.1 h⟩
  · rw [if_neg h]
    exact ⟨fun q => ⟨fun z => absurd z h, fun _ => q⟩, fun q => q.2 h⟩
section SDR
variable {E : sd_E} {d y pc : Nat} {ls st : List Value} {σ : sd_Mem} {Q : Option Value → sd_Mem → Prop} {nm : MethodName} {cc : ByteArray} {L : Nat} {rt : Option FieldType} {o : Nat} {rest : Nat × Nat × Nat × Nat × Nat}
theorem sd_g_iconst {n : Int} {v : Int32} (hm : sd_m y = (nm, cc, L, rt, o, rest)) (hd : decode cc pc = .ok (.iconst n, 1)) (hv : Int32.ofInt n = v) : sd_Go E d y pc ls st σ Q ↔ sd_Go E d y (pc + 1) ls (.int v :: st) σ Q := by subst hv; exact sd_goM hm hd
theorem sd_g_bipush {n : Int} {v : Int32} (hm : sd_m y = (nm, cc, L, rt, o, rest)) (hd : decode cc pc = .ok (.bipush n, 2)) (hv : (Int8.ofInt n).toInt32 = v) : sd_Go E d y pc ls st σ Q ↔ sd_Go E d y (pc + 2) ls (.int v :: st) σ Q := by subst hv; exact sd_goM hm hd
theorem sd_g_sipush {n : Int} {v : Int32} (hm : sd_m y = (nm, cc, L, rt, o, rest)) (hd : decode cc pc = .ok (.sipush n, 3)) (hv : (Int16.ofInt n).toInt32 = v) : sd_Go E d y pc ls st σ Q ↔ sd_Go E d y (pc + 3) ls (.int v :: st) σ Q := by subst hv; exact sd_goM hm hd
theorem sd_g_lconst {n : Fin 2} {v : Int64} (hm : sd_m y = (nm, cc, L, rt, o, rest)) (hd : decode cc pc = .ok (.lconst n, 1)) (hv : Int64.ofNat (n : Nat) = v) : sd_Go E d y pc ls st σ Q ↔ sd_Go E d y (pc + 1) ls (.long v :: st) σ Q := by subst hv; exact sd_goM hm hd
theorem sd_g_ldc {n z : Nat} {v : Int32} (hm : sd_m y = (nm, cc, L, rt, o, rest)) (hd : decode cc pc = .ok (.ldc n, 2)) (hv : sd_cst o n = some (v, z)) : sd_Go E d y pc ls st σ Q ↔ sd_Go E d y (pc + 2) ls (.int v :: st) σ Q := by
  rw [sd_goM hm hd]
  show sd_K E d y pc ls σ Q (match sd_cst o n with | some (v, _) => sd_nx (pc + 2) ls (.int v :: st) σ | none => match sd_sc o n with | some (i, _) => sd_nx (pc + 2) ls (.ref (410 + i) :: st) σ | none => none) ↔ _
  rw [hv]
  exact Iff.rfl
theorem sd_g_ldc_w {n z : Nat} {v : Int32} (hm : sd_m y = (nm, cc, L, rt, o, rest)) (hd : decode cc pc = .ok (.ldc_w n, 3)) (hv : sd_cst o n = some (v, z)) : sd_Go E d y pc ls st σ Q ↔ sd_Go E d y (pc + 3) ls (.int v :: st) σ Q := by
  rw [sd_goM hm hd]
  show sd_K E d y pc ls σ Q (match sd_cst o n with | some (v, _) => sd_nx (pc + 3) ls (.int v :: st) σ | none => match sd_sc o n with | some (i, _) => sd_nx (pc + 3) ls (.ref (410 + i) :: st) σ | none => none) ↔ _
  rw [hv]
  exact Iff.rfl
theorem sd_g_ldcS {n i z : Nat} (hm : sd_m y = (nm, cc, L, rt, o, rest)) (hd : decode cc pc = .ok (.ldc n, 2)) (hc : sd_cst o n = none) (hv : sd_sc o n = some (i, z)) : sd_Go E d y pc ls st σ Q ↔ sd_Go E d y (pc + 2) ls (.ref (410 + i) :: st) σ Q := by
  rw [sd_goM hm hd]
  show sd_K E d y pc ls σ Q (match sd_cst o n with | some (v, _) => sd_nx (pc + 2) ls (.int v :: st) σ | none => match sd_sc o n with | some (i, _) => sd_nx (pc + 2) ls (.ref (410 + i) :: st) σ | none => none) ↔ _
  rw [hc]
  show sd_K E d y pc ls σ Q (match sd_sc o n with | some (i, _) => sd_nx (pc + 2) ls (.ref (410 + i) :: st) σ | none => none) ↔ _
  rw [hv]
  exact Iff.rfl
theorem sd_g_ldcS_w {n i z : Nat} (hm : sd_m y = (nm, cc, L, rt, o, rest)) (hd : decode cc pc = .ok (.ldc_w n, 3)) (hc : sd_cst o n = none) (hv : sd_sc o n = some (i, z)) : sd_Go E d y pc ls st σ Q ↔ sd_Go E d y (pc + 3) ls (.ref (410 + i) :: st) σ Q := by
  rw [sd_goM hm hd]
  show sd_K E d y pc ls σ Q (match sd_cst o n with | some (v, _) => sd_nx (pc + 3) ls (.int v :: st) σ | none => match sd_sc o n with | some (i, _) => sd_nx (pc + 3) ls (.ref (410 + i) :: st) σ | none => none) ↔ _
  rw [hc]
  show sd_K E d y pc ls σ Q (match sd_sc o n with | some (i, _) => sd_nx (pc + 3) ls (.ref (410 + i) :: st) σ | none => none) ↔ _
  rw [hv]
  exact Iff.rfl
theorem sd_g_getstatic {n t z : Nat} {v : Value} (hm : sd_m y = (nm, cc, L, rt, o, rest)) (hd : decode cc pc = .ok (.getstatic n, 3)) (hv : sd_gs o n = some (t, z)) (hw : (if t < 4 then .ref (401 + t) else if t = 4 then .int 1 else va_rf (E.1 450 0)) = v) : sd_Go E d y pc ls st σ Q ↔ sd_Go E d y (pc + 3) ls (v :: st) σ Q := by
  subst hw
  rw [sd_goM hm hd]
  show sd_K E d y pc ls σ Q (match sd_gs o n with | some (t, _) => sd_nx (pc + 3) ls ((if t < 4 then .ref (401 + t) else if t = 4 then .int 1 else va_rf (E.1 450 0)) :: st) σ | none => none) ↔ _
  rw [hv]
  exact Iff.rfl
theorem sd_g_getS {n t z a : Nat} {v : Value} (hm : sd_m y = (nm, cc, L, rt, o, rest)) (hd : decode cc pc = .ok (.getfield n, 3)) (hf : sd_fl o n = none) (hs : sd_sf o n = some (t, z)) (hv : (if t = 0 then .ref (a + 20) else .int 0) = v) : sd_Go E d y pc ls (.ref a :: st) σ Q ↔ ((410 ≤ a ∧ a < 419) ∧ sd_Go E d y (pc + 3) ls (v :: st) σ Q) := by
  subst hv
  rw [sd_goM hm hd]
  show sd_K E d y pc ls σ Q (match sd_fl o n with | some (ci, f, _) => if sd_sh a = .inl ci then sd_nx (pc + 3) ls (sd_val E σ a ci f :: st) σ else none | none => match sd_sf o n with | some (t, _) => if 410 ≤ a ∧ a < 419 then sd_nx (pc + 3) ls ((if t = 0 then .ref (a + 20) else .int 0) :: st) σ else none | none => none) ↔ _
  rw [hf]
  show sd_K E d y pc ls σ Q (match sd_sf o n with | some (t, _) => if 410 ≤ a ∧ a < 419 then sd_nx (pc + 3) ls ((if t = 0 then .ref (a + 20) else .int 0) :: st) σ else none | none => none) ↔ _
  rw [hs]
  exact sd_K_if
theorem sd_g_aret {a o2 : Nat} {nn : String} (hm : sd_m y = (nm, cc, L, some (.object nn), o2, rest)) (hd : decode cc pc = .ok (.areturn, 1)) : sd_Go E d y pc ls [.ref a] σ Q ↔ Q (some (.ref a)) σ := sd_goM hm hd
theorem sd_g_cret {v : Int32} {o2 : Nat} (hm : sd_m y = (nm, cc, L, some .char, o2, rest)) (hd : decode cc pc = .ok (.ireturn, 1)) : sd_Go E d y pc ls [.int v] σ Q ↔ (narrow .char (.int v) = .int v ∧ Q (some (.int v)) σ) := (sd_goM hm hd).trans sd_K_if
theorem sd_g_bret {v : Int32} {o2 : Nat} (hm : sd_m y = (nm, cc, L, some .byte, o2, rest)) (hd : decode cc pc = .ok (.ireturn, 1)) : sd_Go E d y pc ls [.int v] σ Q ↔ (narrow .byte (.int v) = .int v ∧ Q (some (.int v)) σ) := (sd_goM hm hd).trans sd_K_if
theorem sd_g_ldc2_w {n z : Nat} {v : Int64} (hm : sd_m y = (nm, cc, L, rt, o, rest)) (hd : decode cc pc = .ok (.ldc2_w n, 3)) (hv : sd_csl o n = some (v, z)) : sd_Go E d y pc ls st σ Q ↔ sd_Go E d y (pc + 3) ls (.long v :: st) σ Q := by
  rw [sd_goM hm hd]
  show sd_K E d y pc ls σ Q (match sd_csl o n with | some (v, _) => sd_nx (pc + 3) ls (.long v :: st) σ | none => none) ↔ _
  rw [hv]
  exact Iff.rfl
theorem sd_g_iload_n {n : Fin 4} {x : Int32} (hm : sd_m y = (nm, cc, L, rt, o, rest)) (hd : decode cc pc = .ok (.iload_n n, 1)) (hv : sd_get ls n = .int x) : sd_Go E d y pc ls st σ Q ↔ sd_Go E d y (pc + 1) ls (.int x :: st) σ Q := by
  rw [sd_goM hm hd]
  show sd_K E d y pc ls σ Q (sd_ldi σ (pc + 1) ls st n) ↔ _
  unfold sd_ldi
  rw [hv]
  exact Iff.rfl
theorem sd_g_iload {n : Nat} {x : Int32} (hm : sd_m y = (nm, cc, L, rt, o, rest)) (hd : decode cc pc = .ok (.iload n, 2)) (hv : sd_get ls n = .int x) : sd_Go E d y pc ls st σ Q ↔ sd_Go E d y (pc + 2) ls (.int x :: st) σ Q := by
  rw [sd_goM hm hd]
  show sd_K E d y pc ls σ Q (sd_ldi σ (pc + 2) ls st n) ↔ _
  unfold sd_ldi
  rw [hv]
  exact Iff.rfl
theorem sd_g_lload_n {n : Fin 4} {x : Int64} (hm : sd_m y = (nm, cc, L, rt, o, rest)) (hd : decode cc pc = .ok (.lload_n n, 1)) (hv : sd_get ls n = .long x) : sd_Go E d y pc ls st σ Q ↔ sd_Go E d y (pc + 1) ls (.long x :: st) σ Q := by
  rw [sd_goM hm hd]
  show sd_K E d y pc ls σ Q (sd_ldl σ (pc + 1) ls st n) ↔ _
  unfold sd_ldl
  rw [hv]
  exact Iff.rfl
theorem sd_g_lload {n : Nat} {x : Int64} (hm : sd_m y = (nm, cc, L, rt, o, rest)) (hd : decode cc pc = .ok (.lload n, 2)) (hv : sd_get ls n = .long x) : sd_Go E d y pc ls st σ Q ↔ sd_Go E d y (pc + 2) ls (.long x :: st) σ Q := by
  rw [sd_goM hm hd]
  show sd_K E d y pc ls σ Q (sd_ldl σ (pc + 2) ls st n) ↔ _
  unfold sd_ldl
  rw [hv]
  exact Iff.rfl
theorem sd_g_aload_n {n : Fin 4} {x : Nat} (hm : sd_m y = (nm, cc, L, rt, o, rest)) (hd : decode cc pc = .ok (.aload_n n, 1)) (hv : sd_get ls n = .ref x) : sd_Go E d y pc ls st σ Q ↔ sd_Go E d y (pc + 1) ls (.ref x :: st) σ Q := by
  rw [sd_goM hm hd]
  show sd_K E d y pc ls σ Q (sd_lda σ (pc + 1) ls st n) ↔ _
  unfold sd_lda
  rw [hv]
  exact Iff.rfl
theorem sd_g_aload {n : Nat} {x : Nat} (hm : sd_m y = (nm, cc, L, rt, o, rest)) (hd : decode cc pc = .ok (.aload n, 2)) (hv : sd_get ls n = .ref x) : sd_Go E d y pc ls st σ Q ↔ sd_Go E d y (pc + 2) ls (.ref x :: st) σ Q := by
  rw [sd_goM hm hd]
  show sd_K E d y pc ls σ Q (sd_lda σ (pc + 2) ls st n) ↔ _
  unfold sd_lda
  rw [hv]
  exact Iff.rfl
theorem sd_g_istore_n {n : Fin 4} {x : Int32} {ls' : List Value} (hm : sd_m y = (nm, cc, L, rt, o, rest)) (hd : decode cc pc = .ok (.istore_n n, 1)) (hn : (n : Nat) < ls.length) (hv : sd_put ls n (.int x) = ls') : sd_Go E d y pc ls (.int x :: st) σ Q ↔ sd_Go E d y (pc + 1) ls' st σ Q := by
  subst hv
  rw [sd_goM hm hd]
  show sd_K E d y pc ls σ Q (if (n : Nat) < ls.length then sd_nx (pc + 1) (sd_put ls n (.int x)) st σ else none) ↔ _
  rw [if_pos hn]
  exact Iff.rfl
theorem sd_g_istore {n : Nat} {x : Int32} {ls' : List Value} (hm : sd_m y = (nm, cc, L, rt, o, rest)) (hd : decode cc pc = .ok (.istore n, 2)) (hn : n < ls.length) (hv : sd_put ls n (.int x) = ls') : sd_Go E d y pc ls (.int x :: st) σ Q ↔ sd_Go E d y (pc + 2) ls' st σ Q := by
  subst hv
  rw [sd_goM hm hd]
  show sd_K E d y pc ls σ Q (if n < ls.length then sd_nx (pc + 2) (sd_put ls n (.int x)) st σ else none) ↔ _
  rw [if_pos hn]
  exact Iff.rfl
theorem sd_g_astore_n {n : Fin 4} {x : Nat} {ls' : List Value} (hm : sd_m y = (nm, cc, L, rt, o, rest)) (hd : decode cc pc = .ok (.astore_n n, 1)) (hn : (n : Nat) < ls.length) (hv : sd_put ls n (.ref x) = ls') : sd_Go E d y pc ls (.ref x :: st) σ Q ↔ sd_Go E d y (pc + 1) ls' st σ Q := by
  subst hv
  rw [sd_goM hm hd]
  show sd_K E d y pc ls σ Q (if (n : Nat) < ls.length then sd_nx (pc + 1) (sd_put ls n (.ref x)) st σ else none) ↔ _
  rw [if_pos hn]
  exact Iff.rfl
theorem sd_g_astore {n : Nat} {x : Nat} {ls' : List Value} (hm : sd_m y = (nm, cc, L, rt, o, rest)) (hd : decode cc pc = .ok (.astore n, 2)) (hn : n < ls.length) (hv : sd_put ls n (.ref x) = ls') : sd_Go E d y pc ls (.ref x :: st) σ Q ↔ sd_Go E d y (pc + 2) ls' st σ Q := by
  subst hv
  rw [sd_goM hm hd]
  show sd_K E d y pc ls σ Q (if n < ls.length then sd_nx (pc + 2) (sd_put ls n (.ref x)) st σ else none) ↔ _
  rw [if_pos hn]
  exact Iff.rfl
theorem sd_g_lstore_n {n : Fin 4} {x : Int64} {ls' : List Value} (hm : sd_m y = (nm, cc, L, rt, o, rest)) (hd : decode cc pc = .ok (.lstore_n n, 1)) (hn : (n : Nat) + 1 < ls.length) (hv : sd_put ls n (.long x) = ls') : sd_Go E d y pc ls (.long x :: st) σ Q ↔ sd_Go E d y (pc + 1) ls' st σ Q := by
  subst hv
  rw [sd_goM hm hd]
  show sd_K E d y pc ls σ Q (if (n : Nat) + 1 < ls.length then sd_nx (pc + 1) (sd_put ls n (.long x)) st σ else none) ↔ _
  rw [if_pos hn]
  exact Iff.rfl
theorem sd_g_lstore {n : Nat} {x : Int64} {ls' : List Value} (hm : sd_m y = (nm, cc, L, rt, o, rest)) (hd : decode cc pc = .ok (.lstore n, 2)) (hn : n + 1 < ls.length) (hv : sd_put ls n (.long x) = ls') : sd_Go E d y pc ls (.long x :: st) σ Q ↔ sd_Go E d y (pc + 2) ls' st σ Q := by
  subst hv
  rw [sd_goM hm hd]
  show sd_K E d y pc ls σ Q (if n + 1 < ls.length then sd_nx (pc + 2) (sd_put ls n (.long x)) st σ else none) ↔ _
  rw [if_pos hn]
  exact Iff.rfl
theorem sd_g_iinc {n : Nat} {t : Int} {x v : Int32} {ls' : List Value} (hm : sd_m y = (nm, cc, L, rt, o, rest)) (hd : decode cc pc = .ok (.iinc n t, 3)) (hg : sd_get ls n = .int x) (hn : n < ls.length) (hw : Int32.ofInt t = v) (hv : sd_put ls n (.int (x + v)) = ls') : sd_Go E d y pc ls st σ Q ↔ sd_Go E d y (pc + 3) ls' st σ Q := by
  subst hv
  subst hw
  rw [sd_goM hm hd]
  show sd_K E d y pc ls σ Q (match sd_get ls n with | .int x => if n < ls.length then sd_nx (pc + 3) (sd_put ls n (.int (x + Int32.ofInt t))) st σ else none | _ => none) ↔ _
  rw [hg]
  show sd_K E d y pc ls σ Q (if n < ls.length then sd_nx (pc + 3) (sd_put ls n (.int (x + Int32.ofInt t))) st σ else none) ↔ _
  rw [if_pos hn]
  exact Iff.rfl
theorem sd_g_div {a b : Int32} (hm : sd_m y = (nm, cc, L, rt, o, rest)) (hd : decode cc pc = .ok (.idiv, 1)) : sd_Go E d y pc ls (.int b :: .int a :: st) σ Q ↔ (¬ b = 0 ∧ sd_Go E d y (pc + 1) ls (.int (a / b) :: st) σ Q) := (sd_goM hm hd).trans sd_K_if
theorem sd_g_rem {a b : Int32} (hm : sd_m y = (nm, cc, L, rt, o, rest)) (hd : decode cc pc = .ok (.irem, 1)) : sd_Go E d y pc ls (.int b :: .int a :: st) σ Q ↔ (¬ b = 0 ∧ sd_Go E d y (pc + 1) ls (.int (a - a / b * b) :: st) σ Q) := (sd_goM hm hd).trans sd_K_if
theorem sd_g_ldiv {a b : Int64} (hm : sd_m y = (nm, cc, L, rt, o, rest)) (hd : decode cc pc = .ok (.ldiv, 1)) : sd_Go E d y pc ls (.long b :: .long a :: st) σ Q ↔ (¬ b = 0 ∧ sd_Go E d y (pc + 1) ls (.long (a / b) :: st) σ Q) := (sd_goM hm hd).trans sd_K_if
theorem sd_g_lrem {a b : Int64} (hm : sd_m y = (nm, cc, L, rt, o, rest)) (hd : decode cc pc = .ok (.lrem, 1)) : sd_Go E d y pc ls (.long b :: .long a :: st) σ Q ↔ (¬ b = 0 ∧ sd_Go E d y (pc + 1) ls (.long (a - a / b * b) :: st) σ Q) := (sd_goM hm hd).trans sd_K_if
theorem sd_g_dup {v : Value} (hm : sd_m y = (nm, cc, L, rt, o, rest)) (hd : decode cc pc = .ok (.dup, 1)) : sd_Go E d y pc ls (v :: st) σ Q ↔ (v.category = 1 ∧ sd_Go E d y (pc + 1) ls (v :: v :: st) σ Q) := (sd_goM hm hd).trans sd_K_if
theorem sd_g_pop {v : Value} (hm : sd_m y = (nm, cc, L, rt, o, rest)) (hd : decode cc pc = .ok (.pop, 1)) : sd_Go E d y pc ls (v :: st) σ Q ↔ (v.category = 1 ∧ sd_Go E d y (pc + 1) ls st σ Q) := (sd_goM hm hd).trans sd_K_if
theorem sd_g_dup2 {v w : Value} (hm : sd_m y = (nm, cc, L, rt, o, rest)) (hd : decode cc pc = .ok (.dup2, 1)) : sd_Go E d y pc ls (v :: w :: st) σ Q ↔ ((v.category = 1 ∧ w.category = 1) ∧ sd_Go E d y (pc + 1) ls (v :: w :: v :: w :: st) σ Q) := (sd_goM hm hd).trans sd_K_if
theorem sd_K_jmp {off : Int} {tgt : Nat} (ht : (pc : Int) + off = (tgt : Int)) : sd_K E d y pc ls σ Q (sd_jmp pc off ls st σ) ↔ sd_Go E d y tgt ls st σ Q := by
  unfold sd_jmp
  rw [if_pos (by rw [ht]; exact Int.natCast_nonneg _), ht]
  exact Iff.rfl
theorem sd_K_br {c : Prop} [Decidable c] {off : Int} {tgt : Nat} (ht : (pc : Int) + off = (tgt : Int)) : sd_K E d y pc ls σ Q (sd_if c pc off ls st σ) ↔ ((c → sd_Go E d y tgt ls st σ Q) ∧ (¬ c → sd_Go E d y (pc + 3) ls st σ Q)) := by
  unfold sd_if
  rw [if_pos (by rw [ht]; exact Int.natCast_nonneg _), ht]
  exact sd_K_ite
theorem sd_g_goto {off : Int} {tgt : Nat} (hm : sd_m y = (nm, cc, L, rt, o, rest)) (hd : decode cc pc = .ok (.goto off, 3)) (ht : (pc : Int) + off = (tgt : Int)) : sd_Go E d y pc ls st σ Q ↔ sd_Go E d y tgt ls st σ Q := (sd_goM hm hd).trans (sd_K_jmp ht)
theorem sd_g_ifeq {off : Int} {tgt : Nat} {x : Int32} (hm : sd_m y = (nm, cc, L, rt, o, rest)) (hd : decode cc pc = .ok (.ifCond .eq off, 3)) (ht : (pc : Int) + off = (tgt : Int)) : sd_Go E d y pc ls (.int x :: st) σ Q ↔ ((x = 0 → sd_Go E d y tgt ls st σ Q) ∧ (¬ x = 0 → sd_Go E d y (pc + 3) ls st σ Q)) := (sd_goM hm hd).trans (sd_K_br ht)
theorem sd_g_ifne {off : Int} {tgt : Nat} {x : Int32} (hm : sd_m y = (nm, cc, L, rt, o, rest)) (hd : decode cc pc = .ok (.ifCond .ne off, 3)) (ht : (pc : Int) + off = (tgt : Int)) : sd_Go E d y pc ls (.int x :: st) σ Q ↔ ((¬ x = 0 → sd_Go E d y tgt ls st σ Q) ∧ (x = 0 → sd_Go E d y (pc + 3) ls st σ Q)) := by
  refine (sd_goM hm hd).trans ((sd_K_br ht).trans ⟨fun h => ⟨h.1, fun z => h.2 (fun q => q z)⟩, fun h => ⟨h.1, fun z => h.2 (Classical.not_not.mp z)⟩⟩)
theorem sd_g_iflt {off : Int} {tgt : Nat} {x : Int32} (hm : sd_m y = (nm, cc, L, rt, o, rest)) (hd : decode cc pc = .ok (.ifCond .lt off, 3)) (ht : (pc : Int) + off = (tgt : Int)) : sd_Go E d y pc ls (.int x :: st) σ Q ↔ ((x < 0 → sd_Go E d y tgt ls st σ Q) ∧ (¬ x < 0 → sd_Go E d y (pc + 3) ls st σ Q)) := (sd_goM hm hd).trans (sd_K_br ht)
theorem sd_g_ifge {off : Int} {tgt : Nat} {x : Int32} (hm : sd_m y = (nm, cc, L, rt, o, rest)) (hd : decode cc pc = .ok (.ifCond .ge off, 3)) (ht : (pc : Int) + off = (tgt : Int)) : sd_Go E d y pc ls (.int x :: st) σ Q ↔ ((0 ≤ x → sd_Go E d y tgt ls st σ Q) ∧ (¬ 0 ≤ x → sd_Go E d y (pc + 3) ls st σ Q)) := (sd_goM hm hd).trans (sd_K_br ht)
theorem sd_g_ifgt {off : Int} {tgt : Nat} {x : Int32} (hm : sd_m y = (nm, cc, L, rt, o, rest)) (hd : decode cc pc = .ok (.ifCond .gt off, 3)) (ht : (pc : Int) + off = (tgt : Int)) : sd_Go E d y pc ls (.int x :: st) σ Q ↔ ((0 < x → sd_Go E d y tgt ls st σ Q) ∧ (¬ 0 < x → sd_Go E d y (pc + 3) ls st σ Q)) := (sd_goM hm hd).trans (sd_K_br ht)
theorem sd_g_ifle {off : Int} {tgt : Nat} {x : Int32} (hm : sd_m y = (nm, cc, L, rt, o, rest)) (hd : decode cc pc = .ok (.ifCond .le off, 3)) (ht : (pc : Int) + off = (tgt : Int)) : sd_Go E d y pc ls (.int x :: st) σ Q ↔ ((x ≤ 0 → sd_Go E d y tgt ls st σ Q) ∧ (¬ x ≤ 0 → sd_Go E d y (pc + 3) ls st σ Q)) := (sd_goM hm hd).trans (sd_K_br ht)
theorem sd_g_icmpeq {off : Int} {tgt : Nat} {a b : Int32} (hm : sd_m y = (nm, cc, L, rt, o, rest)) (hd : decode cc pc = .ok (.if_icmp .eq off, 3)) (ht : (pc : Int) + off = (tgt : Int)) : sd_Go E d y pc ls (.int b :: .int a :: st) σ Q ↔ ((a = b → sd_Go E d y tgt ls st σ Q) ∧ (¬ a = b → sd_Go E d y (pc + 3) ls st σ Q)) := (sd_goM hm hd).trans (sd_K_br ht)
theorem sd_g_icmpne {off : Int} {tgt : Nat} {a b : Int32} (hm : sd_m y = (nm, cc, L, rt, o, rest)) (hd : decode cc pc = .ok (.if_icmp .ne off, 3)) (ht : (pc : Int) + off = (tgt : Int)) : sd_Go E d y pc ls (.int b :: .int a :: st) σ Q ↔ ((¬ a = b → sd_Go E d y tgt ls st σ Q) ∧ (a = b → sd_Go E d y (pc + 3) ls st σ Q)) := by
  refine (sd_goM hm hd).trans ((sd_K_br ht).trans ⟨fun h => ⟨h.1, fun z => h.2 (fun q => q z)⟩, fun h => ⟨h.1, fun z => h.2 (Classical.not_not.mp z)⟩⟩)
theorem sd_g_icmplt {off : Int} {tgt : Nat} {a b : Int32} (hm : sd_m y = (nm, cc, L, rt, o, rest)) (hd : decode cc pc = .ok (.if_icmp .lt off, 3)) (ht : (pc : Int) + off = (tgt : Int)) : sd_Go E d y pc ls (.int b :: .int a :: st) σ Q ↔ ((a < b → sd_Go E d y tgt ls st σ Q) ∧ (¬ a < b → sd_Go E d y (pc + 3) ls st σ Q)) := (sd_goM hm hd).trans (sd_K_br ht)
theorem sd_g_icmpge {off : Int} {tgt : Nat} {a b : Int32} (hm : sd_m y = (nm, cc, L, rt, o, rest)) (hd : decode cc pc = .ok (.if_icmp .ge off, 3)) (ht : (pc : Int) + off = (tgt : Int)) : sd_Go E d y pc ls (.int b :: .int a :: st) σ Q ↔ ((b ≤ a → sd_Go E d y tgt ls st σ Q) ∧ (¬ b ≤ a → sd_Go E d y (pc + 3) ls st σ Q)) := (sd_goM hm hd).trans (sd_K_br ht)
theorem sd_g_icmpgt {off : Int} {tgt : Nat} {a b : Int32} (hm : sd_m y = (nm, cc, L, rt, o, rest)) (hd : decode cc pc = .ok (.if_icmp .gt off, 3)) (ht : (pc : Int) + off = (tgt : Int)) : sd_Go E d y pc ls (.int b :: .int a :: st) σ Q ↔ ((b < a → sd_Go E d y tgt ls st σ Q) ∧ (¬ b < a → sd_Go E d y (pc + 3) ls st σ Q)) := (sd_goM hm hd).trans (sd_K_br ht)
theorem sd_g_icmple {off : Int} {tgt : Nat} {a b : Int32} (hm : sd_m y = (nm, cc, L, rt, o, rest)) (hd : decode cc pc = .ok (.if_icmp .le off, 3)) (ht : (pc : Int) + off = (tgt : Int)) : sd_Go E d y pc ls (.int b :: .int a :: st) σ Q ↔ ((a ≤ b → sd_Go E d y tgt ls st σ Q) ∧ (¬ a ≤ b → sd_Go E d y (pc + 3) ls st σ Q)) := (sd_goM hm hd).trans (sd_K_br ht)
theorem sd_g_get {n ci f z a : Nat} {v : Value} (hm : sd_m y = (nm, cc, L, rt, o, rest)) (hd : decode cc pc = .ok (.getfield n, 3)) (hf : sd_fl o n = some (ci, f, z)) (hv : sd_val E σ a ci f = v) : sd_Go E d y pc ls (.ref a :: st) σ Q ↔ (sd_sh a = .inl ci ∧ sd_Go E d y (pc + 3) ls (v :: st) σ Q) := by
  subst hv
  rw [sd_goM hm hd]
  show sd_K E d y pc ls σ Q (match sd_fl o n with | some (ci, f, _) => if sd_sh a = .inl ci then sd_nx (pc + 3) ls (sd_val E σ a ci f :: st) σ else none | none => match sd_sf o n with | some (t, _) => if 410 ≤ a ∧ a < 419 then sd_nx (pc + 3) ls ((if t = 0 then .ref (a + 20) else .int 0) :: st) σ else none | none => none) ↔ _
  rw [hf]
  exact sd_K_if
theorem sd_vI {a ci f : Nat} (h : sd_kd ci f = 0) : sd_val E σ a ci f = .int (σ.1 a f) := by unfold sd_val; rw [h] <;> rfl
theorem sd_vZ {a ci f : Nat} (h : sd_kd ci f = 3) : sd_val E σ a ci f = .int (σ.1 a f) := by unfold sd_val; rw [h] <;> rfl
theorem sd_vL {a ci f : Nat} (h : sd_kd ci f = 1) : sd_val E σ a ci f = .long (σ.2.1 a f) := by unfold sd_val; rw [h] <;> rfl
theorem sd_vR {a ci f : Nat} (h : sd_kd ci f = 2) : sd_val E σ a ci f = va_rf (sd_gR E σ a f) := by unfold sd_val; rw [h] <;> rfl
theorem sd_g_put {n ci f z a : Nat} {v : Value} {σ' : sd_Mem} (hm : sd_m y = (nm, cc, L, rt, o, rest)) (hd : decode cc pc = .ok (.putfield n, 3)) (hf : sd_fl o n = some (ci, f, z)) (hfin : ((sd_C ci).2.1 f).2.2.2 = false) (hv : sd_put1 E σ a ci f v = some σ') : sd_Go E d y pc ls (v :: .ref a :: st) σ Q ↔ (sd_sh a = .inl ci ∧ sd_Go E d y (pc + 3) ls st σ' Q) := by
  rw [sd_goM hm hd]
  show sd_K E d y pc ls σ Q (match sd_fl o n with | some (ci, f, _) => if sd_sh a = .inl ci ∧ ((sd_C ci).2.1 f).2.2.2 = false then (match sd_put1 E σ a ci f v with | some σ' => sd_nx (pc + 3) ls st σ' | none => none) else none | none => none) ↔ _
  rw [hf]
  refine sd_K_if.trans ?_
  rw [hv]
  exact ⟨fun h => ⟨h.1.1, h.2⟩, fun h => ⟨⟨h.1, hfin⟩, h.2⟩⟩
theorem sd_pI {a ci f : Nat} {x : Int32} (h : sd_kd ci f = 0) : sd_put1 E σ a ci f (.int x) = some (sd_wI σ a f x) := by unfold sd_put1; rw [h] <;> rfl
theorem sd_pL {a ci f : Nat} {x : Int64} (h : sd_kd ci f = 1) : sd_put1 E σ a ci f (.long x) = some (sd_wL σ a f x) := by unfold sd_put1; rw [h] <;> rfl
theorem sd_pZ {a ci f : Nat} {x : Int32} (h : sd_kd ci f = 3) (hx : x = 0 ∨ x = 1) : sd_put1 E σ a ci f (.int x) = some (sd_wI σ a f x) := by unfold sd_put1; rw [h]; exact if_pos hx
theorem sd_pR {a ci f b : Nat} (h : sd_kd ci f = 2) (hx : E.1 a f = none) : sd_put1 E σ a ci f (.ref b) = some (sd_wR σ a f (some b)) := by unfold sd_put1; rw [h]; exact if_pos hx
/-- i is a place of the array a, of kind t -/
def sd_in' (t a : Nat) (i : Int32) : Prop := ∃ n, sd_sh a = .inr (t, n) ∧ ¬ (i < 0 ∨ n ≤ i.toNatClampNeg)
theorem sd_g_iald {a : Nat} {i : Int32} (hm : sd_m y = (nm, cc, L, rt, o, rest)) (hd : decode cc pc = .ok (.iaload, 1)) (h : sd_in' 0 a i) : sd_Go E d y pc ls (.int i :: .ref a :: st) σ Q ↔ sd_Go E d y (pc + 1) ls (.int (σ.1 a i.toNatClampNeg) :: st) σ Q := by
  obtain ⟨n, h1, h2⟩ := h
  rw [sd_goM hm hd]
  show sd_K E d y pc ls σ Q (sd_ld E σ a i fun v => sd_nx (pc + 1) ls (.int v :: st) σ) ↔ _
  unfold sd_ld
  rw [h1]
  show sd_K E d y pc ls σ Q (if ¬ (i < 0 ∨ n ≤ i.toNatClampNeg) then sd_nx (pc + 1) ls (.int (σ.1 a i.toNatClampNeg) :: st) σ else none) ↔ _
  rw [if_pos h2]
  exact Iff.rfl
theorem sd_g_xald {a n : Nat} {f : Nat → Int32} {i : Int32} (hm : sd_m y = (nm, cc, L, rt, o, rest)) (hd : decode cc pc = .ok (.iaload, 1)) (hs : sd_sh a = .inr (9, 0)) (hE : E.2 a = some (n, f)) (h2 : ¬ (i < 0 ∨ n ≤ i.toNatClampNeg)) : sd_Go E d y pc ls (.int i :: .ref a :: st) σ Q ↔ sd_Go E d y (pc + 1) ls (.int (f i.toNatClampNeg) :: st) σ Q := by
  rw [sd_goM hm hd]
  show sd_K E d y pc ls σ Q (sd_ld E σ a i fun v => sd_nx (pc + 1) ls (.int v :: st) σ) ↔ _
  unfold sd_ld
  rw [hs]
  show sd_K E d y pc ls σ Q (match E.2 a with | some (n, f) => if ¬ (i < 0 ∨ n ≤ i.toNatClampNeg) then sd_nx (pc + 1) ls (.int (f i.toNatClampNeg) :: st) σ else none | none => none) ↔ _
  rw [hE]
  show sd_K E d y pc ls σ Q (if ¬ (i < 0 ∨ n ≤ i.toNatClampNeg) then sd_nx (pc + 1) ls (.int (f i.toNatClampNeg) :: st) σ else none) ↔ _
  rw [if_pos h2]
  exact Iff.rfl
theorem sd_g_bald {a : Nat} {i : Int32} (hm : sd_m y = (nm, cc, L, rt, o, rest)) (hd : decode cc pc = .ok (.baload, 1)) (h : sd_in' 1 a i) : sd_Go E d y pc ls (.int i :: .ref a :: st) σ Q ↔ sd_Go E d y (pc + 1) ls (.int (σ.1 a i.toNatClampNeg) :: st) σ Q := by
  obtain ⟨n, h1, h2⟩ := h
  rw [sd_goM hm hd]
  show sd_K E d y pc ls σ Q (match sd_sh a with | .inr (1, n) => if ¬ (i < 0 ∨ n ≤ i.toNatClampNeg) then sd_nx (pc + 1) ls (.int (σ.1 a i.toNatClampNeg) :: st) σ else none | _ => if (430 ≤ a ∧ a < 439) ∧ ¬ (i < 0 ∨ sd_slen.getD (a - 430) 0 ≤ i.toNatClampNeg) then sd_nx (pc + 1) ls (.int ((sd_sbyt.getD (a - 430) []).getD i.toNatClampNeg 0) :: st) σ else none) ↔ _
  rw [h1]
  show sd_K E d y pc ls σ Q (if ¬ (i < 0 ∨ n ≤ i.toNatClampNeg) then sd_nx (pc + 1) ls (.int (σ.1 a i.toNatClampNeg) :: st) σ else none) ↔ _
  rw [if_pos h2]
  exact Iff.rfl
theorem sd_g_sald {a : Nat} {i : Int32} (hm : sd_m y = (nm, cc, L, rt, o, rest)) (hd : decode cc pc = .ok (.baload, 1)) (hs : sd_sh a = .inr (9, 0)) : sd_Go E d y pc ls (.int i :: .ref a :: st) σ Q ↔ (((430 ≤ a ∧ a < 439) ∧ ¬ (i < 0 ∨ sd_slen.getD (a - 430) 0 ≤ i.toNatClampNeg)) ∧ sd_Go E d y (pc + 1) ls (.int ((sd_sbyt.getD (a - 430) []).getD i.toNatClampNeg 0) :: st) σ Q) := by
  rw [sd_goM hm hd]
  show sd_K E d y pc ls σ Q (match sd_sh a with | .inr (1, n) => if ¬ (i < 0 ∨ n ≤ i.toNatClampNeg) then sd_nx (pc + 1) ls (.int (σ.1 a i.toNatClampNeg) :: st) σ else none | _ => if (430 ≤ a ∧ a < 439) ∧ ¬ (i < 0 ∨ sd_slen.getD (a - 430) 0 ≤ i.toNatClampNeg) then sd_nx (pc + 1) ls (.int ((sd_sbyt.getD (a - 430) []).getD i.toNatClampNeg 0) :: st) σ else none) ↔ _
  rw [hs]
  exact sd_K_if
theorem sd_g_lald {a : Nat} {i : Int32} (hm : sd_m y = (nm, cc, L, rt, o, rest)) (hd : decode cc pc = .ok (.laload, 1)) (h : sd_in' 2 a i) : sd_Go E d y pc ls (.int i :: .ref a :: st) σ Q ↔ sd_Go E d y (pc + 1) ls (.long (σ.2.1 a i.toNatClampNeg) :: st) σ Q := by
  obtain ⟨n, h1, h2⟩ := h
  rw [sd_goM hm hd]
  show sd_K E d y pc ls σ Q (match sd_sh a with | .inr (2, n) => if ¬ (i < 0 ∨ n ≤ i.toNatClampNeg) then sd_nx (pc + 1) ls (.long (σ.2.1 a i.toNatClampNeg) :: st) σ else none | _ => none) ↔ _
  rw [h1]
  show sd_K E d y pc ls σ Q (if ¬ (i < 0 ∨ n ≤ i.toNatClampNeg) then sd_nx (pc + 1) ls (.long (σ.2.1 a i.toNatClampNeg) :: st) σ else none) ↔ _
  rw [if_pos h2]
  exact Iff.rfl
theorem sd_g_aald {a : Nat} {i : Int32} (hm : sd_m y = (nm, cc, L, rt, o, rest)) (hd : decode cc pc = .ok (.aaload, 1)) (h : sd_in' 3 a i ∨ sd_in' 4 a i) : sd_Go E d y pc ls (.int i :: .ref a :: st) σ Q ↔ sd_Go E d y (pc + 1) ls (va_rf (sd_gR E σ a i.toNatClampNeg) :: st) σ Q := by
  rw [sd_goM hm hd]
  show sd_K E d y pc ls σ Q (match sd_sh a with | .inr (3, n) => if ¬ (i < 0 ∨ n ≤ i.toNatClampNeg) then sd_nx (pc + 1) ls (va_rf (sd_gR E σ a i.toNatClampNeg) :: st) σ else none | .inr (4, n) => if ¬ (i < 0 ∨ n ≤ i.toNatClampNeg) then sd_nx (pc + 1) ls (va_rf (sd_gR E σ a i.toNatClampNeg) :: st) σ else none | _ => none) ↔ _
  rcases h with ⟨n, h1, h2⟩ | ⟨n, h1, h2⟩ <;>
  · rw [h1]
    show sd_K E d y pc ls σ Q (if ¬ (i < 0 ∨ n ≤ i.toNatClampNeg) then sd_nx (pc + 1) ls (va_rf (sd_gR E σ a i.toNatClampNeg) :: st) σ else none) ↔ _
    rw [if_pos h2]
    exact Iff.rfl
theorem sd_g_iast {a : Nat} {i v : Int32} (hm : sd_m y = (nm, cc, L, rt, o, rest)) (hd : decode cc pc = .ok (.iastore, 1)) (h : sd_in' 0 a i) : sd_Go E d y pc ls (.int v :: .int i :: .ref a :: st) σ Q ↔ sd_Go E d y (pc + 1) ls st (sd_wI σ a i.toNatClampNeg v) Q := by
  obtain ⟨n, h1, h2⟩ := h
  rw [sd_goM hm hd]
  show sd_K E d y pc ls σ Q (match sd_sh a with | .inr (0, n) => if ¬ (i < 0 ∨ n ≤ i.toNatClampNeg) then sd_nx (pc + 1) ls st (sd_wI σ a i.toNatClampNeg v) else none | _ => none) ↔ _
  rw [h1]
  show sd_K E d y pc ls σ Q (if ¬ (i < 0 ∨ n ≤ i.toNatClampNeg) then sd_nx (pc + 1) ls st (sd_wI σ a i.toNatClampNeg v) else none) ↔ _
  rw [if_pos h2]
  exact Iff.rfl
theorem sd_g_bast {a : Nat} {i v : Int32} (hm : sd_m y = (nm, cc, L, rt, o, rest)) (hd : decode cc pc = .ok (.bastore, 1)) (h : sd_in' 1 a i) : sd_Go E d y pc ls (.int v :: .int i :: .ref a :: st) σ Q ↔ sd_Go E d y (pc + 1) ls st (sd_wI σ a i.toNatClampNeg (vp_nar .byte v)) Q := by
  obtain ⟨n, h1, h2⟩ := h
  rw [sd_goM hm hd]
  show sd_K E d y pc ls σ Q (match sd_sh a with | .inr (1, n) => if ¬ (i < 0 ∨ n ≤ i.toNatClampNeg) then sd_nx (pc + 1) ls st (sd_wI σ a i.toNatClampNeg (vp_nar .byte v)) else none | _ => none) ↔ _
  rw [h1]
  show sd_K E d y pc ls σ Q (if ¬ (i < 0 ∨ n ≤ i.toNatClampNeg) then sd_nx (pc + 1) ls st (sd_wI σ a i.toNatClampNeg (vp_nar .byte v)) else none) ↔ _
  rw [if_pos h2]
  exact Iff.rfl
theorem sd_g_last {a : Nat} {i : Int32} {v : Int64} (hm : sd_m y = (nm, cc, L, rt, o, rest)) (hd : decode cc pc = .ok (.lastore, 1)) (h : sd_in' 2 a i) : sd_Go E d y pc ls (.long v :: .int i :: .ref a :: st) σ Q ↔ sd_Go E d y (pc + 1) ls st (sd_wL σ a i.toNatClampNeg v) Q := by
  obtain ⟨n, h1, h2⟩ := h
  rw [sd_goM hm hd]
  show sd_K E d y pc ls σ Q (match sd_sh a with | .inr (2, n) => if ¬ (i < 0 ∨ n ≤ i.toNatClampNeg) then sd_nx (pc + 1) ls st (sd_wL σ a i.toNatClampNeg v) else none | _ => none) ↔ _
  rw [h1]
  show sd_K E d y pc ls σ Q (if ¬ (i < 0 ∨ n ≤ i.toNatClampNeg) then sd_nx (pc + 1) ls st (sd_wL σ a i.toNatClampNeg v) else none) ↔ _
  rw [if_pos h2]
  exact Iff.rfl
theorem sd_g_alen {a n : Nat} (hm : sd_m y = (nm, cc, L, rt, o, rest)) (hd : decode cc pc = .ok (.arraylength, 1)) (h : sd_sh a = .inr (0, n)) : sd_Go E d y pc ls (.ref a :: st) σ Q ↔ sd_Go E d y (pc + 1) ls (.int (nI n) :: st) σ Q := by
  rw [sd_goM hm hd]
  show sd_K E d y pc ls σ Q (match sd_sh a with | .inr (0, n) => sd_nx (pc + 1) ls (.int (Int32.ofNat n) :: st) σ | _ => match E.2 a with | some (n, _) => sd_nx (pc + 1) ls (.int (Int32.ofNat n) :: st) σ | none => if 430 ≤ a ∧ a < 439 then sd_nx (pc + 1) ls (.int (Int32.ofNat (sd_slen.getD (a - 430) 0)) :: st) σ else none) ↔ _
  rw [h]
  exact Iff.rfl
theorem sd_g_xlen {a n : Nat} {f : Nat → Int32} (hm : sd_m y = (nm, cc, L, rt, o, rest)) (hd : decode cc pc = .ok (.arraylength, 1)) (hs : sd_sh a = .inr (9, 0)) (hE : E.2 a = some (n, f)) : sd_Go E d y pc ls (.ref a :: st) σ Q ↔ sd_Go E d y (pc + 1) ls (.int (nI n) :: st) σ Q := by
  rw [sd_goM hm hd]
  show sd_K E d y pc ls σ Q (match sd_sh a with | .inr (0, n) => sd_nx (pc + 1) ls (.int (Int32.ofNat n) :: st) σ | _ => match E.2 a with | some (n, _) => sd_nx (pc + 1) ls (.int (Int32.ofNat n) :: st) σ | none => if 430 ≤ a ∧ a < 439 then sd_nx (pc + 1) ls (.int (Int32.ofNat (sd_slen.getD (a - 430) 0)) :: st) σ else none) ↔ _
  rw [hs]
  show sd_K E d y pc ls σ Q (match E.2 a with | some (n, _) => sd_nx (pc + 1) ls (.int (Int32.ofNat n) :: st) σ | none => if 430 ≤ a ∧ a < 439 then sd_nx (pc + 1) ls (.int (Int32.ofNat (sd_slen.getD (a - 430) 0)) :: st) σ else none) ↔ _
  rw [hE]
  exact Iff.rfl
theorem sd_g_slen {a : Nat} (hm : sd_m y = (nm, cc, L, rt, o, rest)) (hd : decode cc pc = .ok (.arraylength, 1)) (hs : sd_sh a = .inr (9, 0)) (hE : E.2 a = none) : sd_Go E d y pc ls (.ref a :: st) σ Q ↔ ((430 ≤ a ∧ a < 439) ∧ sd_Go E d y (pc + 1) ls (.int (nI (sd_slen.getD (a - 430) 0)) :: st) σ Q) := by
  rw [sd_goM hm hd]
  show sd_K E d y pc ls σ Q (match sd_sh a with | .inr (0, n) => sd_nx (pc + 1) ls (.int (Int32.ofNat n) :: st) σ | _ => match E.2 a with | some (n, _) => sd_nx (pc + 1) ls (.int (Int32.ofNat n) :: st) σ | none => if 430 ≤ a ∧ a < 439 then sd_nx (pc + 1) ls (.int (Int32.ofNat (sd_slen.getD (a - 430) 0)) :: st) σ else none) ↔ _
  rw [hs]
  show sd_K E d y pc ls σ Q (match E.2 a with | some (n, _) => sd_nx (pc + 1) ls (.int (Int32.ofNat n) :: st) σ | none => if 430 ≤ a ∧ a < 439 then sd_nx (pc + 1) ls (.int (Int32.ofNat (sd_slen.getD (a - 430) 0)) :: st) σ else none) ↔ _
  rw [hE]
  exact sd_K_if
theorem sd_g_callV {n y' a z1 z2 k : Nat} {r : List Value} (hm : sd_m y = (nm, cc, L, rt, o, rest)) (hd : decode cc pc = .ok (.invokevirtual n, 3)) (hl : sd_lk o n = some (y', 0, z1, z2)) (hk : (sd_m y').2.2.2.2.2.1 = k) (hst : st.drop k = .ref a :: r) {ci : Nat} (hci : (sd_m y').2.2.2.2.1 = ci) : sd_Go E d y pc ls st σ Q ↔ (((sd_sh a = .inl ci ∨ (ci = 15 ∧ 410 ≤ a ∧ a < 419)) ∧ sd_cat r ≤ 8) ∧ sd_Call E d y' (.ref a :: (st.take k).reverse) σ (fun v σ' => sd_Go E d y (pc + 3) ls (v.toList ++ r) σ' Q)) := by
  subst hk
  subst hci
  rw [sd_goM hm hd]
  show sd_K E d y pc ls σ Q (match sd_lk o n with | some (y, 0, _) => (match st.drop (sd_m y).2.2.2.2.2.1 with | .ref a :: r => if (sd_sh a = .inl (sd_m y).2.2.2.2.1 ∨ ((sd_m y).2.2.2.2.1 = 15 ∧ 410 ≤ a ∧ a < 419)) ∧ sd_cat r ≤ 8 then some (.inr (.inl (y, .ref a :: (st.take (sd_m y).2.2.2.2.2.1).reverse, r))) else none | _ => none) | _ => none) ↔ _
  rw [hl]
  show sd_K E d y pc ls σ Q (match st.drop (sd_m y').2.2.2.2.2.1 with | .ref a :: r => if (sd_sh a = .inl (sd_m y').2.2.2.2.1 ∨ ((sd_m y').2.2.2.2.1 = 15 ∧ 410 ≤ a ∧ a < 419)) ∧ sd_cat r ≤ 8 then some (.inr (.inl (y', .ref a :: (st.take (sd_m y').2.2.2.2.2.1).reverse, r))) else none | _ => none) ↔ _
  rw [hst]
  exact sd_K_if
theorem sd_g_callO {n y' a z1 z2 k : Nat} {r : List Value} (hm : sd_m y = (nm, cc, L, rt, o, rest)) (hd : decode cc pc = .ok (.invokevirtual n, 3)) (hl : sd_lk o n = some (y', 0, z1, z2)) (hk : (sd_m y').2.2.2.2.2.1 = k) (hst : st.drop k = .ref a :: r) {ci : Nat} (hci : (sd_m y').2.2.2.2.1 = ci) (hne : ci ≠ 15) : sd_Go E d y pc ls st σ Q ↔ ((sd_sh a = .inl ci ∧ sd_cat r ≤ 8) ∧ sd_Call E d y' (.ref a :: (st.take k).reverse) σ (fun v σ' => sd_Go E d y (pc + 3) ls (v.toList ++ r) σ' Q)) :=
  (sd_g_callV hm hd hl hk hst hci).trans ⟨fun h => ⟨⟨h.1.1.elim id (fun q => absurd q.1 hne), h.1.2⟩, h.2⟩, fun h => ⟨⟨Or.inl h.1.1, h.1.2⟩, h.2⟩⟩
theorem sd_g_callT {n y' a z1 z2 k : Nat} {r : List Value} (hm : sd_m y = (nm, cc, L, rt, o, rest)) (hd : decode cc pc = .ok (.invokevirtual n, 3)) (hl : sd_lk o n = some (y', 0, z1, z2)) (hk : (sd_m y').2.2.2.2.2.1 = k) (hst : st.drop k = .ref a :: r) (hci : (sd_m y').2.2.2.2.1 = 15) (ha : 410 ≤ a ∧ a < 419) : sd_Go E d y pc ls st σ Q ↔ (sd_cat r ≤ 8 ∧ sd_Call E d y' (.ref a :: (st.take k).reverse) σ (fun v σ' => sd_Go E d y (pc + 3) ls (v.toList ++ r) σ' Q)) :=
  (sd_g_callV hm hd hl hk hst hci).trans ⟨fun h => ⟨h.1.2, h.2⟩, fun h => ⟨⟨Or.inr ⟨rfl, ha⟩, h.1⟩, h.2⟩⟩
theorem sd_g_tswO {dflt lo hi : Int} {offs : Array Int} {len tgt : Nat} {x : Int32} (hm : sd_m y = (nm, cc, L, rt, o, rest)) (hd : decode cc pc = .ok (.tableswitch dflt lo hi offs, len)) (h : x.toInt < lo ∨ hi < x.toInt) (ht : (pc : Int) + dflt = (tgt : Int)) : sd_Go E d y pc ls (.int x :: st) σ Q ↔ sd_Go E d y tgt ls st σ Q := by
  rw [sd_goM hm hd]
  show sd_K E d y pc ls σ Q (if x.toInt < lo ∨ hi < x.toInt then sd_jmp pc dflt ls st σ else match offs[(x.toInt - lo).toNat]? with | some off => sd_jmp pc off ls st σ | none => none) ↔ _
  rw [if_pos h]
  exact sd_K_jmp ht
theorem sd_g_tswI {dflt lo hi off : Int} {offs : Array Int} {len tgt : Nat} {x : Int32} (hm : sd_m y = (nm, cc, L, rt, o, rest)) (hd : decode cc pc = .ok (.tableswitch dflt lo hi offs, len)) (h : ¬ (x.toInt < lo ∨ hi < x.toInt)) (ho : offs[(x.toInt - lo).toNat]? = some off) (ht : (pc : Int) + off = (tgt : Int)) : sd_Go E d y pc ls (.int x :: st) σ Q ↔ sd_Go E d y tgt ls st σ Q := by
  rw [sd_goM hm hd]
  show sd_K E d y pc ls σ Q (if x.toInt < lo ∨ hi < x.toInt then sd_jmp pc dflt ls st σ else match offs[(x.toInt - lo).toNat]? with | some off => sd_jmp pc off ls st σ | none => none) ↔ _
  rw [if_neg h, ho]
  exact sd_K_jmp ht
theorem sd_g_callS {n y' z1 z2 k : Nat} (hm : sd_m y = (nm, cc, L, rt, o, rest)) (hd : decode cc pc = .ok (.invokestatic n, 3)) (hac : sd_ac o n = none) (hmt : sd_mt o n = none) (hl : sd_lk o n = some (y', 1, z1, z2)) (hk : (sd_m y').2.2.2.2.2.1 = k) (hst : k ≤ st.length) : sd_Go E d y pc ls st σ Q ↔ (sd_cat (st.drop k) ≤ 8 ∧ sd_Call E d y' (st.take k).reverse σ (fun v σ' => sd_Go E d y (pc + 3) ls (v.toList ++ st.drop k) σ' Q)) := by
  subst hk
  rw [sd_goM hm hd]
  show sd_K E d y pc ls σ Q (match sd_ac o n with | some _ => sd_cpy E σ (pc + 3) ls st | none => match sd_mt o n with | some (t, _) => sd_mth t (pc + 3) ls st σ | none => match sd_lk o n with | some (y, 1, _) => if (sd_m y).2.2.2.2.2.1 ≤ st.length ∧ sd_cat (st.drop (sd_m y).2.2.2.2.2.1) ≤ 8 then some (.inr (.inl (y, (st.take (sd_m y).2.2.2.2.2.1).reverse, st.drop (sd_m y).2.2.2.2.2.1))) else none | _ => none) ↔ _
  rw [hac]
  show sd_K E d y pc ls σ Q (match sd_mt o n with | some (t, _) => sd_mth t (pc + 3) ls st σ | none => match sd_lk o n with | some (y, 1, _) => if (sd_m y).2.2.2.2.2.1 ≤ st.length ∧ sd_cat (st.drop (sd_m y).2.2.2.2.2.1) ≤ 8 then some (.inr (.inl (y, (st.take (sd_m y).2.2.2.2.2.1).reverse, st.drop (sd_m y).2.2.2.2.2.1))) else none | _ => none) ↔ _
  rw [hmt]
  show sd_K E d y pc ls σ Q (match sd_lk o n with | some (y, 1, _) => if (sd_m y).2.2.2.2.2.1 ≤ st.length ∧ sd_cat (st.drop (sd_m y).2.2.2.2.2.1) ≤ 8 then some (.inr (.inl (y, (st.take (sd_m y).2.2.2.2.2.1).reverse, st.drop (sd_m y).2.2.2.2.2.1))) else none | _ => none) ↔ _
  rw [hl]
  refine sd_K_if.trans ⟨fun h => ⟨h.1.2, h.2⟩, fun h => ⟨⟨hst, h.1⟩, h.2⟩⟩
theorem sd_g_mth {n t z : Nat} {r : sd_O} (hm : sd_m y = (nm, cc, L, rt, o, rest)) (hd : decode cc pc = .ok (.invokestatic n, 3)) (hac : sd_ac o n = none) (hmt : sd_mt o n = some (t, z)) (hr : sd_mth t (pc + 3) ls st σ = r) : sd_Go E d y pc ls st σ Q ↔ sd_K E d y pc ls σ Q r := by
  subst hr
  rw [sd_goM hm hd]
  show sd_K E d y pc ls σ Q (match sd_ac o n with | some _ => sd_cpy E σ (pc + 3) ls st | none => match sd_mt o n with | some (t, _) => sd_mth t (pc + 3) ls st σ | none => match sd_lk o n with | some (y, 1, _) => if (sd_m y).2.2.2.2.2.1 ≤ st.length ∧ sd_cat (st.drop (sd_m y).2.2.2.2.2.1) ≤ 8 then some (.inr (.inl (y, (st.take (sd_m y).2.2.2.2.2.1).reverse, st.drop (sd_m y).2.2.2.2.2.1))) else none | _ => none) ↔ _
  rw [hac]
  show sd_K E d y pc ls σ Q (match sd_mt o n with | some (t, _) => sd_mth t (pc + 3) ls st σ | none => match sd_lk o n with | some (y, 1, _) => if (sd_m y).2.2.2.2.2.1 ≤ st.length ∧ sd_cat (st.drop (sd_m y).2.2.2.2.2.1) ≤ 8 then some (.inr (.inl (y, (st.take (sd_m y).2.2.2.2.2.1).reverse, st.drop (sd_m y).2.2.2.2.2.1))) else none | _ => none) ↔ _
  rw [hmt]
theorem sd_g_cpy {n z a a0 n0 n1 : Nat} {k dp sp : Int32} (hm : sd_m y = (nm, cc, L, rt, o, rest)) (hd : decode cc pc = .ok (.invokestatic n, 3)) (hac : sd_ac o n = some z) (h0 : sd_sh a0 = .inr (0, n0)) (h1 : sd_sh a = .inr (0, n1)) : sd_Go E d y pc ls (.int k :: .int dp :: .ref a :: .int sp :: .ref a0 :: st) σ Q ↔ ((¬ sp < 0 ∧ ¬ dp < 0 ∧ ¬ k < 0 ∧ sp.toNatClampNeg + k.toNatClampNeg ≤ n0 ∧ dp.toNatClampNeg + k.toNatClampNeg ≤ n1 ∧ sd_cat st ≤ 8) ∧ sd_Go E d y (pc + 3) ls st (sd_wA σ a (va_cpy (σ.1 a0) (σ.1 a) sp.toNatClampNeg dp.toNatClampNeg k.toNatClampNeg)) Q) := by
  rw [sd_goM hm hd]
  show sd_K E d y pc ls σ Q (match sd_ac o n with | some _ => sd_cpy E σ (pc + 3) ls (.int k :: .int dp :: .ref a :: .int sp :: .ref a0 :: st) | none => match sd_mt o n with | some (t, _) => sd_mth t (pc + 3) ls (.int k :: .int dp :: .ref a :: .int sp :: .ref a0 :: st) σ | none => match sd_lk o n with | some (y, 1, _) => if (sd_m y).2.2.2.2.2.1 ≤ (.int k :: .int dp :: .ref a :: .int sp :: .ref a0 :: st : List Value).length ∧ sd_cat ((.int k :: .int dp :: .ref a :: .int sp :: .ref a0 :: st : List Value).drop (sd_m y).2.2.2.2.2.1) ≤ 8 then some (.inr (.inl (y, ((.int k :: .int dp :: .ref a :: .int sp :: .ref a0 :: st : List Value).take (sd_m y).2.2.2.2.2.1).reverse, (.int k :: .int dp :: .ref a :: .int sp :: .ref a0 :: st : List Value).drop (sd_m y).2.2.2.2.2.1))) else none | _ => none) ↔ _
  rw [hac]
  show sd_K E d y pc ls σ Q (sd_cpy E σ (pc + 3) ls (.int k :: .int dp :: .ref a :: .int sp :: .ref a0 :: st)) ↔ _
  unfold sd_cpy
  dsimp only
  rw [h0, h1]
  exact sd_K_if
theorem sd_g_iret {v : Int32} {o2 : Nat} (hm : sd_m y = (nm, cc, L, some .int, o2, rest)) (hd : decode cc pc = .ok (.ireturn, 1)) : sd_Go E d y pc ls [.int v] σ Q ↔ Q (some (.int v)) σ := sd_goM hm hd
theorem sd_g_zret {v : Int32} {o2 : Nat} (hm : sd_m y = (nm, cc, L, some .boolean, o2, rest)) (hd : decode cc pc = .ok (.ireturn, 1)) : sd_Go E d y pc ls [.int v] σ Q ↔ ((v = 0 ∨ v = 1) ∧ Q (some (.int v)) σ) := (sd_goM hm hd).trans sd_K_if
theorem sd_g_lret {v : Int64} {o2 : Nat} (hm : sd_m y = (nm, cc, L, some .long, o2, rest)) (hd : decode cc pc = .ok (.lreturn, 1)) : sd_Go E d y pc ls [.long v] σ Q ↔ Q (some (.long v)) σ := sd_goM hm hd
theorem sd_g_vret {o2 : Nat} (hm : sd_m y = (nm, cc, L, none, o2, rest)) (hd : decode cc pc = .ok (.return_, 1)) : sd_Go E d y pc ls [] σ Q ↔ Q none σ := sd_goM hm hd
end SDR
/-! a call has one answer -/
theorem sd_run_det {E : sd_E} {C : Nat → List Value → sd_Mem → Option Value → sd_Mem → Prop} {y : Nat} (hC : ∀ y av σ v1 σ1 v2 σ2, C y av σ v1 σ1 → C y av σ v2 σ2 → v1 = v2 ∧ σ1 = σ2) : ∀ (n m pc : Nat) (ls st : List Value) (σ : sd_Mem) (v1 : Option Value) (σ1 : sd_Mem) (v2 : Option Value) (σ2 : sd_Mem), sd_run E C y n pc ls st σ v1 σ1 → sd_run E C y m pc ls st σ v2 σ2 → v1 = v2 ∧ σ1 = σ2
  | 0, _, _, _, _, _, _, _, _, _, h, _ => by cases h
  | _ + 1, 0, _, _, _, _, _, _, _, _, _, h => by cases h
  | n + 1, m + 1, pc, ls, st, σ, v1, σ1, v2, σ2, h1, h2 => by
    unfold sd_run at h1 h2
    cases hs : sd_step E y pc ls st σ with
    | none => rw [hs] at h1; cases h1
    | some z =>
      rw [hs] at h1 h2
      rcases z with z | q | v
      · exact sd_run_det hC n m _ _ _ _ _ _ _ _ h1 h2
      · obtain ⟨w1, τ1, c1, h1⟩ := h1
        obtain ⟨w2, τ2, c2, h2⟩ := h2
        obtain ⟨rfl, rfl⟩ := hC _ _ _ _ _ _ _ c1 c2
        exact sd_run_det hC n m _ _ _ _ _ _ _ _ h1 h2
      · exact ⟨h1.1.symm.trans h2.1, h1.2.symm.trans h2.2⟩
theorem sd_det {E : sd_E} : ∀ (d y : Nat) (av : List Value) (σ : sd_Mem) (v1 : Option Value) (σ1 : sd_Mem) (v2 : Option Value) (σ2 : sd_Mem), sd_C' E d y av σ v1 σ1 → sd_C' E d y av σ v2 σ2 → v1 = v2 ∧ σ1 = σ2
  | 0, _, _, _, _, _, _, _, h, _ => by cases h
  | d + 1, y, av, σ, v1, σ1, v2, σ2, h1, h2 => by
    obtain ⟨-, -, n, h1⟩ := h1
    obtain ⟨-, -, m, h2⟩ := h2
    exact sd_run_det (fun y av σ v1 σ1 v2 σ2 => sd_det d y av σ v1 σ1 v2 σ2) n m _ _ _ _ _ _ _ _ h1 h2
/-- a contract as an equation -/
theorem sd_Call.iff {E : sd_E} {d y : Nat} {av : List Value} {σ : sd_Mem} {v : Option Value} {σ' : sd_Mem} (h : ∀ Q : Option Value → sd_Mem → Prop, Q v σ' → sd_Call E d y av σ Q) (Q : Option Value → sd_Mem → Prop) : sd_Call E d y av σ Q ↔ Q v σ' := by
  refine ⟨fun hq => ?_, h Q⟩
  obtain ⟨r1, σ1, c1, q1⟩ := hq
  obtain ⟨r2, σ2, c2, e1, e2⟩ := h (fun a b => a = v ∧ b = σ') ⟨rfl, rfl⟩
  obtain ⟨rfl, rfl⟩ := sd_det d y av σ r1 σ1 r2 σ2 c1 c2
  rw [← e1, ← e2]
  exact q1
theorem sd_Call.start {E : sd_E} {d y : Nat} {av : List Value} {σ : sd_Mem} {Q : Option Value → sd_Mem → Prop} {nm : MethodName} {cc : ByteArray} {L : Nat} {rt : Option FieldType} {o : Nat} {rest : Nat × Nat × Nat × Nat × Nat} (hm : sd_m y = (nm, cc, L, rt, o, rest)) (hy : y < 297) (hl : (sd_ent av).length ≤ L) {ls : List Value} (hls : sd_entry av L = ls) : sd_Call E (d + 1) y av σ Q ↔ sd_Go E d y 0 ls [] σ Q := by
  subst hls
  have e : (sd_m y).2.2.1 = L := by rw [hm]
  constructor
  · rintro ⟨r, σ', ⟨-, -, n, h⟩, hq⟩
    rw [e] at h
    exact ⟨n, r, σ', h, hq⟩
  · rintro ⟨n, r, σ', h, hq⟩
    exact ⟨r, σ', ⟨hy, by rw [e]; exact hl, n, by rw [e]; exact h⟩, hq⟩
