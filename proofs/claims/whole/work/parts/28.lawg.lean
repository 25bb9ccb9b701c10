/-! the law's own frame: rules (written by wip/whole/mk28.py) -/
def sd_LG (E : sd_E) (d y kk pc : Nat) (ls st : List Value) (σ : sd_Mem) (Q : Option Value → sd_Mem → Prop) : Prop := ∃ n r σ', sd_lrun E (sd_C' E d) d y n pc ls st σ kk r σ' ∧ Q r σ'
def sd_LK (E : sd_E) (d y kk pc : Nat) (ls : List Value) (σ : sd_Mem) (Q : Option Value → sd_Mem → Prop) (o : sd_O) : Prop := match o with
  | none => False
  | some (.inl z) => sd_LG E d y kk z.1 z.2.1 z.2.2.1 z.2.2.2 Q
  | some (.inr (.inl q)) => sd_Call E d q.1 q.2.1 σ (fun v σ' => sd_LG E d y kk (pc + 3) ls (v.toList ++ q.2.2) σ' Q)
  | some (.inr (.inr v)) => Q v σ
theorem sd_lgS {E : sd_E} {d y kk pc : Nat} {ls st : List Value} {σ : sd_Mem} {Q : Option Value → sd_Mem → Prop} (hp : pc ≠ 402) : sd_LG E d y kk pc ls st σ Q ↔ sd_LK E d y kk pc ls σ Q (sd_step E y pc ls st σ) := by
  constructor
  · rintro ⟨n, r, σ', h, hq⟩
    cases n with
    | zero => cases h
    | succ n =>
      unfold sd_lrun at h
      cases hs : sd_step E y pc ls st σ with
      | none => rw [hs] at h; exact absurd h.1 hp
      | some z =>
        rw [hs] at h
        rcases z with z | q | v
        · exact ⟨n, r, σ', h, hq⟩
        · obtain ⟨v, σ1, hc, h⟩ := h
          exact ⟨v, σ1, hc, n, r, σ', h, hq⟩
        · obtain ⟨rfl, rfl⟩ := h
          exact hq
  · intro h
    cases hs : sd_step E y pc ls st σ with
    | none => rw [hs] at h; cases h
    | some z =>
      rw [hs] at h
      rcases z with ⟨pc2, ls2, st2, σ2⟩ | ⟨y2, av, rest⟩ | v
      · obtain ⟨n, r, σ', h1, h2⟩ := h
        exact ⟨n + 1, r, σ', by rw [sd_lrun, hs]; exact h1, h2⟩
      · obtain ⟨v, σ1, hc, n, r, σ', h1, h2⟩ := h
        exact ⟨n + 1, r, σ', by rw [sd_lrun, hs]; exact ⟨v, σ1, hc, h1⟩, h2⟩
      · exact ⟨1, v, σ, by rw [sd_lrun, hs]; exact ⟨rfl, rfl⟩, h⟩
theorem sd_lgM {E : sd_E} {d y kk pc : Nat} {ls st : List Value} {σ : sd_Mem} {Q : Option Value → sd_Mem → Prop} {nm : MethodName} {cc : ByteArray} {L : Nat} {rt : Option FieldType} {o : Nat} {rest : Nat × Nat × Nat × Nat × Nat} {i : Instr} {len : Nat}
    (hm : sd_m y = (nm, cc, L, rt, o, rest)) (hd : pc ≠ 402 ∧ decode cc pc = .ok (i, len)) : sd_LG E d y kk pc ls st σ Q ↔ sd_LK E d y kk pc ls σ Q (sd_ins E o rt i len pc ls st σ) := by
  rw [sd_lgS hd.1]
  unfold sd_step
  rw [hm]
  dsimp only
  rw [hd.2]
/-- the law's person -/
theorem sd_lgP {E : sd_E} {d y kk : Nat} {ls : List Value} {σ : sd_Mem} {Q : Option Value → sd_Mem → Prop} {p0 p1 : Int32} {rp : Option (Option Value)} {σ1 : sd_Mem} (hm : sd_m y = sd_law) (hr : rp = none ∨ ∃ v, rp = some (some (.int v))) (hp : sd_PX E d [.ref 0, .int p0, .int p1] σ rp σ1)
    (k : sd_LG E d y kk 405 ls [.int (sd_pv rp)] (sd_pσ 301 rp σ1) Q) : sd_LG E d y (kk + 1) 402 ls [.ref 301, .int p1, .int p0, .ref 0] σ Q := by
  obtain ⟨n, r, σ', h1, h2⟩ := k
  refine ⟨n + 1, r, σ', ?_, h2⟩
  have hs : sd_step E y 402 ls [.ref 301, .int p1, .int p0, .ref 0] σ = none := by
    unfold sd_step
    rw [hm]
    have hd' : decode sd_law.2.1 402 = .ok (.invokestatic 38, 3) := by decide +kernel
    rw [hd']
    have a1 : sd_ac 12 38 = none := by decide +kernel
    have a2 : sd_mt 12 38 = none := by decide +kernel
    have a3 : sd_lk 12 38 = none := by decide +kernel
    have h9 : sd_ins E 12 (some .boolean) (.invokestatic 38) 3 402 ls [.ref 301, .int p1, .int p0, .ref 0] σ = none := by simp [sd_ins, sd_L, a1, a2, a3]
    exact h9
  rw [sd_lrun, hs]
  exact ⟨rfl, kk, p0, p1, rp, σ1, rfl, rfl, hr, hp, h1⟩
theorem sd_LK_if {E : sd_E} {d y kk pc : Nat} {ls : List Value} {σ : sd_Mem} {Q : Option Value → sd_Mem → Prop} {c : Prop} [Decidable c] {a : sd_O} : sd_LK E d y kk pc ls σ Q (if c then a else none) ↔ (c ∧ sd_LK E d y kk pc ls σ Q a) := by
  by_cases h : c
  · rw [if_pos h]
    exact ⟨fun q => ⟨h, q⟩, fun q => q.2⟩
  · rw [if_neg h]
    exact ⟨fun q => q.elim, fun q => h q.1⟩
theorem sd_LK_ite {E : sd_E} {d y kk pc : Nat} {ls : List Value} {σ : sd_Mem} {Q : Option Value → sd_Mem → Prop} {c : Prop} [Decidable c] {a b : sd_O} : sd_LK E d y kk pc ls σ Q (if c then a else b) ↔ ((c → sd_LK E d y kk pc ls σ Q a) ∧ (¬ c → sd_LK E d y kk pc ls σ Q b)) := by
  by_cases h : c
  · rw [if_pos h]
    exact ⟨fun q => ⟨fun _ => q, fun z => absurd h z⟩, fun q => q.1 h⟩
  · rw [if_neg h]
    exact ⟨fun q => ⟨fun z => absurd z h, fun _ => q⟩, fun q => q.2 h⟩
section SDJ
variable {E : sd_E} {d y kk pc : Nat} {ls st : List Value} {σ : sd_Mem} {Q : Option Value → sd_Mem → Prop} {nm : MethodName} {cc : ByteArray} {L : Nat} {rt : Option FieldType} {o : Nat} {rest : Nat × Nat × Nat × Nat × Nat}
theorem sd_j_iconst {n : Int} {v : Int32} (hm : sd_m y = (nm, cc, L, rt, o, rest)) (hd : pc ≠ 402 ∧ decode cc pc = .ok (.iconst n, 1)) (hv : Int32.ofInt n = v) : sd_LG E d y kk pc ls st σ Q ↔ sd_LG E d y kk (pc + 1) ls (.int v :: st) σ Q := by subst hv; exact sd_lgM hm hd
theorem sd_j_bipush {n : Int} {v : Int32} (hm : sd_m y = (nm, cc, L, rt, o, rest)) (hd : pc ≠ 402 ∧ decode cc pc = .ok (.bipush n, 2)) (hv : (Int8.ofInt n).toInt32 = v) : sd_LG E d y kk pc ls st σ Q ↔ sd_LG E d y kk (pc + 2) ls (.int v :: st) σ Q := by subst hv; exact sd_lgM hm hd
theorem sd_j_ldc2_w {n z : Nat} {v : Int64} (hm : sd_m y = (nm, cc, L, rt, o, rest)) (hd : pc ≠ 402 ∧ decode cc pc = .ok (.ldc2_w n, 3)) (hv : sd_csl o n = some (v, z)) : sd_LG E d y kk pc ls st σ Q ↔ sd_LG E d y kk (pc + 3) ls (.long v :: st) σ Q := by
  rw [sd_lgM hm hd]
  show sd_LK E d y kk pc ls σ Q (match sd_csl o n with | some (v, _) => sd_nx (pc + 3) ls (.long v :: st) σ | none => none) ↔ _
  rw [hv]
  exact Iff.rfl
theorem sd_j_iload {n : Nat} {x : Int32} (hm : sd_m y = (nm, cc, L, rt, o, rest)) (hd : pc ≠ 402 ∧ decode cc pc = .ok (.iload n, 2)) (hv : sd_get ls n = .int x) : sd_LG E d y kk pc ls st σ Q ↔ sd_LG E d y kk (pc + 2) ls (.int x :: st) σ Q := by
  rw [sd_lgM hm hd]
  show sd_LK E d y kk pc ls σ Q (sd_ldi σ (pc + 2) ls st n) ↔ _
  unfold sd_ldi
  rw [hv]
  exact Iff.rfl
theorem sd_j_aload_n {n : Fin 4} {x : Nat} (hm : sd_m y = (nm, cc, L, rt, o, rest)) (hd : pc ≠ 402 ∧ decode cc pc = .ok (.aload_n n, 1)) (hv : sd_get ls n = .ref x) : sd_LG E d y kk pc ls st σ Q ↔ sd_LG E d y kk (pc + 1) ls (.ref x :: st) σ Q := by
  rw [sd_lgM hm hd]
  show sd_LK E d y kk pc ls σ Q (sd_lda σ (pc + 1) ls st n) ↔ _
  unfold sd_lda
  rw [hv]
  exact Iff.rfl
theorem sd_j_istore {n : Nat} {x : Int32} {ls' : List Value} (hm : sd_m y = (nm, cc, L, rt, o, rest)) (hd : pc ≠ 402 ∧ decode cc pc = .ok (.istore n, 2)) (hn : n < ls.length) (hv : sd_put ls n (.int x) = ls') : sd_LG E d y kk pc ls (.int x :: st) σ Q ↔ sd_LG E d y kk (pc + 2) ls' st σ Q := by
  subst hv
  rw [sd_lgM hm hd]
  show sd_LK E d y kk pc ls σ Q (if n < ls.length then sd_nx (pc + 2) (sd_put ls n (.int x)) st σ else none) ↔ _
  rw [if_pos hn]
  exact Iff.rfl
theorem sd_j_iinc {n : Nat} {t : Int} {x v : Int32} {ls' : List Value} (hm : sd_m y = (nm, cc, L, rt, o, rest)) (hd : pc ≠ 402 ∧ decode cc pc = .ok (.iinc n t, 3)) (hg : sd_get ls n = .int x) (hn : n < ls.length) (hw : Int32.ofInt t = v) (hv : sd_put ls n (.int (x + v)) = ls') : sd_LG E d y kk pc ls st σ Q ↔ sd_LG E d y kk (pc + 3) ls' st σ Q := by
  subst hv
  subst hw
  rw [sd_lgM hm hd]
  show sd_LK E d y kk pc ls σ Q (match sd_get ls n with | .int x => if n < ls.length then sd_nx (pc + 3) (sd_put ls n (.int (x + Int32.ofInt t))) st σ else none | _ => none) ↔ _
  rw [hg]
  show sd_LK E d y kk pc ls σ Q (if n < ls.length then sd_nx (pc + 3) (sd_put ls n (.int (x + Int32.ofInt t))) st σ else none) ↔ _
  rw [if_pos hn]
  exact Iff.rfl
theorem sd_LK_jmp {off : Int} {tgt : Nat} (ht : (pc : Int) + off = (tgt : Int)) : sd_LK E d y kk pc ls σ Q (sd_jmp pc off ls st σ) ↔ sd_LG E d y kk tgt ls st σ Q := by
  unfold sd_jmp
  rw [if_pos (by rw [ht]; exact Int.natCast_nonneg _), ht]
  exact Iff.rfl
theorem sd_LK_br {c : Prop} [Decidable c] {off : Int} {tgt : Nat} (ht : (pc : Int) + off = (tgt : Int)) : sd_LK E d y kk pc ls σ Q (sd_if c pc off ls st σ) ↔ ((c → sd_LG E d y kk tgt ls st σ Q) ∧ (¬ c → sd_LG E d y kk (pc + 3) ls st σ Q)) := by
  unfold sd_if
  rw [if_pos (by rw [ht]; exact Int.natCast_nonneg _), ht]
  exact sd_LK_ite
theorem sd_j_goto {off : Int} {tgt : Nat} (hm : sd_m y = (nm, cc, L, rt, o, rest)) (hd : pc ≠ 402 ∧ decode cc pc = .ok (.goto off, 3)) (ht : (pc : Int) + off = (tgt : Int)) : sd_LG E d y kk pc ls st σ Q ↔ sd_LG E d y kk tgt ls st σ Q := (sd_lgM hm hd).trans (sd_LK_jmp ht)
theorem sd_j_ifeq {off : Int} {tgt : Nat} {x : Int32} (hm : sd_m y = (nm, cc, L, rt, o, rest)) (hd : pc ≠ 402 ∧ decode cc pc = .ok (.ifCond .eq off, 3)) (ht : (pc : Int) + off = (tgt : Int)) : sd_LG E d y kk pc ls (.int x :: st) σ Q ↔ ((x = 0 → sd_LG E d y kk tgt ls st σ Q) ∧ (¬ x = 0 → sd_LG E d y kk (pc + 3) ls st σ Q)) := (sd_lgM hm hd).trans (sd_LK_br ht)
theorem sd_j_ifne {off : Int} {tgt : Nat} {x : Int32} (hm : sd_m y = (nm, cc, L, rt, o, rest)) (hd : pc ≠ 402 ∧ decode cc pc = .ok (.ifCond .ne off, 3)) (ht : (pc : Int) + off = (tgt : Int)) : sd_LG E d y kk pc ls (.int x :: st) σ Q ↔ ((¬ x = 0 → sd_LG E d y kk tgt ls st σ Q) ∧ (x = 0 → sd_LG E d y kk (pc + 3) ls st σ Q)) := by
  refine (sd_lgM hm hd).trans ((sd_LK_br ht).trans ⟨fun h => ⟨h.1, fun z => h.2 (fun q => q z)⟩, fun h => ⟨h.1, fun z => h.2 (Classical.not_not.mp z)⟩⟩)
theorem sd_j_icmpeq {off : Int} {tgt : Nat} {a b : Int32} (hm : sd_m y = (nm, cc, L, rt, o, rest)) (hd : pc ≠ 402 ∧ decode cc pc = .ok (.if_icmp .eq off, 3)) (ht : (pc : Int) + off = (tgt : Int)) : sd_LG E d y kk pc ls (.int b :: .int a :: st) σ Q ↔ ((a = b → sd_LG E d y kk tgt ls st σ Q) ∧ (¬ a = b → sd_LG E d y kk (pc + 3) ls st σ Q)) := (sd_lgM hm hd).trans (sd_LK_br ht)
theorem sd_j_icmpgt {off : Int} {tgt : Nat} {a b : Int32} (hm : sd_m y = (nm, cc, L, rt, o, rest)) (hd : pc ≠ 402 ∧ decode cc pc = .ok (.if_icmp .gt off, 3)) (ht : (pc : Int) + off = (tgt : Int)) : sd_LG E d y kk pc ls (.int b :: .int a :: st) σ Q ↔ ((b < a → sd_LG E d y kk tgt ls st σ Q) ∧ (¬ b < a → sd_LG E d y kk (pc + 3) ls st σ Q)) := (sd_lgM hm hd).trans (sd_LK_br ht)
theorem sd_j_callV {n y' a z1 z2 k : Nat} {r : List Value} (hm : sd_m y = (nm, cc, L, rt, o, rest)) (hd : pc ≠ 402 ∧ decode cc pc = .ok (.invokevirtual n, 3)) (hl : sd_lk o n = some (y', 0, z1, z2)) (hk : (sd_m y').2.2.2.2.2.1 = k) (hst : st.drop k = .ref a :: r) {ci : Nat} (hci : (sd_m y').2.2.2.2.1 = ci) : sd_LG E d y kk pc ls st σ Q ↔ (((sd_sh a = .inl ci ∨ (ci = 15 ∧ 410 ≤ a ∧ a < 419)) ∧ sd_cat r ≤ 8) ∧ sd_Call E d y' (.ref a :: (st.take k).reverse) σ (fun v σ' => sd_LG E d y kk (pc + 3) ls (v.toList ++ r) σ' Q)) := by
  subst hk
  subst hci
  rw [sd_lgM hm hd]
  show sd_LK E d y kk pc ls σ Q (match sd_lk o n with | some (y, 0, _) => (match st.drop (sd_m y).2.2.2.2.2.1 with | .ref a :: r => if (sd_sh a = .inl (sd_m y).2.2.2.2.1 ∨ ((sd_m y).2.2.2.2.1 = 15 ∧ 410 ≤ a ∧ a < 419)) ∧ sd_cat r ≤ 8 then some (.inr (.inl (y, .ref a :: (st.take (sd_m y).2.2.2.2.2.1).reverse, r))) else none | _ => none) | _ => none) ↔ _
  rw [hl]
  show sd_LK E d y kk pc ls σ Q (match st.drop (sd_m y').2.2.2.2.2.1 with | .ref a :: r => if (sd_sh a = .inl (sd_m y').2.2.2.2.1 ∨ ((sd_m y').2.2.2.2.1 = 15 ∧ 410 ≤ a ∧ a < 419)) ∧ sd_cat r ≤ 8 then some (.inr (.inl (y', .ref a :: (st.take (sd_m y').2.2.2.2.2.1).reverse, r))) else none | _ => none) ↔ _
  rw [hst]
  exact sd_LK_if
theorem sd_j_callO {n y' a z1 z2 k : Nat} {r : List Value} (hm : sd_m y = (nm, cc, L, rt, o, rest)) (hd : pc ≠ 402 ∧ decode cc pc = .ok (.invokevirtual n, 3)) (hl : sd_lk o n = some (y', 0, z1, z2)) (hk : (sd_m y').2.2.2.2.2.1 = k) (hst : st.drop k = .ref a :: r) {ci : Nat} (hci : (sd_m y').2.2.2.2.1 = ci) (hne : ci ≠ 15) : sd_LG E d y kk pc ls st σ Q ↔ ((sd_sh a = .inl ci ∧ sd_cat r ≤ 8) ∧ sd_Call E d y' (.ref a :: (st.take k).reverse) σ (fun v σ' => sd_LG E d y kk (pc + 3) ls (v.toList ++ r) σ' Q)) :=
  (sd_j_callV hm hd hl hk hst hci).trans ⟨fun h => ⟨⟨h.1.1.elim id (fun q => absurd q.1 hne), h.1.2⟩, h.2⟩, fun h => ⟨⟨Or.inl h.1.1, h.1.2⟩, h.2⟩⟩
theorem sd_j_tswO {dflt lo hi : Int} {offs : Array Int} {len tgt : Nat} {x : Int32} (hm : sd_m y = (nm, cc, L, rt, o, rest)) (hd : pc ≠ 402 ∧ decode cc pc = .ok (.tableswitch dflt lo hi offs, len)) (h : x.toInt < lo ∨ hi < x.toInt) (ht : (pc : Int) + dflt = (tgt : Int)) : sd_LG E d y kk pc ls (.int x :: st) σ Q ↔ sd_LG E d y kk tgt ls st σ Q := by
  rw [sd_lgM hm hd]
  show sd_LK E d y kk pc ls σ Q (if x.toInt < lo ∨ hi < x.toInt then sd_jmp pc dflt ls st σ else match offs[(x.toInt - lo).toNat]? with | some off => sd_jmp pc off ls st σ | none => none) ↔ _
  rw [if_pos h]
  exact sd_LK_jmp ht
theorem sd_j_tswI {dflt lo hi off : Int} {offs : Array Int} {len tgt : Nat} {x : Int32} (hm : sd_m y = (nm, cc, L, rt, o, rest)) (hd : pc ≠ 402 ∧ decode cc pc = .ok (.tableswitch dflt lo hi offs, len)) (h : ¬ (x.toInt < lo ∨ hi < x.toInt)) (ho : offs[(x.toInt - lo).toNat]? = some off) (ht : (pc : Int) + off = (tgt : Int)) : sd_LG E d y kk pc ls (.int x :: st) σ Q ↔ sd_LG E d y kk tgt ls st σ Q := by
  rw [sd_lgM hm hd]
  show sd_LK E d y kk pc ls σ Q (if x.toInt < lo ∨ hi < x.toInt then sd_jmp pc dflt ls st σ else match offs[(x.toInt - lo).toNat]? with | some off => sd_jmp pc off ls st σ | none => none) ↔ _
  rw [if_neg h, ho]
  exact sd_LK_jmp ht
theorem sd_j_zret {v : Int32} {o2 : Nat} (hm : sd_m y = (nm, cc, L, some .boolean, o2, rest)) (hd : pc ≠ 402 ∧ decode cc pc = .ok (.ireturn, 1)) : sd_LG E d y kk pc ls [.int v] σ Q ↔ ((v = 0 ∨ v = 1) ∧ Q (some (.int v)) σ) := (sd_lgM hm hd).trans sd_LK_if
theorem sd_i_xald {a : Nat} {i : Int32} (hm : sd_m y = (nm, cc, L, rt, o, rest)) (hd : pc ≠ 402 ∧ decode cc pc = .ok (.iaload, 1)) (h : sd_tg a = 9) : sd_LG E d y kk pc ls (.int i :: .ref a :: st) σ Q ↔ (sd_inn i (sd_xq E a) ∧ sd_LG E d y kk (pc + 1) ls (.int (sd_xe E a i.toNatClampNeg) :: st) σ Q) := by
  rw [sd_lgM hm hd]
  show sd_LK E d y kk pc ls σ Q (sd_ld E σ a i fun v => sd_nx (pc + 1) ls (.int v :: st) σ) ↔ _
  unfold sd_ld sd_xq sd_xe
  rw [sd_tgI h (by decide)]
  show sd_LK E d y kk pc ls σ Q (match E.2 a with | some (n, f) => if ¬ (i < 0 ∨ n ≤ i.toNatClampNeg) then sd_nx (pc + 1) ls (.int (f i.toNatClampNeg) :: st) σ else none | none => none) ↔ _
  cases hE : E.2 a with
  | none => exact ⟨fun q => q.elim, fun q => q.1 (Or.inr (Nat.zero_le _))⟩
  | some q => exact sd_LK_if
theorem sd_i_xlen {a : Nat} (hm : sd_m y = (nm, cc, L, rt, o, rest)) (hd : pc ≠ 402 ∧ decode cc pc = .ok (.arraylength, 1)) (h : sd_tg a = 9) (hE : (E.2 a).isSome = true) : sd_LG E d y kk pc ls (.ref a :: st) σ Q ↔ sd_LG E d y kk (pc + 1) ls (.int (nI (sd_xq E a)) :: st) σ Q := by
  obtain ⟨q, hq⟩ := Option.isSome_iff_exists.mp hE
  rw [sd_lgM hm hd]
  show sd_LK E d y kk pc ls σ Q (match sd_sh a with | .inr (0, n) => sd_nx (pc + 1) ls (.int (Int32.ofNat n) :: st) σ | _ => match E.2 a with | some (n, _) => sd_nx (pc + 1) ls (.int (Int32.ofNat n) :: st) σ | none => if 430 ≤ a ∧ a < 439 then sd_nx (pc + 1) ls (.int (Int32.ofNat (sd_slen.getD (a - 430) 0)) :: st) σ else none) ↔ _
  rw [sd_tgI h (by decide)]
  unfold sd_xq
  show sd_LK E d y kk pc ls σ Q (match E.2 a with | some (n, _) => sd_nx (pc + 1) ls (.int (Int32.ofNat n) :: st) σ | none => if 430 ≤ a ∧ a < 439 then sd_nx (pc + 1) ls (.int (Int32.ofNat (sd_slen.getD (a - 430) 0)) :: st) σ else none) ↔ _
  rw [hq]
  exact Iff.rfl
theorem sd_i_lald {a : Nat} {i : Int32} (hm : sd_m y = (nm, cc, L, rt, o, rest)) (hd : pc ≠ 402 ∧ decode cc pc = .ok (.laload, 1)) (h : sd_tg a = 2) : sd_LG E d y kk pc ls (.int i :: .ref a :: st) σ Q ↔ (sd_inn i (sd_ln a) ∧ sd_LG E d y kk (pc + 1) ls (.long (σ.2.1 a i.toNatClampNeg) :: st) σ Q) := by
  have h1 := sd_tgI h (by decide)
  rw [sd_lgM hm hd]
  show sd_LK E d y kk pc ls σ Q (match sd_sh a with | .inr (2, n) => if ¬ (i < 0 ∨ n ≤ i.toNatClampNeg) then sd_nx (pc + 1) ls (.long (σ.2.1 a i.toNatClampNeg) :: st) σ else none | _ => none) ↔ _
  rw [h1]
  exact sd_LK_if
end SDJ
