/-! rules of arrays, the bounds on the right (written by wip/whole/mk28.py) -/
def sd_tg (a : Nat) : Nat := match sd_sh a with
  | .inl _ => 100
  | .inr (t, _) => t
def sd_ln (a : Nat) : Nat := match sd_sh a with
  | .inl _ => 0
  | .inr (_, n) => n
def sd_inn (i : Int32) (n : Nat) : Prop := ¬ (i < 0 ∨ n ≤ i.toNatClampNeg)
theorem sd_tgI {a t : Nat} (h : sd_tg a = t) (ht : t ≠ 100) : sd_sh a = .inr (t, sd_ln a) := by
  unfold sd_tg at h
  unfold sd_ln
  cases hs : sd_sh a with
  | inl c => rw [hs] at h; exact absurd h.symm ht
  | inr q => rw [hs] at h; obtain ⟨x, n⟩ := q; subst h; rfl
/-- a lies outside: the script, the static arrays, the texts' bytes -/
def sd_xq (E : sd_E) (a : Nat) : Nat := match E.2 a with
  | some (n, _) => n
  | none => 0
def sd_xe (E : sd_E) (a i : Nat) : Int32 := match E.2 a with
  | some (_, f) => f i
  | none => 0
section SDH
variable {E : sd_E} {d y pc : Nat} {ls st : List Value} {σ : sd_Mem} {Q : Option Value → sd_Mem → Prop} {nm : MethodName} {cc : ByteArray} {L : Nat} {rt : Option FieldType} {o : Nat} {rest : Nat × Nat × Nat × Nat × Nat}
theorem sd_h_iald {a : Nat} {i : Int32} (hm : sd_m y = (nm, cc, L, rt, o, rest)) (hd : decode cc pc = .ok (.iaload, 1)) (h : sd_tg a = 0) : sd_Go E d y pc ls (.int i :: .ref a :: st) σ Q ↔ (sd_inn i (sd_ln a) ∧ sd_Go E d y (pc + 1) ls (.int (σ.1 a i.toNatClampNeg) :: st) σ Q) := by
  have h1 := sd_tgI h (by decide)
  rw [sd_goM hm hd]
  show sd_K E d y pc ls σ Q (sd_ld E σ a i fun v => sd_nx (pc + 1) ls (.int v :: st) σ) ↔ _
  unfold sd_ld
  rw [h1]
  exact sd_K_if
theorem sd_h_bald {a : Nat} {i : Int32} (hm : sd_m y = (nm, cc, L, rt, o, rest)) (hd : decode cc pc = .ok (.baload, 1)) (h : sd_tg a = 1) : sd_Go E d y pc ls (.int i :: .ref a :: st) σ Q ↔ (sd_inn i (sd_ln a) ∧ sd_Go E d y (pc + 1) ls (.int (σ.1 a i.toNatClampNeg) :: st) σ Q) := by
  have h1 := sd_tgI h (by decide)
  rw [sd_goM hm hd]
  show sd_K E d y pc ls σ Q (match sd_sh a with | .inr (1, n) => if ¬ (i < 0 ∨ n ≤ i.toNatClampNeg) then sd_nx (pc + 1) ls (.int (σ.1 a i.toNatClampNeg) :: st) σ else none | _ => if (430 ≤ a ∧ a < 439) ∧ ¬ (i < 0 ∨ sd_slen.getD (a - 430) 0 ≤ i.toNatClampNeg) then sd_nx (pc + 1) ls (.int ((sd_sbyt.getD (a - 430) []).getD i.toNatClampNeg 0) :: st) σ else none) ↔ _
  rw [h1]
  exact sd_K_if
theorem sd_h_lald {a : Nat} {i : Int32} (hm : sd_m y = (nm, cc, L, rt, o, rest)) (hd : decode cc pc = .ok (.laload, 1)) (h : sd_tg a = 2) : sd_Go E d y pc ls (.int i :: .ref a :: st) σ Q ↔ (sd_inn i (sd_ln a) ∧ sd_Go E d y (pc + 1) ls (.long (σ.2.1 a i.toNatClampNeg) :: st) σ Q) := by
  have h1 := sd_tgI h (by decide)
  rw [sd_goM hm hd]
  show sd_K E d y pc ls σ Q (match sd_sh a with | .inr (2, n) => if ¬ (i < 0 ∨ n ≤ i.toNatClampNeg) then sd_nx (pc + 1) ls (.long (σ.2.1 a i.toNatClampNeg) :: st) σ else none | _ => none) ↔ _
  rw [h1]
  exact sd_K_if
theorem sd_h_iast {a : Nat} {i v : Int32} (hm : sd_m y = (nm, cc, L, rt, o, rest)) (hd : decode cc pc = .ok (.iastore, 1)) (h : sd_tg a = 0) : sd_Go E d y pc ls (.int v :: .int i :: .ref a :: st) σ Q ↔ (sd_inn i (sd_ln a) ∧ sd_Go E d y (pc + 1) ls st (sd_wI σ a i.toNatClampNeg v) Q) := by
  have h1 := sd_tgI h (by decide)
  rw [sd_goM hm hd]
  show sd_K E d y pc ls σ Q (match sd_sh a with | .inr (0, n) => if ¬ (i < 0 ∨ n ≤ i.toNatClampNeg) then sd_nx (pc + 1) ls st (sd_wI σ a i.toNatClampNeg v) else none | _ => none) ↔ _
  rw [h1]
  exact sd_K_if
theorem sd_h_bast {a : Nat} {i v : Int32} (hm : sd_m y = (nm, cc, L, rt, o, rest)) (hd : decode cc pc = .ok (.bastore, 1)) (h : sd_tg a = 1) : sd_Go E d y pc ls (.int v :: .int i :: .ref a :: st) σ Q ↔ (sd_inn i (sd_ln a) ∧ sd_Go E d y (pc + 1) ls st (sd_wI σ a i.toNatClampNeg (vp_nar .byte v)) Q) := by
  have h1 := sd_tgI h (by decide)
  rw [sd_goM hm hd]
  show sd_K E d y pc ls σ Q (match sd_sh a with | .inr (1, n) => if ¬ (i < 0 ∨ n ≤ i.toNatClampNeg) then sd_nx (pc + 1) ls st (sd_wI σ a i.toNatClampNeg (vp_nar .byte v)) else none | _ => none) ↔ _
  rw [h1]
  exact sd_K_if
theorem sd_h_last {a : Nat} {i : Int32} {v : Int64} (hm : sd_m y = (nm, cc, L, rt, o, rest)) (hd : decode cc pc = .ok (.lastore, 1)) (h : sd_tg a = 2) : sd_Go E d y pc ls (.long v :: .int i :: .ref a :: st) σ Q ↔ (sd_inn i (sd_ln a) ∧ sd_Go E d y (pc + 1) ls st (sd_wL σ a i.toNatClampNeg v) Q) := by
  have h1 := sd_tgI h (by decide)
  rw [sd_goM hm hd]
  show sd_K E d y pc ls σ Q (match sd_sh a with | .inr (2, n) => if ¬ (i < 0 ∨ n ≤ i.toNatClampNeg) then sd_nx (pc + 1) ls st (sd_wL σ a i.toNatClampNeg v) else none | _ => none) ↔ _
  rw [h1]
  exact sd_K_if
theorem sd_h_aald {a : Nat} {i : Int32} (hm : sd_m y = (nm, cc, L, rt, o, rest)) (hd : decode cc pc = .ok (.aaload, 1)) (h : sd_tg a = 3 ∨ sd_tg a = 4) : sd_Go E d y pc ls (.int i :: .ref a :: st) σ Q ↔ (sd_inn i (sd_ln a) ∧ sd_Go E d y (pc + 1) ls (va_rf (sd_gR E σ a i.toNatClampNeg) :: st) σ Q) := by
  rw [sd_goM hm hd]
  show sd_K E d y pc ls σ Q (match sd_sh a with | .inr (3, n) => if ¬ (i < 0 ∨ n ≤ i.toNatClampNeg) then sd_nx (pc + 1) ls (va_rf (sd_gR E σ a i.toNatClampNeg) :: st) σ else none | .inr (4, n) => if ¬ (i < 0 ∨ n ≤ i.toNatClampNeg) then sd_nx (pc + 1) ls (va_rf (sd_gR E σ a i.toNatClampNeg) :: st) σ else none | _ => none) ↔ _
  rcases h with h | h
  · rw [sd_tgI h (by decide)]
    exact sd_K_if
  · rw [sd_tgI h (by decide)]
    exact sd_K_if
theorem sd_h_xald {a : Nat} {i : Int32} (hm : sd_m y = (nm, cc, L, rt, o, rest)) (hd : decode cc pc = .ok (.iaload, 1)) (h : sd_tg a = 9) : sd_Go E d y pc ls (.int i :: .ref a :: st) σ Q ↔ (sd_inn i (sd_xq E a) ∧ sd_Go E d y (pc + 1) ls (.int (sd_xe E a i.toNatClampNeg) :: st) σ Q) := by
  rw [sd_goM hm hd]
  show sd_K E d y pc ls σ Q (sd_ld E σ a i fun v => sd_nx (pc + 1) ls (.int v :: st) σ) ↔ _
  unfold sd_ld sd_xq sd_xe
  rw [sd_tgI h (by decide)]
  show sd_K E d y pc ls σ Q (match E.2 a with | some (n, f) => if ¬ (i < 0 ∨ n ≤ i.toNatClampNeg) then sd_nx (pc + 1) ls (.int (f i.toNatClampNeg) :: st) σ else none | none => none) ↔ _
  cases hE : E.2 a with
  | none => exact ⟨fun q => q.elim, fun q => q.1 (Or.inr (Nat.zero_le _))⟩
  | some q => exact sd_K_if
theorem sd_h_alen {a : Nat} (hm : sd_m y = (nm, cc, L, rt, o, rest)) (hd : decode cc pc = .ok (.arraylength, 1)) (h : sd_tg a = 0) : sd_Go E d y pc ls (.ref a :: st) σ Q ↔ sd_Go E d y (pc + 1) ls (.int (nI (sd_ln a)) :: st) σ Q := sd_g_alen hm hd (sd_tgI h (by decide))
theorem sd_h_xlen {a : Nat} (hm : sd_m y = (nm, cc, L, rt, o, rest)) (hd : decode cc pc = .ok (.arraylength, 1)) (h : sd_tg a = 9) (hE : (E.2 a).isSome = true) : sd_Go E d y pc ls (.ref a :: st) σ Q ↔ sd_Go E d y (pc + 1) ls (.int (nI (sd_xq E a)) :: st) σ Q := by
  obtain ⟨q, hq⟩ := Option.isSome_iff_exists.mp hE
  rw [sd_goM hm hd]
  show sd_K E d y pc ls σ Q (match sd_sh a with | .inr (0, n) => sd_nx (pc + 1) ls (.int (Int32.ofNat n) :: st) σ | _ => match E.2 a with | some (n, _) => sd_nx (pc + 1) ls (.int (Int32.ofNat n) :: st) σ | none => if 430 ≤ a ∧ a < 439 then sd_nx (pc + 1) ls (.int (Int32.ofNat (sd_slen.getD (a - 430) 0)) :: st) σ else none) ↔ _
  rw [sd_tgI h (by decide)]
  unfold sd_xq
  show sd_K E d y pc ls σ Q (match E.2 a with | some (n, _) => sd_nx (pc + 1) ls (.int (Int32.ofNat n) :: st) σ | none => if 430 ≤ a ∧ a < 439 then sd_nx (pc + 1) ls (.int (Int32.ofNat (sd_slen.getD (a - 430) 0)) :: st) σ else none) ↔ _
  rw [hq]
  exact Iff.rfl
theorem sd_h_slen {a : Nat} (hm : sd_m y = (nm, cc, L, rt, o, rest)) (hd : decode cc pc = .ok (.arraylength, 1)) (h : sd_tg a = 9) (hE : E.2 a = none) : sd_Go E d y pc ls (.ref a :: st) σ Q ↔ ((430 ≤ a ∧ a < 439) ∧ sd_Go E d y (pc + 1) ls (.int (nI (sd_slen.getD (a - 430) 0)) :: st) σ Q) := by
  rw [sd_goM hm hd]
  show sd_K E d y pc ls σ Q (match sd_sh a with | .inr (0, n) => sd_nx (pc + 1) ls (.int (Int32.ofNat n) :: st) σ | _ => match E.2 a with | some (n, _) => sd_nx (pc + 1) ls (.int (Int32.ofNat n) :: st) σ | none => if 430 ≤ a ∧ a < 439 then sd_nx (pc + 1) ls (.int (Int32.ofNat (sd_slen.getD (a - 430) 0)) :: st) σ else none) ↔ _
  rw [sd_tgI h (by decide)]
  show sd_K E d y pc ls σ Q (match E.2 a with | some (n, _) => sd_nx (pc + 1) ls (.int (Int32.ofNat n) :: st) σ | none => if 430 ≤ a ∧ a < 439 then sd_nx (pc + 1) ls (.int (Int32.ofNat (sd_slen.getD (a - 430) 0)) :: st) σ else none) ↔ _
  rw [hE]
  exact sd_K_if
theorem sd_h_sald {a : Nat} {i : Int32} (hm : sd_m y = (nm, cc, L, rt, o, rest)) (hd : decode cc pc = .ok (.baload, 1)) (h : sd_tg a = 9) : sd_Go E d y pc ls (.int i :: .ref a :: st) σ Q ↔ (((430 ≤ a ∧ a < 439) ∧ ¬ (i < 0 ∨ sd_slen.getD (a - 430) 0 ≤ i.toNatClampNeg)) ∧ sd_Go E d y (pc + 1) ls (.int ((sd_sbyt.getD (a - 430) []).getD i.toNatClampNeg 0) :: st) σ Q) := by
  rw [sd_goM hm hd]
  show sd_K E d y pc ls σ Q (match sd_sh a with | .inr (1, n) => if ¬ (i < 0 ∨ n ≤ i.toNatClampNeg) then sd_nx (pc + 1) ls (.int (σ.1 a i.toNatClampNeg) :: st) σ else none | _ => if (430 ≤ a ∧ a < 439) ∧ ¬ (i < 0 ∨ sd_slen.getD (a - 430) 0 ≤ i.toNatClampNeg) then sd_nx (pc + 1) ls (.int ((sd_sbyt.getD (a - 430) []).getD i.toNatClampNeg 0) :: st) σ else none) ↔ _
  rw [sd_tgI h (by decide)]
  exact sd_K_if
theorem sd_h_cpy {n z a a0 : Nat} {k dp sp : Int32} (hm : sd_m y = (nm, cc, L, rt, o, rest)) (hd : decode cc pc = .ok (.invokestatic n, 3)) (hac : sd_ac o n = some z) (h0 : sd_tg a0 = 0) (h1 : sd_tg a = 0) : sd_Go E d y pc ls (.int k :: .int dp :: .ref a :: .int sp :: .ref a0 :: st) σ Q ↔ ((¬ sp < 0 ∧ ¬ dp < 0 ∧ ¬ k < 0 ∧ sp.toNatClampNeg + k.toNatClampNeg ≤ sd_ln a0 ∧ dp.toNatClampNeg + k.toNatClampNeg ≤ sd_ln a ∧ sd_cat st ≤ 8) ∧ sd_Go E d y (pc + 3) ls st (sd_wA σ a (va_cpy (σ.1 a0) (σ.1 a) sp.toNatClampNeg dp.toNatClampNeg k.toNatClampNeg)) Q) := sd_g_cpy hm hd hac (sd_tgI h0 (by decide)) (sd_tgI h1 (by decide))
theorem sd_h_putZ {n ci f z a : Nat} {w : Int32} (hm : sd_m y = (nm, cc, L, rt, o, rest)) (hd : decode cc pc = .ok (.putfield n, 3)) (hf : sd_fl o n = some (ci, f, z)) (hfin : ((sd_C ci).2.1 f).2.2.2 = false) (hk : sd_kd ci f = 3) : sd_Go E d y pc ls (.int w :: .ref a :: st) σ Q ↔ (sd_sh a = .inl ci ∧ (w = 0 ∨ w = 1) ∧ sd_Go E d y (pc + 3) ls st (sd_wI σ a f w) Q) := by
  by_cases hw : w = 0 ∨ w = 1
  · rw [sd_g_put hm hd hf hfin (sd_pZ hk hw)]
    exact ⟨fun q => ⟨q.1, hw, q.2⟩, fun q => ⟨q.1, q.2.2⟩⟩
  · rw [sd_goM hm hd]
    show sd_K E d y pc ls σ Q (match sd_fl o n with | some (ci, f, _) => if sd_sh a = .inl ci ∧ ((sd_C ci).2.1 f).2.2.2 = false then (match sd_put1 E σ a ci f (.int w) with | some σ' => sd_nx (pc + 3) ls st σ' | none => none) else none | none => none) ↔ _
    rw [hf]
    refine sd_K_if.trans ?_
    have h1 : sd_put1 E σ a ci f (.int w) = none := by
      unfold sd_put1
      rw [hk]
      exact if_neg hw
    rw [h1]
    exact ⟨fun q => q.2.elim, fun q => absurd q.2.1 hw⟩
theorem sd_h_putR {n ci f z a w : Nat} (hm : sd_m y = (nm, cc, L, rt, o, rest)) (hd : decode cc pc = .ok (.putfield n, 3)) (hf : sd_fl o n = some (ci, f, z)) (hfin : ((sd_C ci).2.1 f).2.2.2 = false) (hk : sd_kd ci f = 2) : sd_Go E d y pc ls (.ref w :: .ref a :: st) σ Q ↔ (sd_sh a = .inl ci ∧ E.1 a f = none ∧ sd_Go E d y (pc + 3) ls st (sd_wR σ a f (some w)) Q) := by
  by_cases hw : E.1 a f = none
  · rw [sd_g_put hm hd hf hfin (sd_pR hk hw)]
    exact ⟨fun q => ⟨q.1, hw, q.2⟩, fun q => ⟨q.1, q.2.2⟩⟩
  · rw [sd_goM hm hd]
    show sd_K E d y pc ls σ Q (match sd_fl o n with | some (ci, f, _) => if sd_sh a = .inl ci ∧ ((sd_C ci).2.1 f).2.2.2 = false then (match sd_put1 E σ a ci f (.ref w) with | some σ' => sd_nx (pc + 3) ls st σ' | none => none) else none | none => none) ↔ _
    rw [hf]
    refine sd_K_if.trans ?_
    have h1 : sd_put1 E σ a ci f (.ref w) = none := by
      unfold sd_put1
      rw [hk]
      exact if_neg hw
    rw [h1]
    exact ⟨fun q => q.2.elim, fun q => absurd q.2.1 hw⟩
end SDH
