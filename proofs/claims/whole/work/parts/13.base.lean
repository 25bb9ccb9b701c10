/-! words for the symbolic walk -/
theorem sd_ci {a : Int32} : (Value.int a).category = 1 := rfl
theorem sd_cr {a : Nat} : (Value.ref a).category = 1 := rfl
theorem sd_cl9 {a : Int64} : (Value.long a).category = 2 := rfl
theorem sd_cu : sd_un.category = 1 := rfl
theorem sd_cat0 : (sd_cat [] ≤ 8) = True := by decide
theorem sd_cat1 {v : Value} {l : List Value} : sd_cat (v :: l) = v.category + sd_cat l := rfl
/-- the environment once the constructors have ended -/
def sd_E1 (X : Nat → Option (Nat × (Nat → Int32))) : sd_E := (sd_ft, X)
theorem sd_inb {t a n i : Nat} (h : sd_sh a = .inr (t, n)) (hi : i < n) (hn : n < 2 ^ 31 := by decide) : sd_in' t a (nI i) := ⟨n, h, by rw [nI_clamp (Nat.lt_trans hi hn)]; exact fun q => q.elim (nI_pos (Nat.lt_trans hi hn)) (fun z => absurd z (Nat.not_le.mpr hi))⟩
/-- k is a State: its cells lie behind it -/
def sd_isS (k : Nat) : Prop := sd_sh k = .inl 5 ∧ sd_sh (k + 1) = .inr (0, 60) ∧ sd_sh (k + 2) = .inr (0, 5) ∧ sd_sh (k + 3) = .inr (0, 5) ∧ sd_sh (k + 4) = .inr (0, 72) ∧ sd_ft k 0 = some (k + 1) ∧ sd_ft k 1 = some (k + 2) ∧ sd_ft k 2 = some (k + 3) ∧ sd_ft k 3 = some (k + 4)
theorem sd_gRft {X : Nat → Option (Nat × (Nat → Int32))} {σ : sd_Mem} {k i j : Nat} (h : sd_ft k i = some j) : va_rf (sd_gR (sd_E1 X) σ k i) = .ref j := by
  unfold sd_gR
  rw [show (sd_E1 X).1 k i = some j from h]
  rfl
/-- in force: whose place is below the sworn, and whose term is above 0 -/
def sd_force (σ : sd_Mem) (k v : Nat) : Prop := nI v < σ.1 k 4 ∧ 0 < σ.1 (k + 4) (v * 6 + 5)
theorem c_State_inForce {X : Nat → Option (Nat × (Nat → Int32))} {σ : sd_Mem} {k v : Nat} {Q : Option Value → sd_Mem → Prop} {d : Nat} (hk : sd_isS k) (hs : σ.1 k 4 ≤ nI 12) (hv : v < 12)
    (h1 : sd_force σ k v → Q (some (.int (nI 1))) σ) (h0 : ¬ sd_force σ k v → Q (some (.int (nI 0))) σ) : sd_Call (sd_E1 X) (d + 1) y_State_inForce [.ref k, .int (nI v)] σ Q := by
  obtain ⟨k0, k1, k2, k3, k4, f0, f1, f2, f3⟩ := hk
  have hin : sd_in' 0 (k + 4) (nI v * nI 6 + nI 5) := by
    rw [pk_mul, nI_add]
    exact sd_inb k4 (by omega)
  have hcl : (nI v * nI 6 + nI 5).toNatClampNeg = v * 6 + 5 := by
    rw [pk_mul, nI_add, nI_clamp (by omega)]
  rw [sd_Call.start (ls := [.ref k, .int (nI v)]) m_State_inForce (by decide) (Nat.le_of_ble_eq_true rfl) rfl]
  simp only [z_State_inForce_0, z_State_inForce_1, z_State_inForce_4, z_State_inForce_5, z_State_inForce_6, z_State_inForce_9, z_State_inForce_12, z_State_inForce_13, z_State_inForce_16, z_State_inForce_17, z_State_inForce_19, z_State_inForce_20, z_State_inForce_21, z_State_inForce_22, z_State_inForce_23, z_State_inForce_26, z_State_inForce_27, z_State_inForce_30, z_State_inForce_31, sd_ci, sd_cr, sd_cl9, sd_cu, sd_cat0, sd_cat1, true_and, and_true, Option.toList_some, Option.toList_none, List.cons_append, List.nil_append, sd_gRft f3, k0, k4, hin, hcl]
  trace_state
  sorry
