/-! THE CONSTRUCTORS: a machine that makes cells; n is the next one (written by wip/whole/mk14.py) -/
def sd_cnL : List (Nat × (Nat × Nat)) := [(786440, (10, 118)), (655367, (6, 126)), (655376, (1, 148)), (655385, (8, 164)), (655392, (7, 202)), (655401, (0, 215)), (31, (5, 221)), (655411, (3, 309)), (196617, (5, 315)), (655422, (5, 329)), (655442, (2, 331)), (655449, (9, 356)), (655456, (4, 398)), (786448, (11, 1281))]
def sd_cn (o i : Nat) : Option (Nat × Nat) := if i < 65536 then sd_find sd_cnL (o * 65536 + i) else none
def sd_oiL : List (Nat × Nat) := [(655361, 123), (393219, 131), (65539, 153), (524291, 169), (458755, 207), (3, 220), (327683, 226), (196611, 314), (131075, 336), (589827, 361), (262147, 403), (720899, 1286)]
def sd_oi (o i : Nat) : Option Nat := if i < 65536 then sd_find sd_oiL (o * 65536 + i) else none
theorem sd_cnok : ∀ r ∈ sd_cnL, decide (r.2.1 < 12 ∧ lw_tbl[r.2.2]? = some (Cond.classLink (sd_R (r.1 / 65536)) (r.1 % 65536) (sd_C r.2.1).1)) = true := List.all_eq_true.mp (by decide +kernel)
theorem sd_oiok : ∀ r ∈ sd_oiL, decide (lw_tbl[r.2]? = some (Cond.methodLink (sd_R (r.1 / 65536)) (r.1 % 65536) objectInit)) = true := List.all_eq_true.mp (by decide +kernel)
theorem sd_ib_0 : Cond.instantiable (sd_C 0).1 (sd_C 0).2.2 ∈ sd_tbl ∧ Cond.initialized (sd_C 0).1 ∈ sd_tbl := ⟨sd_inT (i := 216) (by decide +kernel) rfl, sd_inT (i := 99) (by decide +kernel) rfl⟩
theorem sd_ib_1 : Cond.instantiable (sd_C 1).1 (sd_C 1).2.2 ∈ sd_tbl ∧ Cond.initialized (sd_C 1).1 ∈ sd_tbl := ⟨sd_inT (i := 149) (by decide +kernel) rfl, sd_inT (i := 96) (by decide +kernel) rfl⟩
theorem sd_ib_2 : Cond.instantiable (sd_C 2).1 (sd_C 2).2.2 ∈ sd_tbl ∧ Cond.initialized (sd_C 2).1 ∈ sd_tbl := ⟨sd_inT (i := 332) (by decide +kernel) rfl, sd_inT (i := 102) (by decide +kernel) rfl⟩
theorem sd_ib_3 : Cond.instantiable (sd_C 3).1 (sd_C 3).2.2 ∈ sd_tbl ∧ Cond.initialized (sd_C 3).1 ∈ sd_tbl := ⟨sd_inT (i := 310) (by decide +kernel) rfl, sd_inT (i := 101) (by decide +kernel) rfl⟩
theorem sd_ib_4 : Cond.instantiable (sd_C 4).1 (sd_C 4).2.2 ∈ sd_tbl ∧ Cond.initialized (sd_C 4).1 ∈ sd_tbl := ⟨sd_inT (i := 399) (by decide +kernel) rfl, sd_inT (i := 104) (by decide +kernel) rfl⟩
theorem sd_ib_5 : Cond.instantiable (sd_C 5).1 (sd_C 5).2.2 ∈ sd_tbl ∧ Cond.initialized (sd_C 5).1 ∈ sd_tbl := ⟨sd_inT (i := 222) (by decide +kernel) rfl, sd_inT (i := 100) (by decide +kernel) rfl⟩
theorem sd_ib_6 : Cond.instantiable (sd_C 6).1 (sd_C 6).2.2 ∈ sd_tbl ∧ Cond.initialized (sd_C 6).1 ∈ sd_tbl := ⟨sd_inT (i := 127) (by decide +kernel) rfl, sd_inT (i := 95) (by decide +kernel) rfl⟩
theorem sd_ib_7 : Cond.instantiable (sd_C 7).1 (sd_C 7).2.2 ∈ sd_tbl ∧ Cond.initialized (sd_C 7).1 ∈ sd_tbl := ⟨sd_inT (i := 203) (by decide +kernel) rfl, sd_inT (i := 98) (by decide +kernel) rfl⟩
theorem sd_ib_8 : Cond.instantiable (sd_C 8).1 (sd_C 8).2.2 ∈ sd_tbl ∧ Cond.initialized (sd_C 8).1 ∈ sd_tbl := ⟨sd_inT (i := 165) (by decide +kernel) rfl, sd_inT (i := 97) (by decide +kernel) rfl⟩
theorem sd_ib_9 : Cond.instantiable (sd_C 9).1 (sd_C 9).2.2 ∈ sd_tbl ∧ Cond.initialized (sd_C 9).1 ∈ sd_tbl := ⟨sd_inT (i := 357) (by decide +kernel) rfl, sd_inT (i := 103) (by decide +kernel) rfl⟩
theorem sd_ib_10 : Cond.instantiable (sd_C 10).1 (sd_C 10).2.2 ∈ sd_tbl ∧ Cond.initialized (sd_C 10).1 ∈ sd_tbl := ⟨sd_inT (i := 119) (by decide +kernel) rfl, sd_inT (i := 94) (by decide +kernel) rfl⟩
theorem sd_ib_11 : Cond.instantiable (sd_C 11).1 (sd_C 11).2.2 ∈ sd_tbl ∧ Cond.initialized (sd_C 11).1 ∈ sd_tbl := ⟨sd_inT (i := 1282) (by decide +kernel) rfl, sd_inT (i := 105) (by decide +kernel) rfl⟩
theorem sd_ib : ∀ ci, ci < 12 → Cond.instantiable (sd_C ci).1 (sd_C ci).2.2 ∈ sd_tbl ∧ Cond.initialized (sd_C ci).1 ∈ sd_tbl
  | 0, _ => sd_ib_0 | 1, _ => sd_ib_1 | 2, _ => sd_ib_2 | 3, _ => sd_ib_3 | 4, _ => sd_ib_4 | 5, _ => sd_ib_5 | 6, _ => sd_ib_6 | 7, _ => sd_ib_7 | 8, _ => sd_ib_8 | 9, _ => sd_ib_9 | 10, _ => sd_ib_10 | 11, _ => sd_ib_11
  | n + 12, h => absurd h (by omega)
theorem sd_objI : Cond.instanceMethod objectInit ∈ sd_tbl := sd_inT (i := 124) (by decide +kernel) rfl
theorem sd_objC : Cond.code objectInit ⟨#[0xb1]⟩ 1 none ∈ sd_tbl := List.mem_filter.mpr ⟨sd_t1 (List.mem_of_getElem? (i := 32) rfl), rfl⟩
theorem sd_acI0 : Cond.arrayClass .int ∈ sd_tbl := sd_inT (i := 147) (by decide +kernel) rfl
theorem sd_acI1 : Cond.arrayClass .byte ∈ sd_tbl := sd_inT (i := 740) (by decide +kernel) rfl
theorem sd_acI2 : Cond.arrayClass .long ∈ sd_tbl := sd_inT (i := 1970) (by decide +kernel) rfl
def sd_mn (o i : Nat) : Bool := decide (o = 8 ∧ i = 9)
theorem sd_mnW : Cond.classLink (sd_R 8) 9 ("[" ++ (FieldType.array .int).toString) ∈ sd_tbl := sd_inT (i := 170) (by decide +kernel) rfl
def sd_E0 : sd_E := (fun _ _ => none, fun _ => none)
def sd_wRow (σ : sd_Mem) (k : Nat) (f : Nat → Option Nat) : sd_Mem := (σ.1, σ.2.1, fun a j => if a = k then f j else σ.2.2 a j)
def sd_at (t : ArrayType) : Nat := match t with
  | .int => 0
  | .byte => 1
  | .long => 2
  | _ => 99
/-- pc, locals, stack, store, next cell, cells and slots made in this frame -/
abbrev sd_cS : Type := Nat × List Value × List Value × sd_Mem × Nat × Nat × Nat
abbrev sd_cO : Type := Option (sd_cS ⊕ (Nat × List Value × List Value) ⊕ Unit)
def sd_cL (len n : Nat) (r : sd_cO) : sd_cO := if len = n then r else none
def sd_cins (o : Nat) (ini : Bool) (i : Instr) (len pc : Nat) (ls st : List Value) (σ : sd_Mem) (n kc ks : Nat) : sd_cO :=
  match i with
  | .iconst v => sd_cL len 1 (some (.inl (pc + 1, ls, .int (Int32.ofInt v) :: st, σ, n, kc, ks)))
  | .bipush v => sd_cL len 2 (some (.inl (pc + 2, ls, .int (Int8.ofInt v).toInt32 :: st, σ, n, kc, ks)))
  | .sipush v => sd_cL len 3 (some (.inl (pc + 3, ls, .int (Int16.ofInt v).toInt32 :: st, σ, n, kc, ks)))
  | .lconst v => sd_cL len 1 (some (.inl (pc + 1, ls, .long (Int64.ofNat (v : Nat)) :: st, σ, n, kc, ks)))
  | .ldc k => sd_cL len 2 (match sd_sc o k with
      | some (i, _) => some (.inl (pc + 2, ls, .ref (410 + i) :: st, σ, n, kc, ks))
      | none => none)
  | .iload_n k => sd_cL len 1 (match sd_get ls k with
      | .int x => some (.inl (pc + 1, ls, .int x :: st, σ, n, kc, ks))
      | _ => none)
  | .aload_n k => sd_cL len 1 (match sd_get ls k with
      | .ref x => some (.inl (pc + 1, ls, .ref x :: st, σ, n, kc, ks))
      | _ => none)
  | .istore_n k => sd_cL len 1 (match st with
      | .int x :: r => if (k : Nat) < ls.length then some (.inl (pc + 1, sd_put ls k (.int x), r, σ, n, kc, ks)) else none
      | _ => none)
  | .iinc k t => sd_cL len 3 (match sd_get ls k with
      | .int x => if k < ls.length then some (.inl (pc + 3, sd_put ls k (.int (x + Int32.ofInt t)), st, σ, n, kc, ks)) else none
      | _ => none)
  | .if_icmp .ge off => sd_cL len 3 (match st with
      | .int y :: .int x :: r => if 0 ≤ (pc : Int) + off then (if y ≤ x then some (.inl (((pc : Int) + off).toNat, ls, r, σ, n, kc, ks)) else some (.inl (pc + 3, ls, r, σ, n, kc, ks))) else none
      | _ => none)
  | .goto off => sd_cL len 3 (if 0 ≤ (pc : Int) + off then some (.inl (((pc : Int) + off).toNat, ls, st, σ, n, kc, ks)) else none)
  | .dup => sd_cL len 1 (match st with
      | .ref a :: r => some (.inl (pc + 1, ls, .ref a :: .ref a :: r, σ, n, kc, ks))
      | _ => none)
  | .new k => sd_cL len 3 (match sd_cn o k with
      | some (ci, _) => if sd_sh n = .inl ci then some (.inl (pc + 3, ls, .ref n :: st, σ, n + 1, kc + 1, ks + (sd_C ci).2.2)) else none
      | none => none)
  | .newarray t => sd_cL len 2 (match st with
      | .int m :: r => if sd_at t < 3 ∧ sd_sh n = .inr (sd_at t, m.toNatClampNeg) ∧ ¬ m < 0 ∧ m.toNatClampNeg ≤ 65536 then some (.inl (pc + 2, ls, .ref n :: r, σ, n + 1, kc + 1, ks + m.toNatClampNeg)) else none
      | _ => none)
  | .anewarray k => sd_cL len 3 (match st, sd_cn o k with
      | .int m :: r, some (5, _) => if sd_sh n = .inr (3, m.toNatClampNeg) ∧ ¬ m < 0 ∧ m.toNatClampNeg ≤ 65536 then some (.inl (pc + 3, ls, .ref n :: r, σ, n + 1, kc + 1, ks + m.toNatClampNeg)) else none
      | _, _ => none)
  | .multianewarray k 2 => sd_cL len 4 (match st with
      | .int b :: .int a :: r => if sd_mn o k = true ∧ sd_sh n = .inr (4, a.toNatClampNeg) ∧ (List.range a.toNatClampNeg).all (fun j => decide (sd_sh (n + 1 + j) = .inr (0, b.toNatClampNeg))) = true ∧ ¬ a < 0 ∧ ¬ b < 0 ∧ a.toNatClampNeg ≤ 65536 ∧ b.toNatClampNeg ≤ 65536 then
          some (.inl (pc + 4, ls, .ref n :: r, sd_wRow σ n (fun i => if i < a.toNatClampNeg then some (n + 1 + i) else none), n + 1 + a.toNatClampNeg, kc + 1 + a.toNatClampNeg, ks + a.toNatClampNeg + a.toNatClampNeg * b.toNatClampNeg)) else none
      | _ => none)
  | .putfield k => sd_cL len 3 (match st with
      | v :: .ref a :: r => match sd_fl o k with
        | some (ci, f, _) => if sd_sh a = .inl ci ∧ a < n ∧ (((sd_C ci).2.1 f).2.2.2 = false ∨ (ini = true ∧ ((sd_C ci).2.1 f).1 = sd_R o)) then
            match sd_put1 sd_E0 σ a ci f v with
            | some σ' => some (.inl (pc + 3, ls, r, σ', n, kc, ks))
            | none => none
          else none
        | none => none
      | _ => none)
  | .getfield k => sd_cL len 3 (match st with
      | .ref a :: r => match sd_fl o k with
        | some (ci, f, _) => if sd_sh a = .inl ci ∧ a < n then some (.inl (pc + 3, ls, sd_val sd_E0 σ a ci f :: r, σ, n, kc, ks)) else none
        | none => none
      | _ => none)
  | .aastore => sd_cL len 1 (match st with
      | .ref v :: .int i :: .ref a :: r => match sd_sh a with
        | .inr (3, N) => if a < n ∧ v < n ∧ sd_sh v = .inl 5 ∧ ¬ (i < 0 ∨ N ≤ i.toNatClampNeg) then some (.inl (pc + 1, ls, r, sd_wR σ a i.toNatClampNeg (some v), n, kc, ks)) else none
        | _ => none
      | _ => none)
  | .invokespecial k => sd_cL len 3 (match sd_oi o k with
      | some _ => match st with
        | .ref _ :: r => if sd_cat r ≤ 8 then some (.inl (pc + 3, ls, r, σ, n, kc, ks)) else none
        | _ => none
      | none => match sd_lk o k with
        | some (y, 2, _) => match st.drop (sd_m y).2.2.2.2.2.1 with
          | .ref a :: r => if sd_cat r ≤ 8 then some (.inr (.inl (y, .ref a :: (st.take (sd_m y).2.2.2.2.2.1).reverse, r))) else none
          | _ => none
        | _ => none)
  | .return_ => sd_cL len 1 (match st with
      | [] => some (.inr (.inr ()))
      | _ => none)
  | _ => none
def sd_cstep (y pc : Nat) (ls st : List Value) (σ : sd_Mem) (n kc ks : Nat) : sd_cO := match decode (sd_m y).2.1 pc with
  | .ok (i, len) => sd_cins (sd_m y).2.2.2.2.1 (decide ((sd_m y).1.name = "<init>")) i len pc ls st σ n kc ks
  | .error _ => none
/-- f instructions, calls at most d deep: the store, the next cell, cells and slots made -/
def sd_cev : Nat → Nat → Nat → Nat → List Value → List Value → sd_Mem → Nat → Nat → Nat → Option (sd_Mem × Nat × Nat × Nat)
  | 0, _, _, _, _, _, _, _, _, _ => none
  | f + 1, d, y, pc, ls, st, σ, n, kc, ks => match sd_cstep y pc ls st σ n kc ks with
    | none => none
    | some (.inl z) => sd_cev f d y z.1 z.2.1 z.2.2.1 z.2.2.2.1 z.2.2.2.2.1 z.2.2.2.2.2.1 z.2.2.2.2.2.2
    | some (.inr (.inl q)) => match d with
      | 0 => none
      | d + 1 => if (sd_ent q.2.1).length ≤ (sd_m q.1).2.2.1 then (match sd_cev f d q.1 0 (sd_entry q.2.1 (sd_m q.1).2.2.1) [] σ n 0 0 with
        | some r => sd_cev f (d + 1) y (pc + 3) ls q.2.2 r.1 r.2.1 (kc + r.2.2.1) (ks + r.2.2.2)
        | none => none) else none
    | some (.inr (.inr _)) => some (σ, n, kc, ks)
def sd_z0 : sd_Mem := (fun _ _ => 0, fun _ _ => 0, fun _ _ => none)
def sd_mk1 : Option (sd_Mem × Nat × Nat × Nat) := sd_cev 20000 10 y_X_init 0 (sd_entry [.ref 0] (sd_m y_X_init).2.2.1) [] sd_z0 1 0 0
def sd_mk2 : Option (sd_Mem × Nat × Nat × Nat) := match sd_mk1 with
  | some r => sd_cev 20000 10 y_M_init 0 (sd_entry [.ref 271] (sd_m y_M_init).2.2.1) [] r.1 (r.2.1 + 1) 0 0
  | none => none
theorem sd_mk1_ok : (match sd_mk1 with | some r => decide (r.2.1 = 271) | none => false) = true := by decide +kernel

