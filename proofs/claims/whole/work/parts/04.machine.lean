/-! THE PURE MACHINE: the bytecode over a store of numbers, longs and references by cell and slot; cells are numbered in the order in which they are made -/
abbrev sd_Mem : Type := (Nat → Nat → Int32) × (Nat → Nat → Int64) × (Nat → Nat → Option Nat)
/-- final references; arrays of ints that lie outside and that nobody writes -/
abbrev sd_E : Type := (Nat → Nat → Option Nat) × (Nat → Option (Nat × (Nat → Int32)))
def sd_wI (σ : sd_Mem) (k i : Nat) (v : Int32) : sd_Mem := (fun a j => if a = k ∧ j = i then v else σ.1 a j, σ.2)
def sd_wL (σ : sd_Mem) (k i : Nat) (v : Int64) : sd_Mem := (σ.1, fun a j => if a = k ∧ j = i then v else σ.2.1 a j, σ.2.2)
def sd_wR (σ : sd_Mem) (k i : Nat) (v : Option Nat) : sd_Mem := (σ.1, σ.2.1, fun a j => if a = k ∧ j = i then v else σ.2.2 a j)
def sd_wA (σ : sd_Mem) (k : Nat) (f : Nat → Int32) : sd_Mem := (fun a j => if a = k then f j else σ.1 a j, σ.2)
def sd_gR (E : sd_E) (σ : sd_Mem) (k i : Nat) : Option Nat := match E.1 k i with
  | some j => some j
  | none => σ.2.2 k i
def sd_val (E : sd_E) (σ : sd_Mem) (a ci k : Nat) : Value := match sd_kd ci k with
  | 1 => .long (σ.2.1 a k)
  | 2 => va_rf (sd_gR E σ a k)
  | _ => .int (σ.1 a k)
def sd_un : Value := .retAddr 0
def sd_get (ls : List Value) (i : Nat) : Value := ls.getD i sd_un
def sd_clr : List Value → List Value
  | [] => []
  | _ :: xs => sd_un :: xs
def sd_put : List Value → Nat → Value → List Value
  | [], _, _ => []
  | _ :: xs, 0, v => v :: (if v.category = 2 then sd_clr xs else xs)
  | x :: xs, i + 1, v => (if i = 0 ∧ x.category = 2 then sd_un else x) :: sd_put xs i v
abbrev sd_St : Type := Nat × List Value × List Value × sd_Mem
abbrev sd_O : Type := Option (sd_St ⊕ (Nat × List Value × List Value) ⊕ Option Value)
abbrev sd_nx (pc : Nat) (ls st : List Value) (σ : sd_Mem) : sd_O := some (.inl (pc, ls, st, σ))
def sd_jmp (pc : Nat) (off : Int) (ls st : List Value) (σ : sd_Mem) : sd_O := if 0 ≤ (pc : Int) + off then sd_nx ((pc : Int) + off).toNat ls st σ else none
def sd_L (len n : Nat) (r : sd_O) : sd_O := if len = n then r else none
def sd_1 (st : List Value) (f : Int32 → List Value → sd_O) : sd_O := match st with
  | .int x :: r => f x r
  | _ => none
def sd_2 (st : List Value) (f : Int32 → Int32 → List Value → sd_O) : sd_O := match st with
  | .int y :: .int x :: r => f x y r
  | _ => none
def sd_l1 (st : List Value) (f : Int64 → List Value → sd_O) : sd_O := match st with
  | .long x :: r => f x r
  | _ => none
def sd_l2 (st : List Value) (f : Int64 → Int64 → List Value → sd_O) : sd_O := match st with
  | .long y :: .long x :: r => f x y r
  | _ => none
def sd_li (st : List Value) (f : Int64 → Int32 → List Value → sd_O) : sd_O := match st with
  | .int y :: .long x :: r => f x y r
  | _ => none
def sd_r1 (st : List Value) (f : Nat → List Value → sd_O) : sd_O := match st with
  | .ref a :: r => f a r
  | _ => none
def sd_ix (st : List Value) (f : Nat → Int32 → List Value → sd_O) : sd_O := match st with
  | .int i :: .ref a :: r => f a i r
  | _ => none
def sd_cat (st : List Value) : Nat := (st.map fun v => v.category).sum
def sd_if (c : Prop) [Decidable c] (pc : Nat) (off : Int) (ls st : List Value) (σ : sd_Mem) : sd_O := if 0 ≤ (pc : Int) + off then (if c then sd_nx ((pc : Int) + off).toNat ls st σ else sd_nx (pc + 3) ls st σ) else none
def sd_ld (E : sd_E) (σ : sd_Mem) (a : Nat) (i : Int32) (g : Int32 → sd_O) : sd_O := match sd_sh a with
  | .inr (0, n) => if ¬ (i < 0 ∨ n ≤ i.toNatClampNeg) then g (σ.1 a i.toNatClampNeg) else none
  | _ => match E.2 a with
    | some (n, f) => if ¬ (i < 0 ∨ n ≤ i.toNatClampNeg) then g (f i.toNatClampNeg) else none
    | none => none
def sd_put1 (E : sd_E) (σ : sd_Mem) (a ci k : Nat) (v : Value) : Option sd_Mem := match sd_kd ci k, v with
  | 0, .int x => some (sd_wI σ a k x)
  | 3, .int x => if x = 0 ∨ x = 1 then some (sd_wI σ a k x) else none
  | 1, .long x => some (sd_wL σ a k x)
  | 2, .ref b => if E.1 a k = none then some (sd_wR σ a k (some b)) else none
  | _, _ => none
def sd_sta (σ : sd_Mem) (pc : Nat) (ls st : List Value) (i : Nat) : sd_O := match st with
  | .ref a :: r => if i < ls.length then sd_nx pc (sd_put ls i (.ref a)) r σ else none
  | _ => none
def sd_sti (σ : sd_Mem) (pc : Nat) (ls st : List Value) (i : Nat) : sd_O := match st with
  | .int a :: r => if i < ls.length then sd_nx pc (sd_put ls i (.int a)) r σ else none
  | _ => none
def sd_stl (σ : sd_Mem) (pc : Nat) (ls st : List Value) (i : Nat) : sd_O := match st with
  | .long a :: r => if i + 1 < ls.length then sd_nx pc (sd_put ls i (.long a)) r σ else none
  | _ => none
def sd_lda (σ : sd_Mem) (pc : Nat) (ls st : List Value) (i : Nat) : sd_O := match sd_get ls i with
  | .ref a => sd_nx pc ls (.ref a :: st) σ
  | _ => none
def sd_ldi (σ : sd_Mem) (pc : Nat) (ls st : List Value) (i : Nat) : sd_O := match sd_get ls i with
  | .int a => sd_nx pc ls (.int a :: st) σ
  | _ => none
def sd_ldl (σ : sd_Mem) (pc : Nat) (ls st : List Value) (i : Nat) : sd_O := match sd_get ls i with
  | .long a => sd_nx pc ls (.long a :: st) σ
  | _ => none
def sd_cpy (E : sd_E) (σ : sd_Mem) (pc : Nat) (ls st : List Value) : sd_O := match st with
  | .int n :: .int dp :: .ref a :: .int sp :: .ref a0 :: r => match sd_sh a0, sd_sh a with
    | .inr (0, n0), .inr (0, n1) =>
      if ¬ sp < 0 ∧ ¬ dp < 0 ∧ ¬ n < 0 ∧ sp.toNatClampNeg + n.toNatClampNeg ≤ n0 ∧ dp.toNatClampNeg + n.toNatClampNeg ≤ n1 ∧ sd_cat r ≤ 8 then
        sd_nx pc ls r (sd_wA σ a (va_cpy (σ.1 a0) (σ.1 a) sp.toNatClampNeg dp.toNatClampNeg n.toNatClampNeg)) else none
    | _, .inr (0, n1) => match E.2 a0 with
      | some (n0, f) =>
        if ¬ sp < 0 ∧ ¬ dp < 0 ∧ ¬ n < 0 ∧ sp.toNatClampNeg + n.toNatClampNeg ≤ n0 ∧ dp.toNatClampNeg + n.toNatClampNeg ≤ n1 ∧ sd_cat r ≤ 8 then
          sd_nx pc ls r (sd_wA σ a (va_cpy f (σ.1 a) sp.toNatClampNeg dp.toNatClampNeg n.toNatClampNeg)) else none
      | none => none
    | _, _ => none
  | _ => none
def sd_mth (t pc : Nat) (ls st : List Value) (σ : sd_Mem) : sd_O := match t with
  | 0 => sd_2 st fun x y r => if sd_cat r ≤ 8 then sd_nx pc ls (.int (if x < y then y else x) :: r) σ else none
  | 1 => sd_2 st fun x y r => if sd_cat r ≤ 9 then sd_nx pc ls (.int (if y < x then y else x) :: r) σ else none
  | 2 => sd_1 st fun x r => if sd_cat r ≤ 8 then sd_nx pc ls (.int (if 0 ≤ x then x else 0 - x) :: r) σ else none
  | 3 => sd_l2 st fun x y r => if sd_cat r ≤ 8 then sd_nx pc ls (.long (if y < x then x else y) :: r) σ else none
  | 4 => sd_l2 st fun x y r => if sd_cat r ≤ 8 then sd_nx pc ls (.long (if y < x then y else x) :: r) σ else none
  | _ => none
def sd_ins (E : sd_E) (o : Nat) (rt : Option FieldType) (i : Instr) (len pc : Nat) (ls st : List Value) (σ : sd_Mem) : sd_O :=
  match i with
  | .iconst n => sd_L len 1 (sd_nx (pc + 1) ls (.int (Int32.ofInt n) :: st) σ)
  | .bipush n => sd_L len 2 (sd_nx (pc + 2) ls (.int (Int8.ofInt n).toInt32 :: st) σ)
  | .sipush n => sd_L len 3 (sd_nx (pc + 3) ls (.int (Int16.ofInt n).toInt32 :: st) σ)
  | .lconst n => sd_L len 1 (sd_nx (pc + 1) ls (.long (Int64.ofNat (n : Nat)) :: st) σ)
  | .ldc k => sd_L len 2 (match sd_cst o k with | some (v, _) => sd_nx (pc + 2) ls (.int v :: st) σ | none => match sd_sc o k with | some (i, _) => sd_nx (pc + 2) ls (.ref (410 + i) :: st) σ | none => none)
  | .ldc_w k => sd_L len 3 (match sd_cst o k with | some (v, _) => sd_nx (pc + 3) ls (.int v :: st) σ | none => match sd_sc o k with | some (i, _) => sd_nx (pc + 3) ls (.ref (410 + i) :: st) σ | none => none)
  | .ldc2_w k => sd_L len 3 (match sd_csl o k with | some (v, _) => sd_nx (pc + 3) ls (.long v :: st) σ | none => none)
  | .iload_n k => sd_L len 1 (sd_ldi σ (pc + 1) ls st k)
  | .iload k => sd_L len 2 (sd_ldi σ (pc + 2) ls st k)
  | .lload_n k => sd_L len 1 (sd_ldl σ (pc + 1) ls st k)
  | .lload k => sd_L len 2 (sd_ldl σ (pc + 2) ls st k)
  | .aload_n k => sd_L len 1 (sd_lda σ (pc + 1) ls st k)
  | .aload k => sd_L len 2 (sd_lda σ (pc + 2) ls st k)
  | .istore_n k => sd_L len 1 (sd_sti σ (pc + 1) ls st k)
  | .istore k => sd_L len 2 (sd_sti σ (pc + 2) ls st k)
  | .lstore_n k => sd_L len 1 (sd_stl σ (pc + 1) ls st k)
  | .lstore k => sd_L len 2 (sd_stl σ (pc + 2) ls st k)
  | .astore_n k => sd_L len 1 (sd_sta σ (pc + 1) ls st k)
  | .astore k => sd_L len 2 (sd_sta σ (pc + 2) ls st k)
  | .iinc k n => sd_L len 3 (match sd_get ls k with | .int x => if k < ls.length then sd_nx (pc + 3) (sd_put ls k (.int (x + Int32.ofInt n))) st σ else none | _ => none)
  | .iadd => sd_L len 1 (sd_2 st fun x y r => sd_nx (pc + 1) ls (.int (x + y) :: r) σ)
  | .isub => sd_L len 1 (sd_2 st fun x y r => sd_nx (pc + 1) ls (.int (x - y) :: r) σ)
  | .imul => sd_L len 1 (sd_2 st fun x y r => sd_nx (pc + 1) ls (.int (x * y) :: r) σ)
  | .iand => sd_L len 1 (sd_2 st fun x y r => sd_nx (pc + 1) ls (.int (x &&& y) :: r) σ)
  | .ior => sd_L len 1 (sd_2 st fun x y r => sd_nx (pc + 1) ls (.int (x ||| y) :: r) σ)
  | .ixor => sd_L len 1 (sd_2 st fun x y r => sd_nx (pc + 1) ls (.int (x ^^^ y) :: r) σ)
  | .ishl => sd_L len 1 (sd_2 st fun x y r => sd_nx (pc + 1) ls (.int (x <<< (y &&& 31)) :: r) σ)
  | .ishr => sd_L len 1 (sd_2 st fun x y r => sd_nx (pc + 1) ls (.int (x >>> (y &&& 31)) :: r) σ)
  | .iushr => sd_L len 1 (sd_2 st fun x y r => sd_nx (pc + 1) ls (.int (x.toUInt32 >>> (y.toUInt32 &&& Int32.toUInt32 31)).toInt32 :: r) σ)
  | .idiv => sd_L len 1 (sd_2 st fun x y r => if ¬ y = 0 then sd_nx (pc + 1) ls (.int (x / y) :: r) σ else none)
  | .irem => sd_L len 1 (sd_2 st fun x y r => if ¬ y = 0 then sd_nx (pc + 1) ls (.int (x - x / y * y) :: r) σ else none)
  | .ineg => sd_L len 1 (sd_1 st fun x r => sd_nx (pc + 1) ls (.int (-x) :: r) σ)
  | .ladd => sd_L len 1 (sd_l2 st fun x y r => sd_nx (pc + 1) ls (.long (x + y) :: r) σ)
  | .lsub => sd_L len 1 (sd_l2 st fun x y r => sd_nx (pc + 1) ls (.long (x - y) :: r) σ)
  | .lmul => sd_L len 1 (sd_l2 st fun x y r => sd_nx (pc + 1) ls (.long (x * y) :: r) σ)
  | .land => sd_L len 1 (sd_l2 st fun x y r => sd_nx (pc + 1) ls (.long (x &&& y) :: r) σ)
  | .lor => sd_L len 1 (sd_l2 st fun x y r => sd_nx (pc + 1) ls (.long (x ||| y) :: r) σ)
  | .ldiv => sd_L len 1 (sd_l2 st fun x y r => if ¬ y = 0 then sd_nx (pc + 1) ls (.long (x / y) :: r) σ else none)
  | .lrem => sd_L len 1 (sd_l2 st fun x y r => if ¬ y = 0 then sd_nx (pc + 1) ls (.long (x - x / y * y) :: r) σ else none)
  | .lcmp => sd_L len 1 (sd_l2 st fun x y r => sd_nx (pc + 1) ls (.int (lg_cmp x y) :: r) σ)
  | .lushr => sd_L len 1 (sd_li st fun x y r => sd_nx (pc + 1) ls (.long (x.toUInt64 >>> (y.toInt64.toUInt64 &&& Int64.toUInt64 63)).toInt64 :: r) σ)
  | .lshl => sd_L len 1 (sd_li st fun x y r => sd_nx (pc + 1) ls (.long (x <<< (y.toInt64 &&& 63)) :: r) σ)
  | .i2l => sd_L len 1 (sd_1 st fun x r => sd_nx (pc + 1) ls (.long x.toInt64 :: r) σ)
  | .l2i => sd_L len 1 (sd_l1 st fun x r => sd_nx (pc + 1) ls (.int x.toInt32 :: r) σ)
  | .i2b => sd_L len 1 (sd_1 st fun x r => sd_nx (pc + 1) ls (.int x.toInt8.toInt32 :: r) σ)
  | .i2c => sd_L len 1 (sd_1 st fun x r => sd_nx (pc + 1) ls (.int (x.toUInt32 % 65536).toInt32 :: r) σ)
  | .dup => sd_L len 1 (match st with | v :: r => if v.category = 1 then sd_nx (pc + 1) ls (v :: v :: r) σ else none | _ => none)
  | .pop => sd_L len 1 (match st with | v :: r => if v.category = 1 then sd_nx (pc + 1) ls r σ else none | _ => none)
  | .dup2 => sd_L len 1 (match st with | v :: w :: r => if v.category = 1 ∧ w.category = 1 then sd_nx (pc + 1) ls (v :: w :: v :: w :: r) σ else none | _ => none)
  | .goto off => sd_L len 3 (sd_jmp pc off ls st σ)
  | .ifCond .eq off => sd_L len 3 (sd_1 st fun x r => sd_if (x = 0) pc off ls r σ)
  | .ifCond .ne off => sd_L len 3 (sd_1 st fun x r => sd_if (¬ x = 0) pc off ls r σ)
  | .ifCond .lt off => sd_L len 3 (sd_1 st fun x r => sd_if (x < 0) pc off ls r σ)
  | .ifCond .ge off => sd_L len 3 (sd_1 st fun x r => sd_if (0 ≤ x) pc off ls r σ)
  | .ifCond .gt off => sd_L len 3 (sd_1 st fun x r => sd_if (0 < x) pc off ls r σ)
  | .ifCond .le off => sd_L len 3 (sd_1 st fun x r => sd_if (x ≤ 0) pc off ls r σ)
  | .if_icmp .eq off => sd_L len 3 (sd_2 st fun x y r => sd_if (x = y) pc off ls r σ)
  | .if_icmp .ne off => sd_L len 3 (sd_2 st fun x y r => sd_if (¬ x = y) pc off ls r σ)
  | .if_icmp .lt off => sd_L len 3 (sd_2 st fun x y r => sd_if (x < y) pc off ls r σ)
  | .if_icmp .ge off => sd_L len 3 (sd_2 st fun x y r => sd_if (y ≤ x) pc off ls r σ)
  | .if_icmp .gt off => sd_L len 3 (sd_2 st fun x y r => sd_if (y < x) pc off ls r σ)
  | .if_icmp .le off => sd_L len 3 (sd_2 st fun x y r => sd_if (x ≤ y) pc off ls r σ)
  | .tableswitch dflt lo hi offs => sd_1 st fun x r => if x.toInt < lo ∨ hi < x.toInt then sd_jmp pc dflt ls r σ else
      match offs[(x.toInt - lo).toNat]? with
      | some off => sd_jmp pc off ls r σ
      | none => none
  | .getfield k => sd_L len 3 (sd_r1 st fun a r => match sd_fl o k with
      | some (ci, f, _) => if sd_sh a = .inl ci then sd_nx (pc + 3) ls (sd_val E σ a ci f :: r) σ else none
      | none => match sd_sf o k with
        | some (t, _) => if 410 ≤ a ∧ a < 419 then sd_nx (pc + 3) ls ((if t = 0 then .ref (a + 20) else .int 0) :: r) σ else none
        | none => none)
  | .getstatic k => sd_L len 3 (match sd_gs o k with
      | some (t, _) => sd_nx (pc + 3) ls ((if t < 4 then .ref (401 + t) else if t = 4 then .int 1 else va_rf (E.1 450 0)) :: st) σ
      | none => none)
  | .putfield k => sd_L len 3 (match st with
      | v :: .ref a :: r => match sd_fl o k with
        | some (ci, f, _) => if sd_sh a = .inl ci ∧ ((sd_C ci).2.1 f).2.2.2 = false then
            match sd_put1 E σ a ci f v with
            | some σ' => sd_nx (pc + 3) ls r σ'
            | none => none
          else none
        | none => none
      | _ => none)
  | .iaload => sd_L len 1 (sd_ix st fun a i r => sd_ld E σ a i fun v => sd_nx (pc + 1) ls (.int v :: r) σ)
  | .baload => sd_L len 1 (sd_ix st fun a i r => match sd_sh a with
      | .inr (1, n) => if ¬ (i < 0 ∨ n ≤ i.toNatClampNeg) then sd_nx (pc + 1) ls (.int (σ.1 a i.toNatClampNeg) :: r) σ else none
      | _ => if (430 ≤ a ∧ a < 439) ∧ ¬ (i < 0 ∨ sd_slen.getD (a - 430) 0 ≤ i.toNatClampNeg) then sd_nx (pc + 1) ls (.int ((sd_sbyt.getD (a - 430) []).getD i.toNatClampNeg 0) :: r) σ else none)
  | .laload => sd_L len 1 (sd_ix st fun a i r => match sd_sh a with
      | .inr (2, n) => if ¬ (i < 0 ∨ n ≤ i.toNatClampNeg) then sd_nx (pc + 1) ls (.long (σ.2.1 a i.toNatClampNeg) :: r) σ else none
      | _ => none)
  | .aaload => sd_L len 1 (sd_ix st fun a i r => match sd_sh a with
      | .inr (3, n) => if ¬ (i < 0 ∨ n ≤ i.toNatClampNeg) then sd_nx (pc + 1) ls (va_rf (sd_gR E σ a i.toNatClampNeg) :: r) σ else none
      | .inr (4, n) => if ¬ (i < 0 ∨ n ≤ i.toNatClampNeg) then sd_nx (pc + 1) ls (va_rf (sd_gR E σ a i.toNatClampNeg) :: r) σ else none
      | _ => none)
  | .iastore => sd_L len 1 (sd_1 st fun v r => sd_ix r fun a i r => match sd_sh a with
      | .inr (0, n) => if ¬ (i < 0 ∨ n ≤ i.toNatClampNeg) then sd_nx (pc + 1) ls r (sd_wI σ a i.toNatClampNeg v) else none
      | _ => none)
  | .bastore => sd_L len 1 (sd_1 st fun v r => sd_ix r fun a i r => match sd_sh a with
      | .inr (1, n) => if ¬ (i < 0 ∨ n ≤ i.toNatClampNeg) then sd_nx (pc + 1) ls r (sd_wI σ a i.toNatClampNeg (vp_nar .byte v)) else none
      | _ => none)
  | .lastore => sd_L len 1 (sd_l1 st fun v r => sd_ix r fun a i r => match sd_sh a with
      | .inr (2, n) => if ¬ (i < 0 ∨ n ≤ i.toNatClampNeg) then sd_nx (pc + 1) ls r (sd_wL σ a i.toNatClampNeg v) else none
      | _ => none)
  | .arraylength => sd_L len 1 (sd_r1 st fun a r => match sd_sh a with
      | .inr (0, n) => sd_nx (pc + 1) ls (.int (Int32.ofNat n) :: r) σ
      | _ => match E.2 a with
        | some (n, _) => sd_nx (pc + 1) ls (.int (Int32.ofNat n) :: r) σ
        | none => if 430 ≤ a ∧ a < 439 then sd_nx (pc + 1) ls (.int (Int32.ofNat (sd_slen.getD (a - 430) 0)) :: r) σ else none)
  | .invokevirtual k => sd_L len 3 (match sd_lk o k with
      | some (y, 0, _) => match st.drop (sd_m y).2.2.2.2.2.1 with
        | .ref a :: r => if (sd_sh a = .inl (sd_m y).2.2.2.2.1 ∨ ((sd_m y).2.2.2.2.1 = 15 ∧ 410 ≤ a ∧ a < 419)) ∧ sd_cat r ≤ 8 then some (.inr (.inl (y, .ref a :: (st.take (sd_m y).2.2.2.2.2.1).reverse, r))) else none
        | _ => none
      | _ => none)
  | .invokestatic k => sd_L len 3 (match sd_ac o k with
      | some _ => sd_cpy E σ (pc + 3) ls st
      | none => match sd_mt o k with
      | some (t, _) => sd_mth t (pc + 3) ls st σ
      | none => match sd_lk o k with
        | some (y, 1, _) => if (sd_m y).2.2.2.2.2.1 ≤ st.length ∧ sd_cat (st.drop (sd_m y).2.2.2.2.2.1) ≤ 8 then some (.inr (.inl (y, (st.take (sd_m y).2.2.2.2.2.1).reverse, st.drop (sd_m y).2.2.2.2.2.1))) else none
        | _ => none)
  | .ireturn => sd_L len 1 (match st, rt with
      | [.int v], some .int => some (.inr (.inr (some (.int v))))
      | [.int v], some .boolean => if v = 0 ∨ v = 1 then some (.inr (.inr (some (.int v)))) else none
      | [.int v], some .char => if narrow .char (.int v) = .int v then some (.inr (.inr (some (.int v)))) else none
      | [.int v], some .byte => if narrow .byte (.int v) = .int v then some (.inr (.inr (some (.int v)))) else none
      | _, _ => none)
  | .areturn => sd_L len 1 (match st, rt with
      | [.ref a], some (.object _) => some (.inr (.inr (some (.ref a))))
      | _, _ => none)
  | .lreturn => sd_L len 1 (match st, rt with
      | [.long v], some .long => some (.inr (.inr (some (.long v))))
      | _, _ => none)
  | .return_ => sd_L len 1 (match st, rt with
      | [], none => some (.inr (.inr none))
      | _, _ => none)
  | _ => none
def sd_step (E : sd_E) (y pc : Nat) (ls st : List Value) (σ : sd_Mem) : sd_O := match decode (sd_m y).2.1 pc with
  | .ok (i, len) => sd_ins E (sd_m y).2.2.2.2.1 (sd_m y).2.2.2.1 i len pc ls st σ
  | .error _ => none
/-- n instructions of one frame, calls by C -/
def sd_run (E : sd_E) (C : Nat → List Value → sd_Mem → Option Value → sd_Mem → Prop) (y : Nat) : Nat → Nat → List Value → List Value → sd_Mem → Option Value → sd_Mem → Prop
  | 0, _, _, _, _, _, _ => False
  | n + 1, pc, ls, st, σ, r, σ' => match sd_step E y pc ls st σ with
    | none => False
    | some (.inl z) => sd_run E C y n z.1 z.2.1 z.2.2.1 z.2.2.2 r σ'
    | some (.inr (.inl q)) => ∃ v σ1, C q.1 q.2.1 σ v σ1 ∧ sd_run E C y n (pc + 3) ls (v.toList ++ q.2.2) σ1 r σ'
    | some (.inr (.inr v)) => v = r ∧ σ = σ'
def sd_ent : List Value → List Value
  | [] => []
  | v :: vs => v :: (if v.category = 2 then sd_un :: sd_ent vs else sd_ent vs)
def sd_entry (av : List Value) (n : Nat) : List Value := sd_ent av ++ List.replicate (n - (sd_ent av).length) sd_un
def sd_ok (v : Value) : Bool := match v with
  | .retAddr _ => false
  | _ => true
/-- calls of depth d -/
def sd_C' (E : sd_E) : Nat → Nat → List Value → sd_Mem → Option Value → sd_Mem → Prop
  | 0 => fun _ _ _ _ _ => False
  | d + 1 => fun y av σ r σ' => y < 297 ∧ (sd_ent av).length ≤ (sd_m y).2.2.1 ∧ ∃ n, sd_run E (sd_C' E d) y n 0 (sd_entry av (sd_m y).2.2.1) [] σ r σ'
/-- from a frame the method comes to its end with Q -/
def sd_Go (E : sd_E) (d y pc : Nat) (ls st : List Value) (σ : sd_Mem) (Q : Option Value → sd_Mem → Prop) : Prop := ∃ n r σ', sd_run E (sd_C' E d) y n pc ls st σ r σ' ∧ Q r σ'
def sd_Call (E : sd_E) (d y : Nat) (av : List Value) (σ : sd_Mem) (Q : Option Value → sd_Mem → Prop) : Prop := ∃ r σ', sd_C' E d y av σ r σ' ∧ Q r σ'
theorem sd_Go.next {E : sd_E} {d y pc : Nat} {ls st : List Value} {σ : sd_Mem} {Q : Option Value → sd_Mem → Prop} {pc' : Nat} {ls' st' : List Value} {σ' : sd_Mem}
    (h : sd_step E y pc ls st σ = some (.inl (pc', ls', st', σ'))) (k : sd_Go E d y pc' ls' st' σ' Q) : sd_Go E d y pc ls st σ Q := by
  obtain ⟨n, r, σ2, h1, h2⟩ := k
  exact ⟨n + 1, r, σ2, by rw [sd_run, h]; exact h1, h2⟩
theorem sd_Go.call {E : sd_E} {d y pc : Nat} {ls st : List Value} {σ : sd_Mem} {Q : Option Value → sd_Mem → Prop} {y' : Nat} {av rest : List Value}
    (h : sd_step E y pc ls st σ = some (.inr (.inl (y', av, rest)))) (k : sd_Call E d y' av σ (fun v σ' => sd_Go E d y (pc + 3) ls (v.toList ++ rest) σ' Q)) : sd_Go E d y pc ls st σ Q := by
  obtain ⟨v, σ1, h1, n, r, σ2, h2, h3⟩ := k
  exact ⟨n + 1, r, σ2, by rw [sd_run, h]; exact ⟨v, σ1, h1, h2⟩, h3⟩
theorem sd_Go.ret {E : sd_E} {d y pc : Nat} {ls st : List Value} {σ : sd_Mem} {Q : Option Value → sd_Mem → Prop} {v : Option Value}
    (h : sd_step E y pc ls st σ = some (.inr (.inr v))) (k : Q v σ) : sd_Go E d y pc ls st σ Q :=
  ⟨1, v, σ, by rw [sd_run, h]; exact ⟨rfl, rfl⟩, k⟩
theorem sd_Call.of {E : sd_E} {d y : Nat} {av : List Value} {σ : sd_Mem} {Q : Option Value → sd_Mem → Prop} (hy : y < 297) (hl : (sd_ent av).length ≤ (sd_m y).2.2.1)
    (k : sd_Go E d y 0 (sd_entry av (sd_m y).2.2.1) [] σ Q) : sd_Call E (d + 1) y av σ Q := by
  obtain ⟨n, r, σ2, h1, h2⟩ := k
  exact ⟨r, σ2, ⟨hy, hl, n, h1⟩, h2⟩
