/-! what rows of steps give, piece by piece -/
theorem ty_fuel {sp : Nat → Nat} {sn : Nat} {ℓ : Nat → Int32} : ∀ f g i st, sn < f + i → sn < g + i → sw_ex sp sn ℓ f i st = sw_ex sp sn ℓ g i st := by
  intro f
  induction f with
  | zero =>
    intro g i st h1 h2
    cases g with
    | zero => rfl
    | succ g => rw [sw_ex, sw_ex, if_pos (by omega)]
  | succ f ih =>
    intro g i st h1 h2
    cases g with
    | zero => rw [sw_ex, sw_ex, if_pos (by omega)]
    | succ g =>
      have hc := sw_ce_le sp (sn - i) i
      rw [sw_ex, sw_ex]
      by_cases q : i < sn
      · rw [ih g (i + 1) _ (by omega) (by omega), ih g (i + 1) (ℓ (sp i - 10000) :: st) (by omega) (by omega), ih g (i + 1) st.tail (by omega) (by omega), ih g (i + 1) ((nI 1 - st.headD (nI 0)) :: st.tail) (by omega) (by omega), ih g (i + 1) (sw_jn (sp i - 20000) (st.tail.headD (nI 0)) (st.headD (nI 0)) :: st.tail.tail) (by omega) (by omega), ih g (sw_ce sp (sn - i) i + 1) st.tail (by omega) (by omega)]
      · rw [if_pos q, if_pos q]
/-- the run from i on -/
def ty_R (sp : Nat → Nat) (sn : Nat) (ℓ : Nat → Int32) (i : Nat) (st : List Int32) : Int32 := sw_ex sp sn ℓ (sn + 1) i st
section SDBG
variable {sp : Nat → Nat} {sn i : Nat} {ℓ : Nat → Int32} {st : List Int32}
theorem ty_R0 (h : sn ≤ i) : ty_R sp sn ℓ i st = nI 0 := by
  unfold ty_R
  rw [sw_ex, if_pos (by omega)]
theorem ty_Rn (h : i < sn) (h1 : sp i < 10000) : ty_R sp sn ℓ i st = ty_R sp sn ℓ (i + 1) (nI (sp i) :: st) := by
  unfold ty_R
  rw [sw_ex, if_neg (by omega), if_pos h1]
  exact ty_fuel _ _ _ _ (by omega) (by omega)
theorem ty_Rl (h : i < sn) {k : Nat} (hk : k < 6) (h1 : sp i = 10000 + k) : ty_R sp sn ℓ i st = ty_R sp sn ℓ (i + 1) (ℓ k :: st) := by
  unfold ty_R
  rw [sw_ex, if_neg (by omega), if_neg (by omega), if_pos (by omega), show sp i - 10000 = k by omega]
  exact ty_fuel _ _ _ _ (by omega) (by omega)
theorem ty_Re (h : i < sn) (h1 : sp i = 20059) : ty_R sp sn ℓ i st = st.headD (nI 0) := by
  unfold ty_R
  rw [sw_ex, if_neg (by omega), if_neg (by omega), if_neg (by omega), if_pos h1]
theorem ty_Rq (h : i < sn) (h1 : sp i = 20063) {x : Int32} : ty_R sp sn ℓ i (x :: st) = if x = 0 then ty_R sp sn ℓ (sw_ce sp (sn - i) i + 1) st else ty_R sp sn ℓ (i + 1) st := by
  have hc := sw_ce_le sp (sn - i) i
  unfold ty_R
  rw [sw_ex, if_neg (by omega), if_neg (by omega), if_neg (by omega), if_neg (by omega), if_pos h1]
  show (if x = 0 then sw_ex sp sn ℓ sn (sw_ce sp (sn - i) i + 1) st else sw_ex sp sn ℓ sn (i + 1) st) = _
  rw [ty_fuel sn (sn + 1) (i + 1) st (by omega) (by omega), ty_fuel sn (sn + 1) (sw_ce sp (sn - i) i + 1) st (by omega) (by omega)]
theorem ty_Rb (h : i < sn) (h1 : sp i = 20033) {x : Int32} : ty_R sp sn ℓ i (x :: st) = ty_R sp sn ℓ (i + 1) ((nI 1 - x) :: st) := by
  unfold ty_R
  rw [sw_ex, if_neg (by omega), if_neg (by omega), if_neg (by omega), if_neg (by omega), if_neg (by omega), if_pos h1]
  exact ty_fuel _ _ _ _ (by omega) (by omega)
theorem ty_Rj (h : i < sn) {s : Nat} (hs : sw_sg s) (h1 : sp i = 20000 + s) {x y : Int32} : ty_R sp sn ℓ i (y :: x :: st) = ty_R sp sn ℓ (i + 1) (sw_jn s x y :: st) := by
  unfold ty_R
  have : s ≠ 59 ∧ s ≠ 63 ∧ s ≠ 33 := by unfold sw_sg at hs; omega
  rw [sw_ex, if_neg (by omega), if_neg (by omega), if_neg (by omega), if_neg (by omega), if_neg (by omega), if_neg (by omega), show sp i - 20000 = s by omega]
  exact ty_fuel _ _ _ _ (by omega) (by omega)
theorem ty_gd1 {l1 l2 : List Nat} {j : Nat} (h : j < l1.length) : (l1 ++ l2).getD j 0 = l1.getD j 0 := by
  rw [List.getD_eq_getElem?_getD, List.getD_eq_getElem?_getD, List.getElem?_append_left h]
theorem ty_gd2 {l1 l2 : List Nat} {j : Nat} (h : l1.length ≤ j) : (l1 ++ l2).getD j 0 = l2.getD (j - l1.length) 0 := by
  rw [List.getD_eq_getElem?_getD, List.getD_eq_getElem?_getD, List.getElem?_append_right h]
/-- the row l stands at i -/
def ty_at (sp : Nat → Nat) (i : Nat) (l : List Nat) : Prop := ∀ j, j < l.length → sp (i + j) = l.getD j 0
theorem ty_at_app {l1 l2 : List Nat} : ty_at sp i (l1 ++ l2) ↔ ty_at sp i l1 ∧ ty_at sp (i + l1.length) l2 := by
  unfold ty_at
  constructor
  · intro h
    refine ⟨fun j hj => ?_, fun j hj => ?_⟩
    · rw [h j (by rw [List.length_append]; omega), ty_gd1 hj]
    · have := h (l1.length + j) (by rw [List.length_append]; omega)
      rw [ty_gd2 (by omega), show l1.length + j - l1.length = j by omega, ← Nat.add_assoc] at this
      exact this
  · intro ⟨h1, h2⟩ j hj
    rw [List.length_append] at hj
    by_cases q : j < l1.length
    · rw [ty_gd1 q]; exact h1 j q
    · rw [ty_gd2 (by omega)]
      have := h2 (j - l1.length) (by omega)
      rw [show i + l1.length + (j - l1.length) = i + j by omega] at this
      exact this
theorem ty_at_1 {w : Nat} : ty_at sp i [w] ↔ sp i = w := by
  unfold ty_at
  constructor
  · intro h; exact h 0 Nat.one_pos
  · intro h j hj
    have : j = 0 := by simpa using hj
    subst this
    exact h
/-- the steps l make st' of st -/
def ty_E (ℓ : Nat → Int32) (l : List Nat) (st st' : List Int32) : Prop := ∀ sp sn i, ty_at sp i l → i + l.length ≤ sn → ty_R sp sn ℓ i st = ty_R sp sn ℓ (i + l.length) st'
theorem ty_E0 : ty_E ℓ [] st st := fun _ _ _ _ _ => rfl
theorem ty_E.app {l1 l2 : List Nat} {st1 st2 : List Int32} (h1 : ty_E ℓ l1 st st1) (h2 : ty_E ℓ l2 st1 st2) : ty_E ℓ (l1 ++ l2) st st2 := by
  intro sp sn i ha hi
  rw [List.length_append] at hi
  obtain ⟨a1, a2⟩ := ty_at_app.mp ha
  rw [h1 sp sn i a1 (by omega), h2 sp sn _ a2 (by omega), List.length_append, Nat.add_assoc]
theorem ty_En {w : Nat} (hw : w < 10000) : ty_E ℓ [w] st (nI w :: st) := by
  intro sp sn i ha hi
  have e := ty_at_1.mp ha
  have hi : i + 1 ≤ sn := hi
  rw [ty_Rn (by omega) (by omega), e]
  rfl
theorem ty_El {k : Nat} (hk : k < 6) : ty_E ℓ [10000 + k] st (ℓ k :: st) := by
  intro sp sn i ha hi
  have e := ty_at_1.mp ha
  have hi : i + 1 ≤ sn := hi
  rw [ty_Rl (by omega) hk e]
  rfl
theorem ty_Eb {x : Int32} : ty_E ℓ [20033] (x :: st) ((nI 1 - x) :: st) := by
  intro sp sn i ha hi
  have e := ty_at_1.mp ha
  have hi : i + 1 ≤ sn := hi
  rw [ty_Rb (by omega) e]
  rfl
theorem ty_Ej {s : Nat} (hs : sw_sg s) {x y : Int32} : ty_E ℓ [20000 + s] (y :: x :: st) (sw_jn s x y :: st) := by
  intro sp sn i ha hi
  have e := ty_at_1.mp ha
  have hi : i + 1 ≤ sn := hi
  rw [ty_Rj (by omega) hs e]
  rfl
end SDBG
/-! numbers: the reference counts in longs -/
def ty_bd (x : Int32) : Prop := -1000000 ≤ x.toInt ∧ x.toInt ≤ 1000000
/-- the reference's within -/
def ty_w (x : Int64) : Int32 := (if (if x < lN 1000000 then x else lN 1000000) < -1000000 then -1000000 else (if x < lN 1000000 then x else lN 1000000)).toInt32
theorem ty_bmod64 {x : Int} (h1 : -4000000000000 ≤ x) (h2 : x ≤ 4000000000000) : x.bmod (2 ^ 64) = x := Int.bmod_eq_of_le (by omega) (by omega)
theorem ty_bmod32 {x : Int} (h1 : -2100000000 ≤ x) (h2 : x ≤ 2100000000) : x.bmod (2 ^ 32) = x := Int.bmod_eq_of_le (by omega) (by omega)
theorem ty_lN : (lN 1000000).toInt = 1000000 := by decide
theorem ty_lm : (-1000000 : Int64).toInt = -1000000 := by decide
theorem ty_im : (-1000000 : Int32).toInt = -1000000 := by decide
theorem ty_ip : (nI 1000000).toInt = 1000000 := by decide
theorem ty_i0 : (nI 0).toInt = 0 := by decide
theorem ty_l64 (x : Int32) : x.toInt64.toInt = x.toInt := Int32.toInt_toInt64 x
/-- the reference's within by integers -/
theorem ty_w_i {x : Int64} (h1 : -4000000000000 ≤ x.toInt) (h2 : x.toInt ≤ 4000000000000) : (ty_w x).toInt = (if x.toInt ≤ 1000000 then (if -1000000 ≤ x.toInt then x.toInt else -1000000) else 1000000) := by
  unfold ty_w
  by_cases q : x < lN 1000000
  · have q' := Int64.lt_iff_toInt_lt.mp q
    rw [ty_lN] at q'
    rw [if_pos q]
    by_cases r : x < -1000000
    · have r' := Int64.lt_iff_toInt_lt.mp r
      rw [ty_lm] at r'
      rw [if_pos r, if_pos (by omega), if_neg (by omega)]
      decide
    · have r' : ¬ x.toInt < -1000000 := fun z => r (Int64.lt_iff_toInt_lt.mpr (by rw [ty_lm]; exact z))
      rw [if_neg r, Int64.toInt_toInt32, ty_bmod32 (by omega) (by omega), if_pos (by omega), if_pos (by omega)]
  · have q' : ¬ x.toInt < 1000000 := fun z => q (Int64.lt_iff_toInt_lt.mpr (by rw [ty_lN]; exact z))
    rw [if_neg q, if_neg (by decide)]
    by_cases r : x.toInt = 1000000
    · rw [r]; decide
    · rw [if_neg (by omega)]; decide
theorem sw_wi_i {x : Int32} : (sw_wi (nI 1000000) x).toInt = (if x.toInt ≤ 1000000 then (if -1000000 ≤ x.toInt then x.toInt else -1000000) else 1000000) := by
  have em : (-(nI 1000000)) = (-1000000 : Int32) := by decide
  unfold sw_wi
  rw [em]
  by_cases q : x ≤ nI 1000000
  · have q' := Int32.le_iff_toInt_le.mp q
    rw [ty_ip] at q'
    rw [if_pos q, if_pos q']
    by_cases r : -1000000 ≤ x
    · have r' := Int32.le_iff_toInt_le.mp r
      rw [ty_im] at r'
      rw [if_pos r, if_pos r']
    · have r' : ¬ -1000000 ≤ x.toInt := fun z => r (Int32.le_iff_toInt_le.mpr (by rw [ty_im]; exact z))
      rw [if_neg r, if_neg r']
      decide
  · have q' : ¬ x.toInt ≤ 1000000 := fun z => q (Int32.le_iff_toInt_le.mpr (by rw [ty_ip]; exact z))
    rw [if_neg q, if_neg q']
    decide
theorem ty_cmp_le {x y : Int64} : lg_cmp x y ≤ 0 ↔ x.toInt ≤ y.toInt := by
  unfold lg_cmp
  have e1 : y < x ↔ y.toInt < x.toInt := Int64.lt_iff_toInt_lt
  by_cases h1 : x > y
  · rw [if_pos h1]
    exact ⟨fun z => absurd z (by decide), fun z => by have := e1.mp h1; omega⟩
  · rw [if_neg h1]
    have h3 : ¬ y.toInt < x.toInt := fun z => h1 (e1.mpr z)
    by_cases h2 : x = y
    · rw [if_pos h2]
      exact ⟨fun _ => by omega, fun _ => by decide⟩
    · rw [if_neg h2]
      exact ⟨fun _ => by omega, fun _ => by decide⟩
theorem ty_cmp_ge {x y : Int64} : 0 ≤ lg_cmp x y ↔ y.toInt ≤ x.toInt := by
  unfold lg_cmp
  have e1 : y < x ↔ y.toInt < x.toInt := Int64.lt_iff_toInt_lt
  have e2 : x.toInt = y.toInt ↔ x = y := Int64.toInt_inj
  by_cases h1 : x > y
  · rw [if_pos h1]
    exact ⟨fun _ => by have := e1.mp h1; omega, fun _ => by decide⟩
  · rw [if_neg h1]
    have h3 : ¬ y.toInt < x.toInt := fun z => h1 (e1.mpr z)
    by_cases h2 : x = y
    · rw [if_pos h2]
      exact ⟨fun _ => by rw [h2]; exact Int.le_refl _, fun _ => by decide⟩
    · rw [if_neg h2]
      exact ⟨fun z => absurd z (by decide), fun z => absurd (e2.mp (by omega)) h2⟩
theorem ty_cmp_0 {x y : Int64} : lg_cmp x y = 0 ↔ x = y := by
  unfold lg_cmp
  by_cases h1 : x > y
  · rw [if_pos h1]
    exact ⟨fun z => absurd z (by decide), fun z => by rw [z] at h1; exact absurd (Int64.lt_iff_toInt_lt.mp h1) (by omega)⟩
  · rw [if_neg h1]
    by_cases h2 : x = y
    · rw [if_pos h2]
      exact ⟨fun _ => h2, fun _ => rfl⟩
    · rw [if_neg h2]
      exact ⟨fun z => absurd z (by decide), fun z => absurd z h2⟩
theorem ty_l0 {x : Int32} : x.toInt64 = lN 0 ↔ x = 0 := by
  constructor
  · intro h
    have : x.toInt64.toInt = (lN 0).toInt := by rw [h]
    rw [ty_l64] at this
    exact Int32.toInt_inj.mp this
  · intro h
    rw [h]
    decide
section SDBG2
variable {x y : Int32}
theorem ty_add (hx : ty_bd x) (hy : ty_bd y) : ty_w (x.toInt64 + y.toInt64) = sw_jn 43 x y := by
  obtain ⟨x1, x2⟩ := hx
  obtain ⟨y1, y2⟩ := hy
  have e : (x.toInt64 + y.toInt64).toInt = x.toInt + y.toInt := by
    rw [Int64.toInt_add, ty_l64, ty_l64, ty_bmod64 (by omega) (by omega)]
  have e2 : (x + y).toInt = x.toInt + y.toInt := by
    rw [Int32.toInt_add, ty_bmod32 (by omega) (by omega)]
  show _ = sw_wi (nI 1000000) (x + y)
  rw [← Int32.toInt_inj, ty_w_i (by omega) (by omega), sw_wi_i, e, e2]
theorem ty_sub (hx : ty_bd x) (hy : ty_bd y) : ty_w (x.toInt64 - y.toInt64) = sw_jn 45 x y := by
  obtain ⟨x1, x2⟩ := hx
  obtain ⟨y1, y2⟩ := hy
  have e : (x.toInt64 - y.toInt64).toInt = x.toInt - y.toInt := by
    rw [Int64.toInt_sub, ty_l64, ty_l64, ty_bmod64 (by omega) (by omega)]
  have e2 : (x - y).toInt = x.toInt - y.toInt := by
    rw [Int32.toInt_sub, ty_bmod32 (by omega) (by omega)]
  show _ = sw_wi (nI 1000000) (x - y)
  rw [← Int32.toInt_inj, ty_w_i (by omega) (by omega), sw_wi_i, e, e2]
theorem ty_prod {p q : Int} (p1 : -1000000 ≤ p) (p2 : p ≤ 1000000) (q1 : -1000000 ≤ q) (q2 : q ≤ 1000000) : -4000000000000 ≤ p * q ∧ p * q ≤ 4000000000000 := by
  have h1 : 0 ≤ (1000000 - p) * (1000000 - q) := Int.mul_nonneg (by omega) (by omega)
  have h2 : 0 ≤ (1000000 + p) * (1000000 + q) := Int.mul_nonneg (by omega) (by omega)
  have h3 : 0 ≤ (1000000 - p) * (1000000 + q) := Int.mul_nonneg (by omega) (by omega)
  have h4 : 0 ≤ (1000000 + p) * (1000000 - q) := Int.mul_nonneg (by omega) (by omega)
  rw [Int.sub_mul, Int.mul_sub, Int.mul_sub] at h1
  rw [Int.add_mul, Int.mul_add, Int.mul_add] at h2
  rw [Int.sub_mul, Int.mul_add, Int.mul_add] at h3
  rw [Int.add_mul, Int.mul_sub, Int.mul_sub] at h4
  omega
theorem ty_mul (hx : ty_bd x) (hy : ty_bd y) : ty_w (x.toInt64 * y.toInt64) = sw_jn 42 x y := by
  obtain ⟨x1, x2⟩ := hx
  obtain ⟨y1, y2⟩ := hy
  have hp := ty_prod x1 x2 y1 y2
  have e : (x.toInt64 * y.toInt64).toInt = x.toInt * y.toInt := by
    rw [Int64.toInt_mul, ty_l64, ty_l64, ty_bmod64 hp.1 hp.2]
  show _ = sw_ti x y
  rw [← Int32.toInt_inj, ty_w_i (by omega) (by omega)]
  unfold sw_ti
  by_cases q : (x.toInt64 * y.toInt64).toInt ≤ 1000000
  · rw [if_pos q, if_pos (ty_cmp_le.mpr (by rw [ty_lN]; exact q))]
    by_cases r : -1000000 ≤ (x.toInt64 * y.toInt64).toInt
    · rw [if_pos r, if_pos (ty_cmp_ge.mpr (by rw [ty_lm]; exact r)), Int64.toInt_toInt32, ty_bmod32 (by omega) (by omega)]
    · rw [if_neg r, if_neg (fun z => r (by have := ty_cmp_ge.mp z; rw [ty_lm] at this; exact this))]
      decide
  · rw [if_neg q, if_neg (fun z => q (by have := ty_cmp_le.mp z; rw [ty_lN] at this; exact this))]
    decide
theorem ty_dv {p q : Int} (p1 : -1000000 ≤ p) (p2 : p ≤ 1000000) : -1000000 ≤ p.tdiv q ∧ p.tdiv q ≤ 1000000 := by
  have h := Int.natAbs_tdiv_le_natAbs p q
  omega
theorem ty_div (hx : ty_bd x) (hy : ¬ y = 0) : ty_w (x.toInt64 / y.toInt64) = sw_jn 47 x y := by
  obtain ⟨x1, x2⟩ := hx
  have hd := ty_dv (q := y.toInt) x1 x2
  have e : (x.toInt64 / y.toInt64).toInt = x.toInt.tdiv y.toInt := by
    rw [Int64.toInt_div, ty_l64, ty_l64, ty_bmod64 (by omega) (by omega)]
  have e2 : (x / y).toInt = x.toInt.tdiv y.toInt := by
    rw [Int32.toInt_div, ty_bmod32 (by omega) (by omega)]
  show _ = (if y = 0 then nI 0 else x / y)
  rw [if_neg hy, ← Int32.toInt_inj, ty_w_i (by omega) (by omega), e, e2, if_pos (by omega), if_pos (by omega)]
theorem ty_w0 : ty_w (lN 0) = nI 0 := by decide
theorem ty_bd_jn {s : Nat} (hs : s = 43 ∨ s = 45 ∨ s = 42 ∨ s = 47) (hx : ty_bd x) (hy : ty_bd y) : ty_bd (sw_jn s x y) := by
  have key : ∀ {z : Int64}, -4000000000000 ≤ z.toInt → z.toInt ≤ 4000000000000 → ty_bd (ty_w z) := by
    intro z z1 z2
    unfold ty_bd
    rw [ty_w_i z1 z2]
    split
    · split <;> omega
    · omega
  have hx' := hx
  have hy' := hy
  obtain ⟨x1, x2⟩ := hx'
  obtain ⟨y1, y2⟩ := hy'
  rcases hs with rfl | rfl | rfl | rfl
  · rw [← ty_add hx hy]
    refine key ?_ ?_ <;> rw [Int64.toInt_add, ty_l64, ty_l64, ty_bmod64 (by omega) (by omega)] <;> omega
  · rw [← ty_sub hx hy]
    refine key ?_ ?_ <;> rw [Int64.toInt_sub, ty_l64, ty_l64, ty_bmod64 (by omega) (by omega)] <;> omega
  · have hp := ty_prod x1 x2 y1 y2
    rw [← ty_mul hx hy]
    refine key ?_ ?_ <;> rw [Int64.toInt_mul, ty_l64, ty_l64, ty_bmod64 hp.1 hp.2] <;> omega
  · by_cases q : y = 0
    · show ty_bd (if y = 0 then nI 0 else x / y)
      rw [if_pos q]
      unfold ty_bd
      rw [ty_i0]
      omega
    · have hd := ty_dv (q := y.toInt) x1 x2
      rw [← ty_div hx q]
      refine key ?_ ?_ <;> rw [Int64.toInt_div, ty_l64, ty_l64, ty_bmod64 (by omega) (by omega)] <;> omega
theorem ty_bd_n {m : Nat} (h : m ≤ 1000000) : ty_bd (nI m) := by
  have e : (nI m).toInt = m := nI_toInt (by omega)
  unfold ty_bd
  rw [e]
  omega
end SDBG2
