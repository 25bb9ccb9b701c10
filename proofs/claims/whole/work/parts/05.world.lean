/-! THE PURE MACHINE IS SOUND: the words, the world, one instruction -/
def sd_tbl : List Cond := lw_tbl.filter goodWord
def sd_isNest : Cond → Bool
  | .methodLinkNest .. => true
  | _ => false
def sd_nest : List Cond := lw_tbl.filter sd_isNest
theorem sd_inT {w : Cond} {i : Nat} (h : lw_tbl[i]? = some w) (hg : goodWord w = true) : w ∈ sd_tbl := List.mem_filter.mpr ⟨List.mem_of_getElem? h, hg⟩
theorem sd_inN {w : Cond} {i : Nat} (h : lw_tbl[i]? = some w) (hg : sd_isNest w = true) : w ∈ sd_nest := List.mem_filter.mpr ⟨List.mem_of_getElem? h, hg⟩
def sd_cv (ad : Nat → Nat) : Value → Value
  | .ref k => .ref (ad k)
  | v => v
theorem sd_cv_cat (ad : Nat → Nat) (v : Value) : (sd_cv ad v).category = v.category := by cases v <;> rfl
theorem sd_cv_rf (ad : Nat → Nat) (r : Option Nat) : sd_cv ad (va_rf r) = va_rf (r.map ad) := by cases r <;> rfl
theorem sd_cv_sum (ad : Nat → Nat) (l : List Value) : ((l.map (sd_cv ad)).map fun v => v.category).sum = sd_cat l := by
  unfold sd_cat
  rw [List.map_map]
  congr 1
  apply List.map_congr_left
  intro v _
  exact sd_cv_cat ad v
def sd_lv (ad : Nat → Nat) : Nat → List Value → List (Nat × Value)
  | _, [] => []
  | i, v :: vs => if sd_ok v = true then (i, sd_cv ad v) :: sd_lv ad (i + 1) vs else sd_lv ad (i + 1) vs
theorem sd_lv_tl {ad : Nat → Nat} {q : Nat × Value} {j : Nat} {x : Value} {l : List Value} (h : q ∈ sd_lv ad (j + 1) l) : q ∈ sd_lv ad j (x :: l) := by
  unfold sd_lv
  split
  · exact List.mem_cons_of_mem _ h
  · exact h
theorem sd_lv_ge {ad : Nat → Nat} {q : Nat × Value} : ∀ {l : List Value} {j : Nat}, q ∈ sd_lv ad j l → j ≤ q.1
  | [], _, h => by cases h
  | v :: l, j, h => by
    unfold sd_lv at h
    split at h
    · rcases List.mem_cons.mp h with rfl | h
      · exact Nat.le_refl _
      · exact Nat.le_of_succ_le (sd_lv_ge h)
    · exact Nat.le_of_succ_le (sd_lv_ge h)
theorem sd_lv_get {ad : Nat → Nat} {v : Value} (hv : sd_ok v = true) : ∀ {l : List Value} {i j : Nat}, l.getD i sd_un = v → (j + i, sd_cv ad v) ∈ sd_lv ad j l
  | [], i, j, h => by
    have : sd_un = v := by simpa using h
    rw [← this] at hv
    cases hv
  | x :: l, 0, j, h => by
    have : x = v := by simpa using h
    subst this
    unfold sd_lv
    rw [if_pos hv]
    exact List.mem_cons_self
  | x :: l, i + 1, j, h => by
    have h2 : l.getD i sd_un = v := by simpa using h
    have h3 := sd_lv_get (ad := ad) hv (j := j + 1) h2
    rw [show j + 1 + i = j + (i + 1) by omega] at h3
    exact sd_lv_tl h3
theorem sd_lv_clr {ad : Nat → Nat} {q : Nat × Value} {j : Nat} : ∀ {l : List Value}, q ∈ sd_lv ad j (sd_clr l) → q ∈ sd_lv ad j l ∧ q.1 ≠ j
  | [], h => by cases h
  | x :: l, h => by
    unfold sd_clr sd_lv at h
    rw [if_neg (by decide)] at h
    exact ⟨sd_lv_tl h, by have := sd_lv_ge h; omega⟩
theorem sd_lv_put {ad : Nat → Nat} {v : Value} {q : Nat × Value} (hv : sd_ok v = true) : ∀ {l : List Value} {i j : Nat}, q ∈ sd_lv ad j (sd_put l i v) →
    q = (j + i, sd_cv ad v) ∨ (q ∈ sd_lv ad j l ∧ q.1 ≠ j + i ∧ ¬ (q.1 + 1 = j + i ∧ q.2.category = 2) ∧ (v.category = 2 → q.1 ≠ j + i + 1))
  | [], i, j, h => by cases h
  | x :: l, 0, j, h => by
    unfold sd_put sd_lv at h
    rw [if_pos hv] at h
    rcases List.mem_cons.mp h with h | h
    · exact Or.inl h
    · refine Or.inr ?_
      by_cases hc : v.category = 2
      · rw [if_pos hc] at h
        obtain ⟨h1, h2⟩ := sd_lv_clr h
        have := sd_lv_ge h1
        exact ⟨sd_lv_tl h1, by omega, by omega, fun _ => by omega⟩
      · rw [if_neg hc] at h
        have := sd_lv_ge h
        exact ⟨sd_lv_tl h, by omega, by omega, fun z => absurd z hc⟩
  | x :: l, i + 1, j, h => by
    unfold sd_put at h
    have key : q ∈ sd_lv ad (j + 1) (sd_put l i v) → q = (j + (i + 1), sd_cv ad v) ∨ (q ∈ sd_lv ad j (x :: l) ∧ q.1 ≠ j + (i + 1) ∧ ¬ (q.1 + 1 = j + (i + 1) ∧ q.2.category = 2) ∧ (v.category = 2 → q.1 ≠ j + (i + 1) + 1)) := by
      intro h
      rcases sd_lv_put hv h with h | ⟨h1, h2, h3, h4⟩
      · exact Or.inl (by rw [h, show j + 1 + i = j + (i + 1) by omega])
      · refine Or.inr ⟨sd_lv_tl h1, by omega, ?_, fun z => by have := h4 z; omega⟩
        rw [show j + (i + 1) = j + 1 + i by omega]
        exact h3
    by_cases hc : i = 0 ∧ x.category = 2
    · rw [if_pos hc] at h
      unfold sd_lv at h
      rw [if_neg (by decide)] at h
      exact key h
    · rw [if_neg hc] at h
      by_cases hx : sd_ok x = true
      · unfold sd_lv at h
        rw [if_pos hx] at h
        rcases List.mem_cons.mp h with h | h
        · subst h
          refine Or.inr ⟨by unfold sd_lv; rw [if_pos hx]; exact List.mem_cons_self, by show j ≠ _; omega, ?_, fun _ => by show j ≠ _; omega⟩
          rintro ⟨e1, e2⟩
          rw [sd_cv_cat] at e2
          exact hc ⟨by have e1 : j + 1 = j + (i + 1) := e1; omega, e2⟩
        · exact key h
      · unfold sd_lv at h
        rw [if_neg hx] at h
        exact key h
theorem sd_put_len : ∀ {l : List Value} {i : Nat} {v : Value}, (sd_put l i v).length = l.length
  | [], _, _ => rfl
  | x :: l, 0, v => by
    unfold sd_put
    split
    · cases l <;> rfl
    · rfl
  | x :: l, i + 1, v => by
    unfold sd_put
    rw [List.length_cons, List.length_cons, sd_put_len]
def sd_has (ad : Nat → Nat) (sl : Array Slot) (nL : Nat) (ls : List Value) : Prop := lv_has sl nL (sd_lv ad 0 ls) ∧ ls.length = nL
theorem sd_has_get {ad : Nat → Nat} {sl : Array Slot} {nL : Nat} {ls : List Value} (h : sd_has ad sl nL ls) {i : Nat} {v : Value} (hg : sd_get ls i = v) (hv : sd_ok v = true) : sl[i]? = some (.val (sd_cv ad v)) := by
  have h1 := h.1.2.2 _ (sd_lv_get (ad := ad) hv (j := 0) hg)
  rwa [Nat.zero_add] at h1
theorem sd_has_put1 {ad : Nat → Nat} {sl : Array Slot} {nL : Nat} {ls : List Value} {i : Nat} {v : Value} (hl : ls.length = nL) (hv : sd_ok v = true) (h : lv_has sl nL ((i, sd_cv ad v) :: (sd_lv ad 0 ls).filter (fun q => !(q.1 == i) && !(q.1 + 1 == i && q.2.category == 2)))) : sd_has ad sl nL (sd_put ls i v) := by
  refine ⟨⟨h.1, h.2.1, fun q hq => h.2.2 q ?_⟩, by rw [sd_put_len]; exact hl⟩
  rcases sd_lv_put hv hq with e | ⟨h1, h2, h3, -⟩
  · rw [Nat.zero_add] at e
    rw [e]
    exact List.mem_cons_self
  · rw [Nat.zero_add] at h2 h3
    refine List.mem_cons_of_mem _ (List.mem_filter.mpr ⟨h1, ?_⟩)
    simp only [Bool.and_eq_true, Bool.not_eq_true', beq_eq_false_iff_ne, ne_eq, Bool.and_eq_false_iff]
    exact ⟨h2, by
      by_cases z : q.1 + 1 = i
      · exact Or.inr (fun w => h3 ⟨z, w⟩)
      · exact Or.inl z⟩
theorem sd_has_put2 {ad : Nat → Nat} {sl : Array Slot} {nL : Nat} {ls : List Value} {i : Nat} {v : Value} (hl : ls.length = nL) (hv : sd_ok v = true) (hc : v.category = 2) (h : lv_has sl nL ((i, sd_cv ad v) :: (sd_lv ad 0 ls).filter (fun q => !(q.1 == i) && (!(q.1 == i + 1) && !(q.1 + 1 == i && q.2.category == 2))))) : sd_has ad sl nL (sd_put ls i v) := by
  refine ⟨⟨h.1, h.2.1, fun q hq => h.2.2 q ?_⟩, by rw [sd_put_len]; exact hl⟩
  rcases sd_lv_put hv hq with e | ⟨h1, h2, h3, h4⟩
  · rw [Nat.zero_add] at e
    rw [e]
    exact List.mem_cons_self
  · have h4 := h4 hc
    rw [Nat.zero_add] at h2 h3 h4
    refine List.mem_cons_of_mem _ (List.mem_filter.mpr ⟨h1, ?_⟩)
    simp only [Bool.and_eq_true, Bool.not_eq_true', beq_eq_false_iff_ne, ne_eq, Bool.and_eq_false_iff]
    exact ⟨h2, h4, by
      by_cases z : q.1 + 1 = i
      · exact Or.inr (fun w => h3 ⟨z, w⟩)
      · exact Or.inl z⟩
/-! the world -/
def sd_tys (cA : Nat → ClassId) : List (ClassId × FieldType) := [(cA 0, .int), (cA 1, .byte), (cA 2, .long), (cA 3, .object "SwornDays$State"), (cA 4, .array .int)]
def sd_cell (E : sd_E) (ad : Nat → Nat) (cA : Nat → ClassId) (σ : sd_Mem) (k : Nat) : va_E := match sd_sh k with
  | .inl ci => .inr (ci, (List.range (sd_C ci).2.2).map (fun i => sd_cv ad (sd_val E σ k ci i)))
  | .inr (0, n) => .inl (cA 0, n, .inl (σ.1 k))
  | .inr (1, n) => .inl (cA 1, n, .inl (σ.1 k))
  | .inr (2, n) => .inl (cA 2, n, .inr (.inl (σ.2.1 k)))
  | .inr (t, n) => .inl (cA t, n, .inr (.inr (.inr (.inr (fun i => (sd_gR E σ k i).map ad)))))
def sd_wld (E : sd_E) (ad : Nat → Nat) (cA : Nat → ClassId) (σ : sd_Mem) : va_W := (List.range sd_n).map (fun k => (ad k, sd_cell E ad cA σ k))
theorem sd_wld_get {E : sd_E} {ad : Nat → Nat} {cA : Nat → ClassId} {σ : sd_Mem} {k : Nat} (h : k < sd_n) : (sd_wld E ad cA σ)[k]? = some (ad k, sd_cell E ad cA σ k) := by
  unfold sd_wld
  rw [List.getElem?_map, List.getElem?_range h]
  rfl
theorem sd_sh_len : sd_shL.length = sd_n := by decide +kernel
theorem sd_sh_lt {k : Nat} {z : sd_S} (h : sd_sh k = z) (hz : z ≠ .inr (9, 0)) : k < sd_n := by
  rcases Nat.lt_or_ge k sd_n with q | q
  · exact q
  · exfalso
    apply hz
    rw [← h]
    unfold sd_sh
    rw [List.getD_eq_getElem?_getD, List.getElem?_eq_none (by rw [sd_sh_len]; exact q)]
    rfl
theorem sd_wld_set {E : sd_E} {ad : Nat → Nat} {cA : Nat → ClassId} {σ σ' : sd_Mem} {k : Nat} {e : va_E} (hj : ∀ j, j ≠ k → sd_cell E ad cA σ' j = sd_cell E ad cA σ j) (he : sd_cell E ad cA σ' k = e) : (sd_wld E ad cA σ).set k (ad k, e) = sd_wld E ad cA σ' := by
  apply List.ext_getElem?
  intro j
  unfold sd_wld
  by_cases hl : j < sd_n
  · by_cases hjk : j = k
    · subst hjk
      rw [List.getElem?_set_self (by simpa using hl), List.getElem?_map, List.getElem?_range hl, ← he]
      rfl
    · rw [List.getElem?_set_ne (Ne.symm hjk), List.getElem?_map, List.getElem?_map, List.getElem?_range hl]
      show some (ad j, sd_cell E ad cA σ j) = some (ad j, sd_cell E ad cA σ' j)
      rw [hj j hjk]
  · rw [List.getElem?_eq_none (by simp; omega), List.getElem?_eq_none (by simp; omega)]
theorem sd_cell_congr {E : sd_E} {ad : Nat → Nat} {cA : Nat → ClassId} {σ σ' : sd_Mem} {k : Nat} (h1 : σ'.1 k = σ.1 k) (h2 : σ'.2.1 k = σ.2.1 k) (h3 : σ'.2.2 k = σ.2.2 k) : sd_cell E ad cA σ' k = sd_cell E ad cA σ k := by
  have hv : ∀ ci i, sd_val E σ' k ci i = sd_val E σ k ci i := by
    intro ci i
    unfold sd_val sd_gR
    rw [h1, h2, h3]
  have hg : ∀ i, sd_gR E σ' k i = sd_gR E σ k i := by
    intro i
    unfold sd_gR
    rw [h3]
  unfold sd_cell
  simp only [hv, hg, h1, h2]
def sd_Ad (ad : Nat → Nat) (B0 : Nat) : Prop := (∀ i j : Nat, i < sd_n → j < sd_n → ad i = ad j → i = j) ∧ ∀ i : Nat, i < sd_n → B0 ≤ ad i
theorem sd_D {E : sd_E} {ad : Nat → Nat} {B0 : Nat} {cA : Nat → ClassId} {σ : sd_Mem} (h : sd_Ad ad B0) : va_D (fun q => B0 ≤ q) (sd_wld E ad cA σ) := by
  have key : ∀ (k : Nat) (q : Nat × va_E), (sd_wld E ad cA σ)[k]? = some q → k < sd_n ∧ q.1 = ad k := by
    intro k q hq
    have hl : k < sd_n := by
      have := (List.getElem?_eq_some_iff.mp hq).1
      simpa [sd_wld] using this
    rw [sd_wld_get hl] at hq
    cases hq
    exact ⟨hl, rfl⟩
  refine ⟨fun i j x y hi hj e => ?_, fun k q hq => ?_⟩
  · obtain ⟨a1, a2⟩ := key i x hi
    obtain ⟨b1, b2⟩ := key j y hj
    exact h.1 i j a1 b1 (by rw [← a2, ← b2]; exact e)
  · obtain ⟨a1, a2⟩ := key k q hq
    show B0 ≤ q.1
    rw [a2]
    exact h.2 k a1
/-- what lies outside and stays: arrays of ints, the statics, the texts of the String constants -/
def sd_X (E : sd_E) (ad : Nat → Nat) (B0 : Nat) (U : State) (H : Heap) : Prop := (∀ (k n : Nat) (f : Nat → Int32), E.2 k = some (n, f) → va_T .int (ad k) n (fun j => .int (f j)) (fun q => B0 ≤ q) U H) ∧
  (∀ t : Nat, t < 4 → va_Z (sd_gsN t).1 (sd_gsN t).2.1 (sd_gsN t).2.2 (.ref (ad (401 + t))) (fun q => B0 ≤ q) U H) ∧ va_Z (sd_gsN 4).1 (sd_gsN 4).2.1 (sd_gsN 4).2.2 (.int 1) (fun q => B0 ≤ q) U H ∧ va_Z (sd_gsN 5).1 (sd_gsN 5).2.1 (sd_gsN 5).2.2 (va_rf ((E.1 450 0).map ad)) (fun q => B0 ≤ q) U H ∧
  vk_S 9 sd_slen sd_sbyt (fun i => ad (410 + i)) (fun i => ad (430 + i)) (fun q => B0 ≤ q) U H
/-- words that want an eye of their own: nest mates' links, String constants -/
def sd_Nw (ad : Nat → Nat) (U : State) : Prop := (∀ w ∈ sd_nest, va_Nw w U) ∧ ∀ r ∈ sd_scL, vk_R (sd_R (r.1 / 65536)) (r.1 % 65536) (sd_txt r.2.1) (ad (410 + r.2.1)) U
def sd_Ctx (p : Program) (s : State) (m : MethodId) (args : Array Value) (c : Code) (E : sd_E) (ad : Nat → Nat) (B0 : Nat) (D : va_G) (cA : Nat → ClassId) (y : Nat) : Prop :=
  p.tables.exec = Jvm.exec ∧ c.code = (sd_m y).2.1 ∧ c.maxLocals = (sd_m y).2.2.1 ∧ s.vm.findClass (sd_R (sd_m y).2.2.2.2.1) = some m.cls ∧ (∀ w ∈ sd_tbl, w.before args s = true) ∧ va_K D sd_cl (sd_tys cA) s ∧ sd_X E ad B0 s s.heap ∧ sd_Nw ad s ∧ sd_Ad ad B0
/-! taking the machine's words apart -/
theorem sd_L_ok {len n : Nat} {r : sd_O} {z : sd_St ⊕ (Nat × List Value × List Value) ⊕ Option Value} (h : sd_L len n r = some z) : len = n ∧ r = some z := by
  unfold sd_L at h
  split at h
  · exact ⟨by assumption, h⟩
  · cases h
theorem sd_1_ok {st : List Value} {f : Int32 → List Value → sd_O} {z : sd_St ⊕ (Nat × List Value × List Value) ⊕ Option Value} (h : sd_1 st f = some z) : ∃ x r, st = .int x :: r ∧ f x r = some z := by
  unfold sd_1 at h
  split at h
  · exact ⟨_, _, rfl, h⟩
  · cases h
theorem sd_2_ok {st : List Value} {f : Int32 → Int32 → List Value → sd_O} {z : sd_St ⊕ (Nat × List Value × List Value) ⊕ Option Value} (h : sd_2 st f = some z) : ∃ x y r, st = .int y :: .int x :: r ∧ f x y r = some z := by
  unfold sd_2 at h
  split at h
  · exact ⟨_, _, _, rfl, h⟩
  · cases h
theorem sd_l1_ok {st : List Value} {f : Int64 → List Value → sd_O} {z : sd_St ⊕ (Nat × List Value × List Value) ⊕ Option Value} (h : sd_l1 st f = some z) : ∃ x r, st = .long x :: r ∧ f x r = some z := by
  unfold sd_l1 at h
  split at h
  · exact ⟨_, _, rfl, h⟩
  · cases h
theorem sd_l2_ok {st : List Value} {f : Int64 → Int64 → List Value → sd_O} {z : sd_St ⊕ (Nat × List Value × List Value) ⊕ Option Value} (h : sd_l2 st f = some z) : ∃ x y r, st = .long y :: .long x :: r ∧ f x y r = some z := by
  unfold sd_l2 at h
  split at h
  · exact ⟨_, _, _, rfl, h⟩
  · cases h
theorem sd_li_ok {st : List Value} {f : Int64 → Int32 → List Value → sd_O} {z : sd_St ⊕ (Nat × List Value × List Value) ⊕ Option Value} (h : sd_li st f = some z) : ∃ x y r, st = .int y :: .long x :: r ∧ f x y r = some z := by
  unfold sd_li at h
  split at h
  · exact ⟨_, _, _, rfl, h⟩
  · cases h
theorem sd_r1_ok {st : List Value} {f : Nat → List Value → sd_O} {z : sd_St ⊕ (Nat × List Value × List Value) ⊕ Option Value} (h : sd_r1 st f = some z) : ∃ a r, st = .ref a :: r ∧ f a r = some z := by
  unfold sd_r1 at h
  split at h
  · exact ⟨_, _, rfl, h⟩
  · cases h
theorem sd_ix_ok {st : List Value} {f : Nat → Int32 → List Value → sd_O} {z : sd_St ⊕ (Nat × List Value × List Value) ⊕ Option Value} (h : sd_ix st f = some z) : ∃ a i r, st = .int i :: .ref a :: r ∧ f a i r = some z := by
  unfold sd_ix at h
  split at h
  · exact ⟨_, _, _, rfl, h⟩
  · cases h
theorem sd_if_ok {c : Prop} [Decidable c] {pc : Nat} {off : Int} {ls r : List Value} {σ : sd_Mem} {pc' : Nat} {ls' st' : List Value} {σ' : sd_Mem} (h : sd_if c pc off ls r σ = some (.inl (pc', ls', st', σ'))) :
    ∃ tgt : Nat, (pc : Int) + off = (tgt : Int) ∧ ls' = ls ∧ st' = r ∧ σ' = σ ∧ ((c ∧ pc' = tgt) ∨ (¬ c ∧ pc' = pc + 3)) := by
  unfold sd_if at h
  split at h
  · rename_i h0
    refine ⟨((pc : Int) + off).toNat, (Int.toNat_of_nonneg h0).symm, ?_⟩
    split at h
    · cases h
      exact ⟨rfl, rfl, rfl, Or.inl ⟨by assumption, rfl⟩⟩
    · cases h
      exact ⟨rfl, rfl, rfl, Or.inr ⟨by assumption, rfl⟩⟩
  · cases h
theorem sd_jmp_ok {pc : Nat} {off : Int} {ls r : List Value} {σ : sd_Mem} {pc' : Nat} {ls' st' : List Value} {σ' : sd_Mem} (h : sd_jmp pc off ls r σ = some (.inl (pc', ls', st', σ'))) :
    (pc : Int) + off = (pc' : Int) ∧ ls' = ls ∧ st' = r ∧ σ' = σ := by
  unfold sd_jmp at h
  split at h
  · rename_i h0
    cases h
    exact ⟨(Int.toNat_of_nonneg h0).symm, rfl, rfl, rfl⟩
  · cases h

