/-! the store behind both constructors -/
def sd_bI (k i : Nat) : Int32 := if (k = 6 ∧ i = 3) ∨ (k = 265 ∧ (i = 8 ∨ i = 13 ∨ i = 14)) ∨ (k = 271 ∧ i = 36) then -1 else 0
def sd_bR (k i : Nat) : Option Nat := if k = 0 ∧ i = 4 then some 18 else if k = 0 ∧ i = 5 then some 28 else sd_ft k i
def sd_bchk (σ : sd_Mem) (k : Nat) : Bool := match sd_sh k with
  | .inl ci => (List.range (sd_C ci).2.2).all fun i => match sd_kd ci i with
    | 1 => decide (σ.2.1 k i = 0)
    | 2 => decide (k = 271 ∧ sd_ft k i = none) || decide (σ.2.2 k i = sd_bR k i)
    | _ => decide (σ.1 k i = sd_bI k i)
  | .inr (3, n) => (List.range n).all fun i => decide (σ.2.2 k i = sd_bR k i)
  | .inr (4, n) => (List.range n).all fun i => decide (σ.2.2 k i = sd_bR k i)
  | _ => true
/-- what final references hold is listed at places that there are -/
def sd_ftchk (k : Nat) : Bool := match sd_sh k with
  | .inl ci => decide ((sd_ftL.getD k []).length ≤ (sd_C ci).2.2) && (List.range (sd_C ci).2.2).all fun i => decide (sd_ft k i = none) || decide (sd_kd ci i = 2)
  | .inr (3, n) => decide ((sd_ftL.getD k []).length ≤ n)
  | .inr (4, n) => decide ((sd_ftL.getD k []).length ≤ n)
  | _ => decide ((sd_ftL.getD k []).length ≤ 0)
def sd_bornF (A : Option (sd_Mem × Nat × Nat × Nat)) (B : sd_Mem → Option (sd_Mem × Nat × Nat × Nat)) : Bool := match A with
  | some r1 => (match B r1.1 with
    | some r => decide (r1.2.1 = 271 ∧ r1.2.2.1 ≤ 1000 ∧ r1.2.2.2 ≤ 100000 ∧ r.2.1 = 301 ∧ r.2.2.1 ≤ 1000 ∧ r.2.2.2 ≤ 100000) && (List.range 301).all (sd_bchk r.1)
    | none => false)
  | none => false
theorem sd_bornX {A : Option (sd_Mem × Nat × Nat × Nat)} {B : sd_Mem → Option (sd_Mem × Nat × Nat × Nat)} (h : sd_bornF A B = true) : ∃ (σ1 : sd_Mem) (c1 s1 : Nat) (σ2 : sd_Mem) (c2 s2 : Nat), A = some (σ1, 271, c1, s1) ∧ B σ1 = some (σ2, 301, c2, s2) ∧ (c1 ≤ 1000 ∧ s1 ≤ 100000 ∧ c2 ≤ 1000 ∧ s2 ≤ 100000) ∧ ∀ k, k < 301 → sd_bchk σ2 k = true := by
  unfold sd_bornF at h
  split at h
  · rename_i r1
    split at h
    · rename_i r2 h2
      simp only [Bool.and_eq_true, decide_eq_true_eq] at h
      obtain ⟨⟨a1, a2, a3, a4, a5, a6⟩, a7⟩ := h
      obtain ⟨σ1, n1, c1, s1⟩ := r1
      obtain ⟨σ2, n2, c2, s2⟩ := r2
      dsimp only at a1 a2 a3 a4 a5 a6 a7 h2
      subst a1
      subst a4
      exact ⟨σ1, c1, s1, σ2, c2, s2, rfl, h2, ⟨a2, a3, a5, a6⟩, fun k hk => List.all_eq_true.mp a7 k (List.mem_range.mpr hk)⟩
    · cases h
  · cases h
def sd_A1 : Option (sd_Mem × Nat × Nat × Nat) := sd_cev 20000 10 y_X_init 0 (sd_entry [.ref 0] (sd_m y_X_init).2.2.1) [] sd_z0 1 0 0
def sd_A2 (σ : sd_Mem) : Option (sd_Mem × Nat × Nat × Nat) := sd_cev 20000 10 y_M_init 0 (sd_entry [.ref 271] (sd_m y_M_init).2.2.1) [] σ 272 0 0
theorem sd_born_ok : sd_bornF sd_A1 sd_A2 = true := by decide +kernel
theorem sd_ft_ok : (decide (sd_ftL.length ≤ 302) && (List.range 302).all sd_ftchk) = true := by decide +kernel
theorem sd_made : ∃ (σ1 : sd_Mem) (c1 s1 : Nat) (σ2 : sd_Mem) (c2 s2 : Nat), sd_A1 = some (σ1, 271, c1, s1) ∧ sd_A2 σ1 = some (σ2, 301, c2, s2) ∧ (c1 ≤ 1000 ∧ s1 ≤ 100000 ∧ c2 ≤ 1000 ∧ s2 ≤ 100000) ∧ ∀ k, k < 301 → sd_bchk σ2 k = true := sd_bornX sd_born_ok
def sd_arrS (σ σ' : sd_Mem) : Prop := ∀ k, (∀ ci, sd_sh k ≠ .inl ci) → σ'.1 k = σ.1 k ∧ σ'.2.1 k = σ.2.1 k
theorem sd_put1_arr {E : sd_E} {σ σ' : sd_Mem} {a ci f c2 : Nat} {v : Value} (h : sd_put1 E σ a ci f v = some σ') (hs : sd_sh a = .inl c2) : sd_arrS σ σ' := by
  intro k hk
  have hne : k ≠ a := fun q => hk c2 (by rw [q]; exact hs)
  unfold sd_put1 at h
  split at h
  · cases h
    exact ⟨funext fun j => if_neg (fun q => hne q.1), rfl⟩
  · split at h
    · cases h
      exact ⟨funext fun j => if_neg (fun q => hne q.1), rfl⟩
    · cases h
  · cases h
    exact ⟨rfl, funext fun j => if_neg (fun q => hne q.1)⟩
  · split at h
    · cases h
      exact ⟨rfl, rfl⟩
    · cases h
  · cases h
theorem sd_cins_arr {o : Nat} {ini : Bool} {i : Instr} {len pc : Nat} {ls st : List Value} {σ : sd_Mem} {n kc ks : Nat} {z : sd_cS} (h : sd_cins o ini i len pc ls st σ n kc ks = some (.inl z)) : sd_arrS σ z.2.2.2.1 := by
  unfold sd_cins at h
  split at h
  all_goals first
    | (cases h; done)
    | (have h9 := (sd_cL_ok h).2
       clear h
       repeat' split at h9
       all_goals first
         | (cases h9; done)
         | (cases h9; exact fun k _ => ⟨rfl, rfl⟩)
         | (cases h9; rename_i hh _ hp; exact sd_put1_arr hp hh.1)
         | (cases h9; rename_i hh _ _ hp; exact sd_put1_arr hp hh.1))
theorem sd_cev_arr : ∀ (f d y pc : Nat) (ls st : List Value) (σ : sd_Mem) (n kc ks : Nat) (r : sd_Mem × Nat × Nat × Nat), sd_cev f d y pc ls st σ n kc ks = some r → sd_arrS σ r.1
  | 0, _, _, _, _, _, _, _, _, _, _, h => by cases h
  | f + 1, d, y, pc, ls, st, σ, n, kc, ks, r, h => by
    have tr : ∀ {a b c : sd_Mem}, sd_arrS a b → sd_arrS b c → sd_arrS a c := fun h1 h2 k hk => ⟨(h2 k hk).1.trans (h1 k hk).1, (h2 k hk).2.trans (h1 k hk).2⟩
    unfold sd_cev at h
    split at h
    · cases h
    · rename_i z hz
      have h1 : sd_arrS σ z.2.2.2.1 := by
        unfold sd_cstep at hz
        split at hz
        · exact sd_cins_arr hz
        · cases hz
      exact tr h1 (sd_cev_arr f _ _ _ _ _ _ _ _ _ _ h)
    · split at h
      · cases h
      · split at h
        · split at h
          · rename_i r1 hr1
            exact tr (sd_cev_arr f _ _ _ _ _ _ _ _ _ _ hr1) (sd_cev_arr f _ _ _ _ _ _ _ _ _ _ h)
          · cases h
        · cases h
    · cases h
      exact fun k _ => ⟨rfl, rfl⟩
