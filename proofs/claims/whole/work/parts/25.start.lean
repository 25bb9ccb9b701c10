/-! the law entry: worlds and addresses (written by wip/whole/mk24.py) -/
theorem sd_inW : ∀ ci, ci < 12 → ∀ w ∈ u_ws (sd_C ci).1 (sd_C ci).2.1 (sd_C ci).2.2, w ∈ lw_tbl
  | 0, _ => sd_in_0 | 1, _ => sd_in_1 | 2, _ => sd_in_2 | 3, _ => sd_in_3 | 4, _ => sd_in_4 | 5, _ => sd_in_5 | 6, _ => sd_in_6 | 7, _ => sd_in_7 | 8, _ => sd_in_8 | 9, _ => sd_in_9 | 10, _ => sd_in_10 | 11, _ => sd_in_11
  | n + 12, h => absurd h (by omega)
section SDB
variable {s : State} {args : Array Value}
theorem sd_clK (hts : ∀ w ∈ lw_tbl, w.before args s = true) : ∃ D : va_G, ∀ (c : Nat) (q : vw_C), sd_cl[c]? = some q → u_Kn s q.1 q.2.1 q.2.2 (D.1 c) (D.2 c) := by
  have h : ∀ c : Nat, ∃ z : ClassId × (Nat → Nat), c < 12 → u_Kn s (sd_C c).1 (sd_C c).2.1 (sd_C c).2.2 z.1 z.2 := by
    intro c
    by_cases hc : c < 12
    · obtain ⟨x, y, hxy⟩ := u_known (n := (sd_C c).2.2) hts (sd_inW c hc) (hts _ (List.mem_filter.mp (sd_ib c hc).1).1)
      exact ⟨(x, y), fun _ => hxy⟩
    · exact ⟨(0, fun _ => 0), fun q => absurd q hc⟩
  obtain ⟨f, hf⟩ := Classical.axiomOfChoice h
  refine ⟨(fun c => (f c).1, fun c => (f c).2), fun c q hq => ?_⟩
  have hc : c < 12 := by
    have h1 := (List.getElem?_eq_some_iff.mp hq).1
    exact h1
  rw [sd_clok c hc] at hq
  cases hq
  exact hf c hc
theorem sd_tyK (hts : ∀ w ∈ lw_tbl, w.before args s = true) : ∃ cA : Nat → ClassId, ∀ (k : Nat) (q : ClassId × FieldType), (sd_tys cA)[k]? = some q → ArrOfT s q.1 q.2 ∧ va_RA s q.1 q.2 := by
  have prim : ∀ ty : FieldType, Cond.arrayClass ty ∈ sd_tbl → (∀ C, ty ≠ .object C) → ∃ c : ClassId, ArrOfT s c ty ∧ va_RA s c ty := by
    intro ty hm hno
    obtain ⟨c, k, comp, h1, h2, h3⟩ := Cond.arrayClass_spec (show (Cond.arrayClass ty).holds args s none s [] = true from hts _ (List.mem_filter.mp hm).1)
    refine ⟨c, fun n z => ⟨fun q hq => (by cases hq), k, h2, comp, h3⟩, ?_⟩
    cases ty with
    | object C => exact absurd rfl (hno C)
    | _ => exact h1
  obtain ⟨c0, h0⟩ := prim .int sd_acI0 (fun _ q => by cases q)
  obtain ⟨c1, h1⟩ := prim .byte sd_acI1 (fun _ q => by cases q)
  obtain ⟨c2, h2⟩ := prim .long sd_acI2 (fun _ q => by cases q)
  obtain ⟨comp, c3, k3, g1, -, g3, g4, g5⟩ := Cond.arrayOver_spec (show (Cond.arrayOver (.object "SwornDays$State")).holds args s none s [] = true from hts _ sd_ao1.1)
  obtain ⟨comp4, c4, k4, f1, f3, f4, f5⟩ := Cond.arrayOver_specA (hts _ sd_ao1.2)
  refine ⟨fun t => if t = 0 then c0 else if t = 1 then c1 else if t = 2 then c2 else if t = 3 then c3 else c4, fun k q hq => ?_⟩
  match k, hq with
  | 0, hq => cases hq; exact h0
  | 1, hq => cases hq; exact h1
  | 2, hq => cases hq; exact h2
  | 3, hq => cases hq; exact ⟨fun n z => ⟨fun q hq => (by cases hq), k3, g3, comp, g4⟩, k3, comp, g3, g4, g1, g5⟩
  | 4, hq => cases hq; exact ⟨fun n z => ⟨fun q hq => (by cases hq), k4, f3, comp4, f4⟩, f5⟩
  | k + 5, hq => simp [sd_tys] at hq
theorem sd_begin {b L : Nat} {xs : Nat → Int32} (hts : ∀ w ∈ lw_tbl, w.before args s = true) (hgv : (Jvm.Cond.and given_1 narrow_1).before args s = true) (hX : va_X b L xs s s.heap) (hb : b < s.heap.size) :
    ∃ (ad : Nat → Nat) (D : va_G) (cA : Nat → ClassId) (fm : Option Nat), sd_cAd ad s.heap.size ∧ ad 400 = b ∧ va_K D sd_cl (sd_tys cA) s ∧ (va_AO "SwornDays$State" s ∧ sd_aoa s) ∧ sd_Nw ad s ∧ sd_X (sd_E1 L xs fm) ad s.heap.size s s.heap ∧ sd_Xx s.heap.size s s.heap := by
  have hf : ∀ w ∈ sd_f1, w.before args s = true := flat_of_before _ hgv
  have hA : ∀ a : Nat, a < s.heap.size → ¬ (fun q => s.heap.size ≤ q) a := fun a h => Nat.not_le.mpr h
  obtain ⟨D, hD⟩ := sd_clK hts
  obtain ⟨cA, hcA⟩ := sd_tyK hts
  obtain ⟨adK, adV, hvS, hvE⟩ := vk_Sof (args := args) (s := s) (N := 9) (tm := sd_tm) (len := sd_slen) (byt := sd_sbyt) (A := fun q => s.heap.size ≤ q) sd_s7 (fun i hi => hf _ (sd_s1 i hi)) (fun i hi => hf _ (sd_s2 i hi)) (fun i hi => hf _ (sd_s3 i hi)) (fun i hi => hf _ (sd_s4 i hi)) (fun i hi j hj => hf _ (sd_s5 i hi j hj)) (fun i j hi hj h => (sd_s6 i hi j hj h).imp (hf _) (hf _)) hA
  have hst : ∀ t : Nat, ∃ a : Nat, t < 4 → va_Z (sd_gsN t).1 (sd_gsN t).2.1 (sd_gsN t).2.2 (.ref a) (fun q => s.heap.size ≤ q) s s.heap ∧ va_T .int a (sd_stat t).length (fun j => .int ((sd_stat t).getD j 0)) (fun q => s.heap.size ≤ q) s s.heap := by
    intro t
    by_cases ht : t < 4
    · obtain ⟨a, h1, h2⟩ := va_Tof (args := args) (s := s) (tm := .static (sd_gsN t).1 (sd_gsN t).2.1 (sd_gsN t).2.2) (ty := .int) (N := (sd_stat t).length) (f := fun j => .int ((sd_stat t).getD j 0)) (A := fun q => s.heap.size ≤ q) (sd_a10 t ht) (hf _ (sd_a1 t ht)) (va_eqt (hf _ (sd_a2 t ht))) (fun j hj => va_eqt (hf _ (sd_a3 t ht j hj))) hA
      exact ⟨a, fun _ => ⟨va_Zof (hts _ (sd_a4 t (by omega)).1) (hts _ (sd_a4 t (by omega)).2) h1 hA, h2⟩⟩
    · exact ⟨0, fun q => absurd q ht⟩
  obtain ⟨adS, hadS⟩ := Classical.axiomOfChoice hst
  have hfm : ∃ (fa : Nat) (fm : Option Nat), (fm = none ∨ fm = some 451) ∧ va_Z (sd_gsN 5).1 (sd_gsN 5).2.1 (sd_gsN 5).2.2 (va_rf (fm.map (fun _ => fa))) (fun q => s.heap.size ≤ q) s s.heap := by
    rcases va_Zqof (A := fun q => s.heap.size ≤ q) (hts _ (sd_a4 5 (by omega)).1) (hts _ (sd_a4 5 (by omega)).2) (hf _ sd_a6) hA with h | ⟨t, h⟩
    · exact ⟨0, none, Or.inl rfl, h⟩
    · exact ⟨t, some 451, Or.inr rfl, h⟩
  obtain ⟨fa, fm, hfm1, hfm2⟩ := hfm
  refine ⟨fun k => if k < 302 then s.heap.size + k else if k = 400 then b else if k < 410 then adS (k - 401) else if k < 430 then adK (k - 410) else if k < 450 then adV (k - 430) else fa, D, cA, fm, ?_, ?_, ⟨hD, hcA⟩, ⟨va_AO.of (hts _ sd_ao1.1), fun A => ?_⟩, ⟨fun w hw => ?_, fun r hr => ?_⟩, ⟨?_, ?_, ?_, ?_, ?_⟩, ?_, ?_, ?_⟩
  · intro k hk
    exact if_pos hk
  · rfl
  · exact hts _ sd_ao1.2
  · exact va_Nw.of (sd_nestT w hw) (hts w (List.mem_filter.mp hw).1)
  · obtain ⟨h1, h2, h3⟩ := sd_s8 r hr
    have he := hvE r.2.1 h1
    have hstr : (Cond.stringRef (sd_R (r.1 / 65536)) (r.1 % 65536) (sd_txt r.2.1)).before args s = true := hts _ (List.mem_of_getElem? h2)
    have hev : (Term.string (sd_R (r.1 / 65536)) (r.1 % 65536)).eval args s none [] s = some (.ref (adK r.2.1)) := by
      rcases h3 with h3 | h3
      · rw [← h3]; exact he
      · exact sd_eqR (hf _ h3) he
    have hv := vk_R.of hstr hev
    have e1 : ¬ 410 + r.2.1 < 302 := by omega
    have e2 : ¬ 410 + r.2.1 = 400 := by omega
    have e3 : ¬ 410 + r.2.1 < 410 := by omega
    have e4 : 410 + r.2.1 < 430 := by omega
    dsimp only
    rw [if_neg e1, if_neg e2, if_neg e3, if_pos e4, show 410 + r.2.1 - 410 = r.2.1 by omega]
    exact hv
  · intro k n f hk
    have hk : (if k = 400 then some (L, xs) else if 401 ≤ k ∧ k ≤ 404 then some ((sd_stat (k - 401)).length, fun j => (sd_stat (k - 401)).getD j 0) else none) = some (n, f) := hk
    split at hk
    · rename_i h1
      subst h1
      cases hk
      obtain ⟨scr, q1, q2, q3, q4, q5⟩ := hX
      exact ⟨scr, q1, q2, q3, Nat.le_of_eq q4.symm, by rw [q4], q5, Nat.not_le.mpr hb⟩
    · split at hk
      · rename_i h0 h1
        obtain ⟨k1, k2⟩ := Prod.mk.inj (Option.some.inj hk)
        rw [← k1, ← k2]
        dsimp only
        have e1 : ¬ k < 302 := by omega
        have e3 : k < 410 := by omega
        rw [if_neg e1, if_neg h0, if_pos e3]
        exact (hadS (k - 401) (by omega)).2
      · cases hk
  · intro t ht
    have e1 : ¬ 401 + t < 302 := by omega
    have e2 : ¬ 401 + t = 400 := by omega
    have e3 : 401 + t < 410 := by omega
    dsimp only
    rw [if_neg e1, if_neg e2, if_pos e3, show 401 + t - 401 = t by omega]
    exact (hadS t ht).1
  · exact va_Zof (hts _ (sd_a4 4 (by omega)).1) (hts _ (sd_a4 4 (by omega)).2) (va_eqt (hf _ sd_a5)) hA
  · rcases hfm1 with rfl | rfl
    · exact hfm2
    · exact hfm2
  · have e1 : (fun i => (fun k => if k < 302 then s.heap.size + k else if k = 400 then b else if k < 410 then adS (k - 401) else if k < 430 then adK (k - 410) else if k < 450 then adV (k - 430) else fa) (410 + i)) = fun i => if i < 20 then adK i else if i < 40 then adV (i - 20) else fa := by
      funext i
      show (if 410 + i < 302 then s.heap.size + (410 + i) else if 410 + i = 400 then b else if 410 + i < 410 then adS (410 + i - 401) else if 410 + i < 430 then adK (410 + i - 410) else if 410 + i < 450 then adV (410 + i - 430) else fa) = _
      have g1 : ¬ 410 + i < 302 := by omega
      have g2 : ¬ 410 + i = 400 := by omega
      have g3 : ¬ 410 + i < 410 := by omega
      rw [if_neg g1, if_neg g2, if_neg g3]
      by_cases h1 : i < 20
      · have g4 : 410 + i < 430 := by omega
        rw [if_pos g4, if_pos h1, show 410 + i - 410 = i by omega]
      · have g4 : ¬ 410 + i < 430 := by omega
        rw [if_neg g4, if_neg h1]
        by_cases h2 : i < 40
        · have g5 : 410 + i < 450 := by omega
          rw [if_pos g5, if_pos h2, show 410 + i - 430 = i - 20 by omega]
        · have g5 : ¬ 410 + i < 450 := by omega
          rw [if_neg g5, if_neg h2]
    refine ⟨fun i hi => ?_, fun i j hi hj he => ?_⟩
    · have h := hvS.1 i hi
      have a1 : (fun k => if k < 302 then s.heap.size + k else if k = 400 then b else if k < 410 then adS (k - 401) else if k < 430 then adK (k - 410) else if k < 450 then adV (k - 430) else fa) (410 + i) = adK i := (congrFun e1 i).trans (if_pos (by omega))
      have a2 : (fun k => if k < 302 then s.heap.size + k else if k = 400 then b else if k < 410 then adS (k - 401) else if k < 430 then adK (k - 410) else if k < 450 then adV (k - 430) else fa) (430 + i) = adV i := by
        have h9 := congrFun e1 (20 + i)
        rw [show 410 + (20 + i) = 430 + i by omega] at h9
        have g1 : ¬ 20 + i < 20 := by omega
        have g2 : 20 + i < 40 := by omega
        rw [h9]
        show (if 20 + i < 20 then adK (20 + i) else if 20 + i < 40 then adV (20 + i - 20) else fa) = _
        rw [if_neg g1, if_pos g2, show 20 + i - 20 = i by omega]
      rw [a1, a2]
      exact h
    · have a1 : ∀ i, i < 9 → (fun k => if k < 302 then s.heap.size + k else if k = 400 then b else if k < 410 then adS (k - 401) else if k < 430 then adK (k - 410) else if k < 450 then adV (k - 430) else fa) (410 + i) = adK i := fun i hi => (congrFun e1 i).trans (if_pos (by omega))
      have h9 : adK i = adK j := (a1 i hi).symm.trans (he.trans (a1 j hj))
      exact hvS.2 i j hi hj h9
  · exact vx_Zqof (hts _ sd_a8.1) (hts _ sd_a8.2.2) (hf _ sd_a7.1) hA
  · exact vx_Zqof (hts _ sd_a8.2.1) (hts _ sd_a8.2.2) (hf _ sd_a7.2) hA
  · exact fun w hw => va_Nw.of (sd_xn_on w hw) (hts w (sd_a9 w hw))
end SDB
