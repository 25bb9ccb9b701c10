/-! SwornDaysLaw.person: catches what SwornDays.person throws -/
def sd_wsP : List Cond := Cond.codeWith sd_nmP method_3_code 5 (some .int) [(0, 10, 13, 13)] :: sd_tbl
/-- what the law's person answers, and the store behind it -/
def sd_pv (r : Option (Option Value)) : Int32 := match r with
  | none => 1
  | some _ => 0
def sd_pσ (o : Nat) (r : Option (Option Value)) (σ : sd_Mem) : sd_Mem := match r with
  | some (some (.int v)) => sd_wL σ o 0 v.toInt64
  | _ => σ
theorem sd_wordsP {args : Array Value} {s : State} (hts : ∀ w ∈ sd_tbl, w.before args s = true) : ∀ w ∈ sd_wsP, ∀ (a' : Array Value) (U : State), s.WarmedH U.vm → w.before a' U = true := by
  intro w hw a' U hW
  have hm : w ∈ sd_tbl := by
    rcases List.mem_cons.mp hw with rfl | h
    · exact sd_xw
    · exact h
  exact word_at hW (good_of_word (sd_goodT w hm)) (hts w hm)
set_option maxHeartbeats 1000000 in
theorem sd_personL {l : Launch} {E : sd_E} {ad : Nat → Nat} {B0 : Nat} {D : va_G} {cA : Nat → ClassId} (hAd : sd_Ad ad B0) (hl : l.stackTraces = false) {d : Nat} (hd : 6 ≤ d) {a o no : Nat} {p0 p1 : Int32} {σ σ' : sd_Mem} {r : Option (Option Value)} (ha : sd_sh a = .inl 10) (ho : sd_sh o = .inr (2, no)) (hno : 0 < no)
    (hr : r = none ∨ ∃ v, r = some (some (.int v))) (h : sd_PX E d [.ref a, .int p0, .int p1] σ r σ') :
    Met l sd_nmP sd_wsP (sd_crm (d + 1) 1 6) (va_Pc ([Value.ref a, .int p0, .int p1, .ref o].map (sd_cv ad)) (sd_PreX E ad B0 D cA σ)) (sd_Qc E ad B0 D cA (some (.int (sd_pv r))) (sd_pσ o r σ')) 1 6 (fun q => B0 ≤ q) := by
  have hM := sd_personX (l := l) (D := D) (cA := cA) hAd hl hd (av := [.ref a, .int p0, .int p1]) (show 3 ≤ (sd_m y_X_person).2.2.1 from by decide +kernel) h
  refine va_MetW (cc := method_3_code) (maxL := 5) (ret := some .int) (hh := [(0, 10, 13, 13)]) (by decide +kernel) rfl ?_
  intro p e s m args below meth c s₁ B hml hv
  obtain ⟨rfl, ⟨⟨hP, hK, hX⟩, hN⟩, hXx⟩ := hv
  have hts0 := atoms_spec (ws := sd_wsP) B.pre
  have hts : ∀ w ∈ sd_tbl, w.before ([Value.ref a, .int p0, .int p1, .ref o].map (sd_cv ad)).toArray s = true := fun w hw => hts0 w (List.mem_cons_of_mem _ hw)
  have hown : s.vm.findClass "SwornDaysLaw" = some m.cls := findClass_of_methodNamed B.named
  have htab : c.exceptionTable.toList = tableOf [(0, 10, 13, 13)] := vx_table (x := sd_nmP) (bytes := method_3_code) (maxL' := 5) (ret' := some .int) B (hts0 (Cond.codeWith sd_nmP method_3_code 5 (some .int) [(0, 10, 13, 13)]) List.mem_cons_self)
  have hx := B.exec
  have hb : c.code = method_3_code := B.bytes
  rw [lg_entry_eq]
  have hl5 : sd_has ad ((lg_sl ([Value.ref a, .int p0, .int p1, .ref o].map (sd_cv ad)) ++ List.replicate (5 - (lg_sl ([Value.ref a, .int p0, .int p1, .ref o].map (sd_cv ad))).length) Slot.unset).toArray) 5 (sd_entry [Value.ref a, .int p0, .int p1, .ref o] 5) := sd_has_entry (show 4 ≤ 5 by decide)
  generalize ((lg_sl ([Value.ref a, .int p0, .int p1, .ref o].map (sd_cv ad)) ++ List.replicate (5 - (lg_sl ([Value.ref a, .int p0, .int p1, .ref o].map (sd_cv ad))).length) Slot.unset).toArray) = sl at hl5 ⊢
  have g0 : sl[0]? = some (.val (.ref (ad a))) := sd_has_get hl5 (i := 0) (v := .ref a) rfl rfl
  have g1 : sl[1]? = some (.val (.int p0)) := sd_has_get hl5 (i := 1) (v := .int p0) rfl rfl
  have g2 : sl[2]? = some (.val (.int p1)) := sd_has_get hl5 (i := 2) (v := .int p1) rfl rfl
  have g3 : sl[3]? = some (.val (.ref (ad o))) := sd_has_get hl5 (i := 3) (v := .ref o) rfl rfl
  refine lv_aload_n (k := 3) hx hb (by decide +kernel) rfl g3 ?_
  refine lv_iconst hx hb (n := 0) (v := 0) (by decide +kernel) rfl ?_
  refine lv_aload_n (k := 0) hx hb (by decide +kernel) rfl g0 ?_
  refine lv_iload_n (k := 1) hx hb (by decide +kernel) rfl g1 ?_
  refine lv_iload_n (k := 2) hx hb (by decide +kernel) rfl g2 ?_
  obtain ⟨hy, hln, hkd⟩ := sd_lF sd_xr
  obtain ⟨f1, f2, f3, f4, f5, f6, f7⟩ := sd_mF hy
  have hkk : Cond.instanceMethod (sd_m y_X_person).1 ∈ sd_tbl ∧ Cond.selects (sd_m y_X_person).1.cls (sd_m y_X_person).1 (sd_m y_X_person).1 ∈ sd_tbl := by
    rcases hkd with ⟨-, q1, q2, -⟩ | ⟨q, -⟩ | q
    · exact ⟨q1, q2⟩
    · cases q
    · cases q
  have hlk : Cond.methodLink "SwornDaysLaw" 7 (sd_m y_X_person).1 ∈ sd_tbl := by
    rcases hln with ⟨-, q⟩ | ⟨q, -⟩
    · exact q
    · cases q
  have hrecv : ∃ cell : Cell, s.heap[ad a]? = some cell ∧ cell.vm.isStatics = false ∧ s.vm.findClass (sd_m y_X_person).1.cls = some cell.cls := by
    have he := sd_wld_get (E := E) (ad := ad) (cA := cA) (σ := σ) (sd_sh_lt ha (fun q => by cases q))
    rw [show sd_cell E ad cA σ a = .inr (10, (List.range (sd_C 10).2.2).map (fun i => sd_cv ad (sd_val E σ a 10 i))) by unfold sd_cell; rw [ha]] at he
    have h1 := va_recv hK hP (sd_clok 10 (sd_shok a (sd_sh_lt ha (fun q => by cases q)) _ ha)) he
    exact h1
  have hpre : ∀ U : State, U.heap = s.heap → s.WarmedH U.vm → va_Pc ([Value.ref a, .int p0, .int p1].map (sd_cv ad)) (sd_PreX E ad B0 D cA σ) ([Value.ref a, .int p0, .int p1].map (sd_cv ad)).toArray U := fun U hU hW =>
    ⟨rfl, ⟨⟨by rw [hU]; exact hP, va_K.moved hW.alike hK, sd_X_kept hW.alike ⟨by rw [hU]; exact Nat.le_refl _, fun q _ _ => by rw [hU]⟩ hX⟩, sd_nestW hW hN⟩, sd_Xx_kept hW (fun q _ _ => by rw [hU]) hXx⟩
  have hrun := vx_runV (p := p) (e := e) (R := (headSpec sd_wsP (sd_crm (d + 1) 1 6)).room) (below := below) (meth := meth) (H := s.heap) (locs := []) (cells := 0) (slots := 0) (cc := method_3_code) (nL := 5) (bytes := (sd_m y_X_person).2.1) (maxL := (sd_m y_X_person).2.2.1) (ret := (sd_m y_X_person).2.2.2.1) (n := 2) (C := (sd_m y_X_person).1.cls) (own := "SwornDaysLaw") (index := 7) (b := ad a) (As := [.int p0, .int p1]) (rest := [.int 0, .ref (ad o)]) (g := F0 m 5 sl [.int p1, .int p0, .ref (ad a), .int 0, .ref (ad o)]) (Ts := sd_tbl)
    ⟨hx, hb, hml, hown, hts⟩ hM ⟨⟨rfl, rfl, Nat.le_refl _, by show 8 + ((sd_m y_X_person).2.2.1 + 11) + 40 * (d + 1) ≤ 40 * (d + 1 + 1); omega, sd_words hy hts, List.mem_cons_self, hts _ f1, hts _ f2, f3, fun sig hs => by rw [hs] at f4; exact (Option.some.inj f4).symm, hts _ hlk⟩, hts _ hkk.1, hts _ hkk.2⟩ ⟨sd_blindX, hrecv, hpre⟩ rfl rfl hl5.1.1 rfl (show 2 * 0 + 2 ≤ 8 by decide) (show decode method_3_code 5 = .ok (.invokevirtual 7, 3) by decide +kernel) ⟨Nat.le_refl _, Nat.le_refl _⟩
  intro T hT X
  have fin : ∀ (H1 : Heap) (locs1 : List Loc) (v : Int32) (σ1 : sd_Mem) (pc : Nat) (sl : Array Slot), v = sd_pv r → σ1 = sd_pσ o r σ' → va_P D sd_cl (sd_wld E ad cA σ1) H1 → va_S (fun q => B0 ≤ q) s.heap H1 locs1 → decode method_3_code pc = .ok (.ireturn, 1) →
      W p l e (headSpec sd_wsP (sd_crm (d + 1) 1 6)).room s m ([Value.ref a, .int p0, .int p1, .ref o].map (sd_cv ad)).toArray below meth c H1 locs1 1 6 (MQ below (sd_Qc E ad B0 D cA (some (.int (sd_pv r))) (sd_pσ o r σ')) ([Value.ref a, .int p0, .int p1, .ref o].map (sd_cv ad)).toArray s 1 6 (fun q => B0 ≤ q)) (F0 m pc sl [.int v]) := by
    intro H1 locs1 v σ1 pc sl e1 e2 hP1 hS1 hd1
    subst e1
    subst e2
    exact W.iret hx hb B.returns (fun t ht hW => ⟨rfl, ⟨by rw [ht]; exact hP1, va_K.moved hW.alike hK, sd_X_kept hW.alike ⟨by rw [ht]; exact hS1.1, by rw [ht]; exact hS1.2.1⟩ hX⟩, hS1.F ht⟩) hS1.2.2 hd1 B.notSynchronized
  rcases hrun T hT X with ⟨v, st₀, t, T', L, h0, X', hL, e1, e2, hq, stp⟩ | ⟨q, st₀, t, T', L, N, ce, h0, X', hL, e1, e2, hq, hce, hcv, hcl, stp⟩
  · rcases hr with rfl | ⟨v', rfl⟩
    · exact hq.elim
    · obtain ⟨hv, ⟨hP1, hK1, hX1⟩, hz, hk⟩ : sd_Qc E ad B0 D cA (some (.int v')) σ' #[Value.ref (ad a), Value.int p0, Value.int p1] st₀ (.returned v) t := hq
      cases hv
      rw [h0] at hz hk
      have hS1 : va_S (fun q => B0 ≤ q) s.heap T'.heap ([] ++ L) := ⟨by rw [e1]; exact hz, fun q h1 h2 => by rw [e1]; exact hk q h1 h2, fun q hq => hL q hq⟩
      have he := sd_wld_get (E := E) (ad := ad) (cA := cA) (σ := σ') (sd_sh_lt ho (fun q => by cases q))
      rw [show sd_cell E ad cA σ' o = .inl (cA 2, no, .inr (.inl (σ'.2.1 o))) by unfold sd_cell; rw [ho]; rfl] at he
      have hP1' : va_P D sd_cl (sd_wld E ad cA σ') T'.heap := by rw [e1]; exact hP1
      have go : W p l e (headSpec sd_wsP (sd_crm (d + 1) 1 6)).room s m ([Value.ref a, .int p0, .int p1, .ref o].map (sd_cv ad)).toArray below meth c T'.heap ([] ++ L) (0 + 1) (0 + 6) (MQ below (sd_Qc E ad B0 D cA (some (.int (sd_pv (some (some (.int v')))))) (sd_pσ o (some (some (.int v'))) σ')) ([Value.ref a, .int p0, .int p1, .ref o].map (sd_cv ad)).toArray s 1 6 (fun q => B0 ≤ q)) (F0 m 8 sl [.int v', .int 0, .ref (ad o)]) := by
        refine lv_i2l hx hb (by decide +kernel) rfl ?_
        refine va_last hx hb hK hP1' (sd_D hAd) hS1 o 2 he rfl (by show ¬ ((0 : Int32) < 0 ∨ no ≤ Int32.toNatClampNeg 0); rintro (q | q); exact absurd q (by decide); exact absurd (show no ≤ 0 from q) (by omega)) (by decide +kernel) (fun H2 locs2 p1 _ p3 => ?_)
        refine lv_goto hx hb (off := 7) (tgt := 17) (by decide +kernel) rfl ?_
        refine lv_iconst hx hb (n := 0) (v := 0) (by decide +kernel) rfl ?_
        refine fin H2 locs2 0 _ 18 sl rfl rfl ?_ p3 (by decide +kernel)
        show va_P D sd_cl (sd_wld E ad cA (sd_wL σ' o 0 v'.toInt64)) H2
        rw [← sd_wld_set (k := o) (fun j hj => sd_cellL hj) (e := .inl (cA 2, no, .inr (.inl (vp_updL (σ'.2.1 o) 0 v'.toInt64)))) (by unfold sd_cell; rw [ho]; exact congrArg (fun g => Sum.inl (cA 2, no, Sum.inr (Sum.inl g))) sd_wL_row)]
        exact p1
      obtain ⟨t2, a1, b1⟩ := go T' rfl X'
      exact ⟨t2, stp t2 a1, b1⟩
  · obtain ⟨rfl, rfl, ⟨hP1, hK1, hX1⟩, hz, hk⟩ := hq
    rw [h0] at hz hk
    have hS1 : va_S (fun q => B0 ≤ q) s.heap T'.heap ([] ++ L) := ⟨by rw [e1]; exact hz, fun q h1 h2 => by rw [e1]; exact hk q h1 h2, fun q hq => hL q hq⟩
    have go : vx_W p l e (headSpec sd_wsP (sd_crm (d + 1) 1 6)).room s m ([Value.ref a, .int p0, .int p1, .ref o].map (sd_cv ad)).toArray below meth c T'.heap ([] ++ L) (0 + 1) (0 + 6) (MQ below (sd_Qc E ad B0 D cA (some (.int (sd_pv none))) (sd_pσ o none σ')) ([Value.ref a, .int p0, .int p1, .ref o].map (sd_cv ad)).toArray s 1 6 (fun q => B0 ≤ q)) (F0 m 5 sl [.int 0, .ref (ad o)]) q := by
      refine vx_catch hown [] ⟨0, 10, 13, 13⟩ [] htab (fun z hz => by cases hz) (by decide) (by decide) (hts _ sd_xl) (va_Nw.use rfl (hXx.2.2 _ (by decide))) (by rw [e1]; exact hce) hcv hcl ?_
      refine lv_astore hx hb (i := 4) (by decide +kernel) hl5.1 (by decide) rfl (fun sl2 _ => ?_)
      refine lv_iconst hx hb (n := 1) (v := 1) (by decide +kernel) rfl ?_
      exact fin T'.heap ([] ++ L) 1 _ 16 sl2 rfl rfl (by rw [e1]; exact hP1) hS1 (by decide +kernel)
    obtain ⟨t2, a1, b1⟩ := go T' rfl X'
    exact ⟨t2, stp.trans a1, b1⟩
