/-! calls, returns, methods -/
def sd_W (E : sd_E) (ad : Nat → Nat) (B0 : Nat) (D : va_G) (cA : Nat → ClassId) (σ : sd_Mem) (U : State) : Prop := va_P D sd_cl (sd_wld E ad cA σ) U.heap ∧ va_K D sd_cl (sd_tys cA) U ∧ sd_X E ad B0 U U.heap
def sd_Pre (E : sd_E) (ad : Nat → Nat) (B0 : Nat) (D : va_G) (cA : Nat → ClassId) (σ : sd_Mem) (U : State) : Prop := sd_W E ad B0 D cA σ U ∧ sd_Nw ad U
def sd_Qc (E : sd_E) (ad : Nat → Nat) (B0 : Nat) (D : va_G) (cA : Nat → ClassId) (v : Option Value) (σ' : sd_Mem) : Array Value → State → Outcome → State → Prop := fun _ st oc t => oc = .returned (v.map (sd_cv ad)) ∧ sd_W E ad B0 D cA σ' t ∧ va_F (fun q => B0 ≤ q) st t
def sd_rm (d : Nat) : Room := { frames := d, cells := 0, slots := 0, locals := 40 * d }
def sd_wsM (y : Nat) : List Cond := Cond.code (sd_m y).1 (sd_m y).2.1 (sd_m y).2.2.1 (sd_m y).2.2.2.1 :: sd_tbl
def sd_Met (l : Launch) (E : sd_E) (ad : Nat → Nat) (B0 : Nat) (D : va_G) (cA : Nat → ClassId) (d y : Nat) (av : List Value) (σ : sd_Mem) (v : Option Value) (σ' : sd_Mem) : Prop :=
  Met l (sd_m y).1 (sd_wsM y) (sd_rm d) (va_Pc (av.map (sd_cv ad)) (sd_Pre E ad B0 D cA σ)) (sd_Qc E ad B0 D cA v σ') 0 0 (fun q => B0 ≤ q)
theorem sd_ms_len : sd_ms.length = 297 := by decide +kernel
theorem sd_m_mem {y : Nat} (h : y < 297) : sd_m y ∈ sd_ms := by
  unfold sd_m
  rw [List.getD_eq_getElem?_getD, List.getElem?_eq_getElem (by rw [sd_ms_len]; exact h)]
  exact List.getElem_mem _
theorem sd_mF {y : Nat} (h : y < 297) : Cond.code (sd_m y).1 (sd_m y).2.1 (sd_m y).2.2.1 (sd_m y).2.2.2.1 ∈ sd_tbl ∧ Cond.initialized (sd_m y).1.cls ∈ sd_tbl ∧ ((sd_m y).1.cls ≠ "java/lang/invoke/MethodHandle" ∧ (sd_m y).1.cls ≠ "java/lang/invoke/VarHandle") ∧ (parseMethodDescriptor (sd_m y).1.desc).map (fun d => d.parameters.length) = some (sd_m y).2.2.2.2.2.1 ∧ (sd_m y).2.2.1 ≤ 21 ∧ sd_R (sd_m y).2.2.2.2.1 = (sd_m y).1.cls ∧ plainName (sd_m y).1.cls = true := by
  have h1 := sd_mok h
  unfold sd_mchk at h1
  simp only [Bool.and_eq_true, decide_eq_true_eq] at h1
  obtain ⟨a1, -, a3, a4, a5, a6, a7⟩ := h1
  exact ⟨List.mem_filter.mpr ⟨sd_codeIn _ (sd_m_mem h), rfl⟩, sd_inT a1 rfl, a3, a4, a5, a6, a7⟩
theorem sd_lF {o i y k n z : Nat} (h : sd_lk o i = some (y, k, n, z)) : y < 297 ∧ ((n = 0 ∧ Cond.methodLink (sd_R o) i (sd_m y).1 ∈ sd_tbl) ∨ (n = 1 ∧ Cond.methodLinkNest (sd_R o) i (sd_m y).1 "SwornDays" ∈ sd_nest)) ∧
    ((k = 0 ∧ Cond.instanceMethod (sd_m y).1 ∈ sd_tbl ∧ Cond.selects (sd_m y).1.cls (sd_m y).1 (sd_m y).1 ∈ sd_tbl ∧ ((sd_C (sd_m y).2.2.2.2.1).1 = (sd_m y).1.cls ∨ 12 ≤ (sd_m y).2.2.2.2.1)) ∨ (k = 1 ∧ Cond.static (sd_m y).1 ∈ sd_tbl) ∨ k = 2) := by
  unfold sd_lk at h
  split at h
  · rename_i hi
    have h1 := sd_lok _ (sd_findM h)
    unfold sd_lchk at h1
    simp only [Bool.and_eq_true, Bool.or_eq_true, decide_eq_true_eq] at h1
    rw [show (o * 65536 + i) / 65536 = o by omega, show (o * 65536 + i) % 65536 = i by omega] at h1
    obtain ⟨a1, a2, a3⟩ := h1
    refine ⟨a1, ?_, ?_⟩
    · rcases a2 with ⟨b1, b2⟩ | ⟨b1, b2⟩
      · exact Or.inl ⟨b1, sd_inT b2 rfl⟩
      · exact Or.inr ⟨b1, sd_inN b2 rfl⟩
    · rcases a3 with ⟨b1, b2, b3, b4⟩ | ⟨b1, b2⟩ | ⟨b1, -⟩
      · exact Or.inl ⟨b1, sd_inT b2 rfl, sd_inT b3 rfl, b4⟩
      · exact Or.inr (Or.inl ⟨b1, sd_inT b2 rfl⟩)
      · exact Or.inr (Or.inr b1)
  · cases h
theorem sd_goodT : ∀ w ∈ sd_tbl, goodWord w = true := fun _ h => (List.mem_filter.mp h).2
theorem sd_nestT : ∀ w ∈ sd_nest, w.onTables = true := by
  intro w h
  have h1 := (List.mem_filter.mp h).2
  cases w <;> first | rfl | cases h1
theorem sd_nestW {ad : Nat → Nat} {s U : State} (hW : s.WarmedH U.vm) (h : sd_Nw ad s) : sd_Nw ad U := by
  refine ⟨fun w hw => ?_, fun r hr => (h.2 r hr).warm hW⟩
  have h1 := (List.mem_filter.mp hw).2
  have h2 := h.1 w hw
  cases w <;> first | exact va_Nw.warmM hW h2 | cases h1
theorem sd_X_kept {E : sd_E} {ad : Nat → Nat} {B0 : Nat} {s U : State} {H : Heap} (hv : s.vm.Alike U.vm) (hS : s.heap.size ≤ H.size ∧ (∀ q : Nat, q < s.heap.size → ¬ B0 ≤ q → H[q]? = s.heap[q]?)) (h : sd_X E ad B0 s s.heap) : sd_X E ad B0 U H :=
  ⟨fun k n f hk => ((h.1 k n f hk).moved hv).kept (fun a ha hn => hS.2 a ha hn), fun t ht => ((h.2.1 t ht).moved hv).kept (fun a ha hn => hS.2 a ha hn), (h.2.2.1.moved hv).kept (fun a ha hn => hS.2 a ha hn), (h.2.2.2.1.moved hv).kept (fun a ha hn => hS.2 a ha hn), (h.2.2.2.2.moved hv).kept (fun a ha hn => hS.2 a ha hn)⟩
theorem sd_blind {E : sd_E} {ad : Nat → Nat} {B0 : Nat} {D : va_G} {cA : Nat → ClassId} {σ : sd_Mem} {av : List Value} : FrameBlind (va_Pc av (sd_Pre E ad B0 D cA σ)) := by
  intro a U g mk q
  obtain ⟨q0, ⟨qP, qK, qX⟩, qN⟩ := q
  exact ⟨q0, ⟨qP, va_K.moved (u := U) (U := U.calling g mk a) (Vm.Alike.refl U.vm) qK, sd_X_kept (s := U) (U := U.calling g mk a) (H := U.heap) (Vm.Alike.refl U.vm) ⟨Nat.le_refl _, fun _ _ _ => rfl⟩ qX⟩, fun w hw => va_Nw.same (u := U) (U := U.calling g mk a) (sd_nestT w hw) rfl (qN.1 w hw), fun r hr => vk_R.same (u := U) (U := U.calling g mk a) rfl (qN.2 r hr)⟩
section SDC
variable {p : Program} {l : Launch} {e : Env} {R : Room} {s : State} {m : MethodId} {args : Array Value} {below : List Frame} {meth : Method} {c : Code} {cells slots : Nat} {Q : State → Prop}
variable {E : sd_E} {ad : Nat → Nat} {B0 : Nat} {D : va_G} {cA : Nat → ClassId} {y : Nat} {pc : Nat} {ls st : List Value} {σ : sd_Mem}
theorem sd_goes {v : Option Value} {σ1 : sd_Mem} {a : Array Value} {sl : Array Slot} {st0 rest : List Value} {H : Heap} {locs : List Loc}
    (hr : va_Run p l e R s m args below meth c H locs cells slots 0 0 (F0 m pc sl st0) rest (sd_Qc E ad B0 D cA v σ1 a) (fun q => B0 ≤ q)) (hS : va_S (fun q => B0 ≤ q) s.heap H locs)
    (kk : ∀ (H1 : Heap) (locs1 : List Loc), va_P D sd_cl (sd_wld E ad cA σ1) H1 → va_S (fun q => B0 ≤ q) s.heap H1 locs1 → W p l e R s m args below meth c H1 locs1 cells slots Q (F0 m (pc + 3) sl ((v.map (sd_cv ad)).toList ++ rest))) :
    W p l e R s m args below meth c H locs cells slots Q (F0 m pc sl st0) := by
  refine sd_goesA (G := fun o H1 => o = v.map (sd_cv ad) ∧ va_P D sd_cl (sd_wld E ad cA σ1) H1) hr hS (fun _ _ _ h => ?_) (fun _ H1 locs1 g s1 => ?_)
  · obtain ⟨h1, ⟨h2, -⟩, h3⟩ := h
    cases h1
    exact ⟨⟨rfl, h2⟩, h3⟩
  · obtain ⟨rfl, g⟩ := g
    exact kk H1 locs1 g s1
theorem sd_words {y' : Nat} (hy : y' < 297) (hts : ∀ w ∈ sd_tbl, w.before args s = true) : ∀ w ∈ sd_wsM y', ∀ (a' : Array Value) (U : State), s.WarmedH U.vm → w.before a' U = true := by
  intro w hw a' U hW
  have hm : w ∈ sd_tbl := by
    rcases List.mem_cons.mp hw with rfl | h
    · exact (sd_mF hy).1
    · exact h
  exact word_at hW (good_of_word (sd_goodT w hm)) (hts w hm)
theorem sd_pre {H : Heap} {locs : List Loc} {av : List Value} (K : sd_Ctx p s m args c E ad B0 D cA y) (hP : va_P D sd_cl (sd_wld E ad cA σ) H) (hS : va_S (fun q => B0 ≤ q) s.heap H locs) : ∀ U : State, U.heap = H → s.WarmedH U.vm → va_Pc (av.map (sd_cv ad)) (sd_Pre E ad B0 D cA σ) (av.map (sd_cv ad)).toArray U := by
  obtain ⟨hx, hb, hml, hown, hts, hK, hX, hnest, hAd⟩ := K
  intro U hU hW
  exact ⟨rfl, ⟨by rw [hU]; exact hP, va_K.moved hW.alike hK, sd_X_kept hW.alike ⟨by rw [hU]; exact hS.1, by rw [hU]; exact hS.2.1⟩ hX⟩, sd_nestW hW hnest⟩
theorem sd_callV {y' a n : Nat} {r : List Value} {v : Option Value} {σ1 : sd_Mem} {d nst z : Nat} (K : sd_Ctx p s m args c E ad B0 D cA y) (hf : d + 1 ≤ R.frames ∧ 40 * (d + 1) ≤ R.locals ∧ cells ≤ R.cells ∧ slots ≤ R.slots)
    (hd : decode (sd_m y).2.1 pc = .ok (.invokevirtual n, 3)) (hlk : sd_lk (sd_m y).2.2.2.2.1 n = some (y', 0, nst, z)) (hst : st.drop (sd_m y').2.2.2.2.2.1 = .ref a :: r) (hsh : sd_sh a = .inl (sd_m y').2.2.2.2.1 ∨ ((sd_m y').2.2.2.2.1 = 15 ∧ 410 ≤ a ∧ a < 419)) (hcat : sd_cat r ≤ 8)
    (hM : sd_Met l E ad B0 D cA d y' (.ref a :: (st.take (sd_m y').2.2.2.2.2.1).reverse) σ v σ1)
    (k : ∀ (H : Heap) (locs : List Loc) (sl : Array Slot), va_P D sd_cl (sd_wld E ad cA σ1) H → va_S (fun q => B0 ≤ q) s.heap H locs → sd_has ad sl (sd_m y).2.2.1 ls → W p l e R s m args below meth c H locs cells slots Q (F0 m (pc + 3) sl ((v.toList ++ r).map (sd_cv ad)))) :
    ∀ (H : Heap) (locs : List Loc) (sl : Array Slot), va_P D sd_cl (sd_wld E ad cA σ) H → va_S (fun q => B0 ≤ q) s.heap H locs → sd_has ad sl (sd_m y).2.2.1 ls → W p l e R s m args below meth c H locs cells slots Q (F0 m pc sl (st.map (sd_cv ad))) := by
  intro H locs sl hP hS hl
  have hpre := fun av => sd_pre (av := av) K hP hS
  obtain ⟨hx, hb, hml, hown, hts, hK, hX, hnest, hAd⟩ := K
  obtain ⟨hy, hln, hkd⟩ := sd_lF hlk
  obtain ⟨f1, f2, f3, f4, f5, f6, f7⟩ := sd_mF hy
  rcases hkd with ⟨-, g1, g2, g3⟩ | ⟨q, -⟩ | q
  · have hrecv : ∃ cell : Cell, H[ad a]? = some cell ∧ cell.vm.isStatics = false ∧ s.vm.findClass (sd_m y').1.cls = some cell.cls := by
      rcases hsh with hsh | ⟨hci, ha⟩
      · have hci := sd_shok a (sd_sh_lt hsh (fun q => by cases q)) _ hsh
        have hC : (sd_C (sd_m y').2.2.2.2.1).1 = (sd_m y').1.cls := g3.elim id (fun q => absurd q (by omega))
        have he := sd_wld_get (E := E) (ad := ad) (cA := cA) (σ := σ) (sd_sh_lt hsh (fun q => by cases q))
        rw [show sd_cell E ad cA σ a = .inr ((sd_m y').2.2.2.2.1, (List.range (sd_C (sd_m y').2.2.2.2.1).2.2).map (fun i => sd_cv ad (sd_val E σ a (sd_m y').2.2.2.2.1 i))) by unfold sd_cell; rw [hsh]] at he
        have hrecv := va_recv hK hP (sd_clok _ hci) he
        rw [hC] at hrecv
        exact hrecv
      · rw [← f6, hci]
        have h5 := vk_recv (i := a - 410) hX.2.2.2.2 (by omega) hS
        have e1 : 410 + (a - 410) = a := by omega
        rw [e1] at h5
        exact h5
    have hlen : (st.take (sd_m y').2.2.2.2.2.1).length = (sd_m y').2.2.2.2.2.1 := by
      have h1 := congrArg List.length hst
      rw [List.length_drop, List.length_cons] at h1
      rw [List.length_take]
      omega
    have hstack : st.map (sd_cv ad) = ((st.take (sd_m y').2.2.2.2.2.1).reverse.map (sd_cv ad)).reverse ++ .ref (ad a) :: r.map (sd_cv ad) := by
      rw [← List.map_reverse, List.reverse_reverse]
      have e1 : st = st.take (sd_m y').2.2.2.2.2.1 ++ (.ref a :: r) := by rw [← hst, List.take_append_drop]
      have e2 := congrArg (List.map (sd_cv ad)) e1
      rw [List.map_append] at e2
      exact e2
    have hroom : (sd_rm d).frames + 1 ≤ R.frames ∧ 8 + ((sd_m y').2.2.1 + 11) + (sd_rm d).locals ≤ R.locals := ⟨hf.1, by show 8 + ((sd_m y').2.2.1 + 11) + 40 * d ≤ _; omega⟩
    have hsig : ∀ sig, parseMethodDescriptor (sd_m y').1.desc = some sig → (sd_m y').2.2.2.2.2.1 = sig.parameters.length := by
      intro sig hs
      rw [hs] at f4
      exact (Option.some.inj f4).symm
    have hrun : va_Run p l e R s m args below meth c H locs cells slots 0 0 (F0 m pc sl (st.map (sd_cv ad))) (r.map (sd_cv ad)) (sd_Qc E ad B0 D cA v σ1 (Value.ref (ad a) :: (st.take (sd_m y').2.2.2.2.2.1).reverse.map (sd_cv ad)).toArray) (fun q => B0 ≤ q) := by
      rcases hln with ⟨-, hw⟩ | ⟨-, hw⟩
      · exact va_runV (C := (sd_m y').1.cls) (As := (st.take (sd_m y').2.2.2.2.2.1).reverse.map (sd_cv ad)) ⟨hx, hb, hml, hown, hts⟩ hM ⟨⟨rfl, rfl, hroom.1, hroom.2, sd_words hy hts, List.mem_cons_self, hts _ f1, hts _ f2, f3, hsig, hts _ hw⟩, hts _ g1, hts _ g2⟩ ⟨sd_blind, hrecv, hpre _⟩ rfl (by rw [List.length_map, List.length_reverse]; exact hlen) hl.1.1 hstack (lv_room (by rw [sd_cv_sum]; exact hcat)) hd hf.2.2
      · exact va_runVN (C := (sd_m y').1.cls) (As := (st.take (sd_m y').2.2.2.2.2.1).reverse.map (sd_cv ad)) ⟨hx, hb, hml, hown, hts⟩ hM ⟨⟨⟨rfl, rfl, hroom.1, hroom.2, sd_words hy hts, List.mem_cons_self⟩, hts _ f1, hts _ f2, f3, hsig, va_Nw.use rfl (hnest.1 _ hw)⟩, hts _ g1, hts _ g2⟩ ⟨sd_blind, hrecv, hpre _⟩ rfl (by rw [List.length_map, List.length_reverse]; exact hlen) hl.1.1 hstack (lv_room (by rw [sd_cv_sum]; exact hcat)) hd hf.2.2
    refine sd_goes hrun hS (fun H1 locs1 p1 p2 => ?_)
    have hk := k H1 locs1 sl p1 p2 hl
    rw [List.map_append] at hk
    cases v <;> exact hk
  · cases q
  · cases q
theorem sd_callS {y' n : Nat} {v : Option Value} {σ1 : sd_Mem} {d nst z : Nat} (K : sd_Ctx p s m args c E ad B0 D cA y) (hf : d + 1 ≤ R.frames ∧ 40 * (d + 1) ≤ R.locals ∧ cells ≤ R.cells ∧ slots ≤ R.slots)
    (hd : decode (sd_m y).2.1 pc = .ok (.invokestatic n, 3)) (hlk : sd_lk (sd_m y).2.2.2.2.1 n = some (y', 1, nst, z)) (hst : (sd_m y').2.2.2.2.2.1 ≤ st.length) (hcat : sd_cat (st.drop (sd_m y').2.2.2.2.2.1) ≤ 8)
    (hM : sd_Met l E ad B0 D cA d y' (st.take (sd_m y').2.2.2.2.2.1).reverse σ v σ1)
    (k : ∀ (H : Heap) (locs : List Loc) (sl : Array Slot), va_P D sd_cl (sd_wld E ad cA σ1) H → va_S (fun q => B0 ≤ q) s.heap H locs → sd_has ad sl (sd_m y).2.2.1 ls → W p l e R s m args below meth c H locs cells slots Q (F0 m (pc + 3) sl ((v.toList ++ st.drop (sd_m y').2.2.2.2.2.1).map (sd_cv ad)))) :
    ∀ (H : Heap) (locs : List Loc) (sl : Array Slot), va_P D sd_cl (sd_wld E ad cA σ) H → va_S (fun q => B0 ≤ q) s.heap H locs → sd_has ad sl (sd_m y).2.2.1 ls → W p l e R s m args below meth c H locs cells slots Q (F0 m pc sl (st.map (sd_cv ad))) := by
  intro H locs sl hP hS hl
  have hpre := fun av => sd_pre (av := av) K hP hS
  obtain ⟨hx, hb, hml, hown, hts, hK, hX, hnest, hAd⟩ := K
  obtain ⟨hy, hln, hkd⟩ := sd_lF hlk
  obtain ⟨f1, f2, f3, f4, f5, f6, f7⟩ := sd_mF hy
  rcases hkd with ⟨q, -⟩ | ⟨-, g1⟩ | q
  · cases q
  · have hlen : (st.take (sd_m y').2.2.2.2.2.1).length = (sd_m y').2.2.2.2.2.1 := by
      rw [List.length_take]
      omega
    have hstack : st.map (sd_cv ad) = ((st.take (sd_m y').2.2.2.2.2.1).reverse.map (sd_cv ad)).reverse ++ (st.drop (sd_m y').2.2.2.2.2.1).map (sd_cv ad) := by
      rw [← List.map_reverse, List.reverse_reverse, ← List.map_append, List.take_append_drop]
    have hroom : (sd_rm d).frames + 1 ≤ R.frames ∧ 8 + ((sd_m y').2.2.1 + 11) + (sd_rm d).locals ≤ R.locals := ⟨hf.1, by show 8 + ((sd_m y').2.2.1 + 11) + 40 * d ≤ _; omega⟩
    have hsig : ∀ sig, parseMethodDescriptor (sd_m y').1.desc = some sig → (sd_m y').2.2.2.2.2.1 = sig.parameters.length := by
      intro sig hs
      rw [hs] at f4
      exact (Option.some.inj f4).symm
    have hrun : va_Run p l e R s m args below meth c H locs cells slots 0 0 (F0 m pc sl (st.map (sd_cv ad))) ((st.drop (sd_m y').2.2.2.2.2.1).map (sd_cv ad)) (sd_Qc E ad B0 D cA v σ1 ((st.take (sd_m y').2.2.2.2.2.1).reverse.map (sd_cv ad)).toArray) (fun q => B0 ≤ q) := by
      rcases hln with ⟨-, hw⟩ | ⟨-, hw⟩
      · exact va_runS (As := (st.take (sd_m y').2.2.2.2.2.1).reverse.map (sd_cv ad)) ⟨hx, hb, hml, hown, hts⟩ hM ⟨⟨rfl, rfl, hroom.1, hroom.2, sd_words hy hts, List.mem_cons_self, hts _ f1, hts _ f2, f3, hsig, hts _ hw⟩, hts _ g1⟩ ⟨sd_blind, hpre _⟩ rfl (by rw [List.length_map, List.length_reverse]; exact hlen) hl.1.1 hstack (lv_room (by rw [sd_cv_sum]; exact hcat)) hd hf.2.2
      · exact va_runSN (As := (st.take (sd_m y').2.2.2.2.2.1).reverse.map (sd_cv ad)) ⟨hx, hb, hml, hown, hts⟩ hM ⟨⟨⟨rfl, rfl, hroom.1, hroom.2, sd_words hy hts, List.mem_cons_self⟩, hts _ f1, hts _ f2, f3, hsig, va_Nw.use rfl (hnest.1 _ hw)⟩, hts _ g1, trivial⟩ ⟨sd_blind, hpre _⟩ rfl (by rw [List.length_map, List.length_reverse]; exact hlen) hl.1.1 hstack (lv_room (by rw [sd_cv_sum]; exact hcat)) hd hf.2.2
    refine sd_goes hrun hS (fun H1 locs1 p1 p2 => ?_)
    have hk := k H1 locs1 sl p1 p2 hl
    rw [List.map_append] at hk
    cases v <;> exact hk
  · cases q
end SDC
