/-! 'throw new E(text)' in a launch without stack traces, where E's constructor hands its text on by a link of any number (the JDK's NoSuchElementException: #13) -/
def sd_xA (own : String) (ic : Nat) (X : String) (ix : Nat) (rx : ByteArray) (names : List String) : List Cond := (Bundle.ownAtomsX own ic X ix rx names).filter vx_no
section SDX
variable {p : Program} {l : Launch} {e : Env} {R : Room} {s : State} {m : MethodId} {args : Array Value} {below : List Frame} {meth : Method} {c : Code} {locs : List Loc} {cells slots : Nat}
/-- class k, of number q, has the field f in f's slot, under f's name -/
def sd_thL (s : State) (q : ClassId) (k : Class) (f : Field) : Prop := k.instanceTypes[f.slot]? = some f.type ∧ ∃ d, Jmm.declares? s.vm f.slot (q + 1) q = some d ∧ d.2.name = f.name
theorem sd_thL.ne {q : ClassId} {k : Class} {f g : Field} (hf : sd_thL s q k f) (hg : sd_thL s q k g) {x y : String} (ef : f.name = x) (eg : g.name = y) (h : y ≠ x) : g.slot ≠ f.slot := by
  obtain ⟨-, d, hd, hn⟩ := hf
  obtain ⟨-, d', hd', hn'⟩ := hg
  exact Cond.laysApart hd' hd hn' hn (by rw [ef, eg]; exact h)
/-- the word 'selects': a call of x on an object of that class runs x itself -/
theorem sd_xsel {cls : String} {q : ClassId} {x : MethodName} {f : MethodId} (ha : l.admits e) (hq : s.vm.findClass cls = some q) (hf : s.methodNamed? x = some f) (hx : x.cls ≠ "java/lang/invoke/MethodHandle" ∧ x.cls ≠ "java/lang/invoke/VarHandle") (h : (Cond.selects cls x x).before args s = true) : selectMethod e.platform s.vm q f = .method f := by
  obtain ⟨_, _, _, h1, h2, h3, h4, -⟩ := Cond.selects_spec h
  rw [hq] at h1
  rw [State.methodFound?_of_named hf hx] at h2
  rw [hf] at h3
  cases h1
  cases h2
  cases h3
  exact (Launch.admits_selectMethod ha _ _ _).trans h4
/-- Throwable's two statics, in a heap that has kept the old cells -/
theorem sd_xstat {T : ThrowableC} {Z : Init0T} {V : State} (Y : Bundle.Ties T Z s) (L : T.Links e.platform s) (kept : ∀ q : Nat, q < s.heap.size → V.heap[q]? = s.heap[q]?)
    (hU : (Cond.isRef (.static Bundle.tN "UNASSIGNED_STACK" Bundle.steD)).before args s = true) (hN : (Cond.isRef (.static Bundle.tN "SUPPRESSED_SENTINEL" Bundle.listD)).before args s = true) :
    T.aS < s.heap.size ∧ ∃ (x : Cell) (u v : RefV), V.heap[T.aS]? = some x ∧ x.vm ≠ .unknown ∧ x.slots[T.fUnassigned.slot]? = some u.v ∧ x.slots[T.fSentinel.slot]? = some v.v := by
  obtain ⟨x, hx, hi⟩ := Y.statics
  have hlt := (Array.getElem?_eq_some_iff.mp hx).1
  obtain ⟨u, hu⟩ := Cond.staticRefV Y.unassigned L.unassignedStatic L.statics hx hi hU
  obtain ⟨v, hv⟩ := Cond.staticRefV Y.sentinel L.sentinelStatic L.statics hx hi hN
  exact ⟨hlt, x, u, v, (kept _ hlt).trans hx, (fun h => by rw [h] at hi; cases hi), hu, hv⟩
/-- the three writes of Throwable's constructor leave the field backtrace as it was born: null -/
theorem sd_xskip {T : ThrowableC} {Z : Init0T} {q : ClassId} {k : Class} {a : Addr} {u v : RefV} {th : Nat} (Y : Bundle.Ties T Z s) (L : T.Links e.platform s) (hpl : e.platform.magicAccessors = ({} : Platform).magicAccessors)
    (w1 : (Cond.fieldLink Bundle.tN 198 Bundle.tN "backtrace" "Ljava/lang/Object;").before args s = true) (w2 : (Cond.lays Bundle.tN Bundle.tN "backtrace" "Ljava/lang/Object;").before args s = true)
    (lay : ∀ (c' : Nat) (k' : Class) (i : Nat) (f : Field), s.fieldFound? Bundle.tN "backtrace" "Ljava/lang/Object;" = some (c', k', i, f) → sd_thL s q k f) (hC : sd_thL s q k T.fCause) (hS : sd_thL s q k T.fStack) (hP : sd_thL s q k T.fSupp) :
    SkipFacts T e.platform s (fun z => z) u ((preparedCellV T.toThrowableT (freshCell q k) a u v).withEntry th) := by
  obtain ⟨ci, i, f, f1, f2, f3, f4, -, f6, f7, f8⟩ := Cond.ownField (t := .object "java/lang/Object") Y.found L.cls (by decide +kernel) w1 w2 e.platform hpl
  have hB := lay _ _ _ _ f8
  refine ⟨⟨ci, i, f⟩, ⟨f1, f2, f3, f4⟩, ?_, fun _ _ => rfl⟩
  show ((((freshCell q k).slots.setIfInBounds T.fCause.slot _).setIfInBounds T.fStack.slot _).setIfInBounds T.fSupp.slot _)[f.slot]? = some .null
  rw [Array.getElem?_setIfInBounds_ne (hB.ne hP f6 Y.suppName (by decide)), Array.getElem?_setIfInBounds_ne (hB.ne hS f6 Y.stackName (by decide)), Array.getElem?_setIfInBounds_ne (hB.ne hC f6 Y.causeName (by decide)), fresh_default hB.1, f7]
  rfl
/-- what the words of the chain say of its first constructor -/
theorem sd_xhead {cls : String} {ix : Nat} {rx : ByteArray} {names : List String} (h : ∀ w ∈ Bundle.chainSAtomsX cls ix rx names, w.before args s = true) : (Cond.instanceMethod (Bundle.initS cls)).before args s = true ∧ (Cond.code (Bundle.initS cls) rx 2 none).before args s = true := by
  cases names <;> exact ⟨h _ (by simp [Bundle.chainSAtomsX, Bundle.passSAtoms]), h _ (by simp [Bundle.chainSAtomsX, Bundle.passSAtoms])⟩
set_option maxHeartbeats 1000000 in
/-- from the constructor's call (text and new object, twice, on the stack) to the throw -/
theorem sd_ctorThrow {V : State} (X : Stand p l e R s m args below meth c V [] cells slots) (hexec : p.tables.exec = Jvm.exec) (htr : e.platform.stackTraces = false) {own cls : String} {names : List String} {ic ix : Nat} {rx : ByteArray}
    (hr : decode rx 0 = .ok (.aload_n 0, 1) ∧ decode rx 1 = .ok (.aload_n 1, 1) ∧ decode rx 2 = .ok (.invokespecial ix, 3) ∧ decode rx 5 = .ok (.return_, 1)) (hown : s.vm.findClass own = some m.cls) (hfit : ∀ n ∈ cls :: names, Bundle.fit n = true)
    (h : ∀ w ∈ Bundle.ownAtomsX own ic cls ix rx names, w.before args s = true) {q : ClassId} {k : Class} (hq : s.vm.findClass cls = some q) (hk : s.vm.classes[q]? = some k) {a t : Addr} (born : V.heap[a]? = some (freshCell q k)) (young : s.heap.size ≤ a)
    {pc : Nat} {ls : Array Slot} {rest : List Value} (hls : ls.size = c.maxLocals) (d1 : decode c.code pc = .ok (.invokespecial ic, 3)) (d2 : decode c.code (pc + 3) = .ok (.athrow, 1)) (hout : ∀ x ∈ c.exceptionTable.toList, covers x (pc + 3) = false)
    (r1 : names.length + 3 < R.frames) (r2 : (rest.map fun v => v.category).sum + (13 * (names.length + 1) + 43) ≤ R.locals) (hlocks : meth.locks = false) :
    ∃ U : State, Steps p.tables e below (V.setTop (F0 m pc ls (.ref t :: .ref a :: .ref a :: rest))) U ∧ U.status = .running ∧ Ended U below (.threw a) ∧ s.WarmedH U.vm ∧ s.sameButNew ({ U with vm := s.vm } : State) [] cells slots ∧ ∃ x : Cell, U.heap[a]? = some x ∧ x.vm = .none ∧ x.cls = q := by
  have o1 : e.platform.frameOwnsMonitors = true := by rw [X.admits.platform]
  have o2 : e.platform.finalization = false := by rw [X.admits.platform]
  have o3 : e.platform.magicAccessors = ({} : Platform).magicAccessors := by rw [X.admits.platform]
  have wT : ∀ w ∈ Bundle.throwableAtoms, w.before args s = true := fun w hw => h w (List.mem_append_left _ (List.mem_append_left _ (List.mem_append_left _ hw)))
  have wS : ∀ w ∈ Bundle.throwableSAtoms, w.before args s = true := fun w hw => h w (List.mem_append_left _ (List.mem_append_left _ (List.mem_append_right _ hw)))
  have wC : ∀ w ∈ Bundle.chainSAtomsX cls ix rx names, w.before args s = true := fun w hw => h w (List.mem_append_left _ (List.mem_append_right _ hw))
  obtain ⟨T, _, L, -, Y⟩ := ThrowableC.of_atoms o1 o2 o3 wT
  obtain ⟨Z, M, LZ, LM, top⟩ := Init0T.ofS_atoms o3 L Y wS
  obtain ⟨P, Ps, len, LP, LPs, first, sup, on⟩ := Bundle.chainSX o3 top hr.1 hr.2.1 hr.2.2.1 hr.2.2.2 names cls (hfit _ List.mem_cons_self) (fun n hn => hfit n (List.mem_cons_of_mem _ hn)) wC
  have ord : k.kind = .ordinary := by
    obtain ⟨_, _, e1, e2, e3, -⟩ := Cond.instantiable_spec (h (.instantiable cls 6) (List.mem_append_right _ (by simp)))
    rw [hq] at e1
    cases e1
    rw [hk] at e2
    cases e2
    exact e3
  have lay : ∀ {n d : String} {c' : Nat} {k' : Class} {i : Nat} {f : Field}, s.fieldFound? Bundle.tN n d = some (c', k', i, f) → (Cond.lays cls Bundle.tN n d).before args s = true → sd_thL s q k f := fun hf hw => Cond.laysAt hq hk hf hw
  have yC := lay Y.cause (h _ (List.mem_append_right _ (by simp)))
  have yS := lay Y.stack (h _ (List.mem_append_right _ (by simp)))
  have yP := lay Y.supp (h _ (List.mem_append_right _ (by simp)))
  obtain ⟨_, foundM⟩ := Y.msg
  have yM := lay foundM (h _ (List.mem_append_right _ (by simp)))
  obtain ⟨old, x, u, v, hx, known, hu, hv⟩ := sd_xstat Y L (fun z hz => (vx_frame X.same).2 z hz (fun _ no => nomatch no)) (h _ (List.mem_append_right _ (by simp))) (h _ (List.mem_append_right _ (by simp)))
  obtain ⟨_, _, _, _, vm1, called, -, -, -, -, -, -, -, warm, go⟩ := Steps.initColdS X.here hexec X.warmed o3 hown (t := Bundle.initS cls) rfl rfl (Bundle.fit_spec (hfit _ List.mem_cons_self)).2 (h (.methodLink own ic (Bundle.initS cls)) (List.mem_append_right _ (by simp))) (sd_xhead wC).1 (sd_xhead wC).2 (f := F0 m pc ls (.ref t :: .ref a :: .ref a :: rest)) rfl rfl d1
  cases Option.some.inj (called.symm.trans first)
  obtain ⟨vm2, X2, back⟩ := (X.noted warm).ctorMessageOffV hexec (g := F0 m pc ls (.ref a :: rest)) rfl hls T L Z LZ M LM (P :: Ps) (List.forall_mem_cons.mpr ⟨LP, LPs⟩) ⟨sup, on⟩ (u0 := u) (sen := v) (self := a) (msg := .ref t) rfl (cell := freshCell q k) (cellS := x)
    born (fun _ no => nomatch no) (fun no => nomatch no) rfl rfl (sd_xsel X.admits hq Y.fill0 (by decide) (h _ (List.mem_append_right _ (by simp)))) (sd_xsel X.admits hq Y.fill (by decide) (h _ (List.mem_append_right _ (by simp)))) hx (Nat.ne_of_lt (Nat.lt_of_lt_of_le old young)) known hu hv
    (Takes.of_laid hk ord yC.1 (by rw [Y.causeType]; rfl)) (Takes.of_laid hk ord yS.1 (by rw [Y.stackType]; exact fits_refV_array _ u)) (Takes.of_laid hk ord yP.1 (by rw [Y.suppType]; exact fits_refV_object _ v)) (Takes.of_laid hk ord yM.1 (by rw [Y.msgType]; rfl)) Y.objLocals
    (sd_xskip Y L o3 (h _ (List.mem_append_right _ (by simp))) (h _ (List.mem_append_right _ (by simp))) (fun _ _ _ _ hf => lay hf (h _ (List.mem_append_right _ (by simp)))) yC yS yP) htr [] d1
    (by show Ps.length + 1 + 2 < R.frames; omega) (by show 2 * 0 + (1 + (rest.map fun v => v.category).sum) + (13 * (Ps.length + 1) + 42) ≤ R.locals; omega)
  obtain ⟨walk, run, ended, warm2, same⟩ := X2.athrowLeaves hexec (g := F0 m (pc + 3) ls (.ref a :: rest)) rfl rfl rfl hout rfl d2 hlocks
  refine ⟨_, go _ fun acts => ?_, run, ended, warm2, same.weaken (fun z hz no => ?_) (Nat.le_refl _) (Nat.le_refl _), _, heapAt_setCell_self _ (Array.getElem?_eq_some_iff.mp born).1, rfl, rfl⟩
  · rw [doInvoke_state]
    exact back _ walk
  · have hb : z.base = a := by
      simp only [List.nil_append, List.mem_cons, List.not_mem_nil, or_false] at hz
      rcases hz with h1 | h1 | h1 | h1 | h1 <;> rw [h1]
    rw [hb] at no
    exact absurd no (Nat.not_lt.mpr young)

theorem sd_throwS {H : Heap} {ls : Array Slot} {rest : List Value} {free : Addr → Prop} {Qc : Array Value → State → Outcome → State → Prop} {XC : String → State → State → Prop} {cc : ByteArray} {pc : Nat} (hexec : p.tables.exec = Jvm.exec) (hb : c.code = cc) (hl : l.stackTraces = false) {own cls text : String} {names : List String} {ik is ic mc ms sa ix : Nat} {rx : ByteArray} (x0 : decode rx 0 = .ok (.aload_n 0, 1)) (x1 : decode rx 1 = .ok (.aload_n 1, 1)) (x2 : decode rx 2 = .ok (.invokespecial ix, 3)) (x5 : decode rx 5 = .ok (.return_, 1)) {A : Nat → Prop}
    (hown : s.vm.findClass own = some m.cls) (hcls : Bundle.fit cls = true) (hnames : ∀ n ∈ names, Bundle.fit n = true)
    (hk : (Cond.classLink own ik cls).before args s = true) (hini : (Cond.initialized cls).before args s = true) (hstr : vk_R own is text sa s) (hat : ∀ w ∈ sd_xA own ic cls ix rx names, w.before args s = true)
    (hgood : ∀ w ∈ Cond.classLink own ik cls :: Cond.initialized cls :: sd_xA own ic cls ix rx names, vx_ot w = true)
    (hU : vx_Zq Bundle.tN "UNASSIGNED_STACK" Bundle.steD A s s.heap) (hN : vx_Zq Bundle.tN "SUPPRESSED_SENTINEL" Bundle.listD A s s.heap) (hS : va_S A s.heap H locs) (hsize : ls.size = c.maxLocals)
    (d0 : decode cc pc = .ok (.new ik, 3)) (d3 : decode cc (pc + 3) = .ok (.dup, 1)) (d4 : decode cc (pc + 4) = .ok (.ldc is, 2)) (d6 : decode cc (pc + 6) = .ok (.invokespecial ic, 3)) (d9 : decode cc (pc + 9) = .ok (.athrow, 1))
    (hout : ∀ x ∈ c.exceptionTable.toList, covers x (pc + 9) = false)
    (hRframes : names.length + 3 < R.frames) (hRlocals : (rest.map fun v => v.category).sum + (13 * (names.length + 1) + 43) ≤ R.locals) (hRcells : cells + 1 ≤ R.cells) (hRslots : slots + 6 ≤ R.slots) (hlocks : meth.locks = false)
    (hx : ∀ t : State, s.vm.Alike t.vm → H.size ≤ t.heap.size → (∀ q : Nat, q < H.size → t.heap[q]? = H[q]?) → XC cls s t)
    (hf : ∀ z ∈ locs, free z.base) (hc : cells + 1 ≤ mc) (hs : slots + 6 ≤ ms) :
    W p l e R s m args below meth c H locs cells slots (vx_MQ below Qc XC args s mc ms free) (F0 m pc ls rest) := by
  intro T hT X
  have htr : e.platform.stackTraces = false := (show e.platform.stackTraces = l.stackTraces by rw [X.admits.platform]).trans hl
  have Y := vx_rebase X (R' := { frames := R.frames, locals := R.locals, cells := 1, slots := 6 }) (Nat.le_refl _) (Nat.le_refl _) hRcells hRslots
  obtain ⟨s', hA⟩ : ∃ z, z = (T.setVm s.vm).setFrames (.invoking m args :: below) := ⟨_, rfl⟩
  rw [← hA] at Y
  have hvm : s'.vm = s.vm := by rw [hA]; rfl
  have hhp : s'.heap = H := by rw [hA]; exact hT
  have hW0 : s.WarmedH s'.vm := by rw [hvm]; exact State.WarmedH.refl s
  have hat' : ∀ w ∈ sd_xA own ic cls ix rx names, w.before args s' = true := fun w hw => vx_ot_at hW0 hvm.symm (hgood w (List.mem_cons_of_mem _ (List.mem_cons_of_mem _ hw))) (hat w hw)
  have hk' : (Cond.classLink own ik cls).before args s' = true := vx_ot_at hW0 hvm.symm (hgood _ List.mem_cons_self) hk
  have hini' : (Cond.initialized cls).before args s' = true := vx_ot_at hW0 hvm.symm (hgood _ (List.mem_cons_of_mem _ List.mem_cons_self)) hini
  have hU' : vx_Zq Bundle.tN "UNASSIGNED_STACK" Bundle.steD A s' s'.heap := by rw [hhp]; exact vx_Zq.moved hW0.alike (hU.kept hS.2.1)
  have hN' : vx_Zq Bundle.tN "SUPPRESSED_SENTINEL" Bundle.listD A s' s'.heap := by rw [hhp]; exact vx_Zq.moved hW0.alike (hN.kept hS.2.1)
  have h : ∀ w ∈ Bundle.ownAtomsX own ic cls ix rx names, w.before args s' = true := vx_own hat' (vx_isRefq hU'.1) (vx_isRefq hN'.1) hU'.2.word hN'.2.word
  have hown' : s'.vm.findClass own = some m.cls := by rw [hvm]; exact hown
  have hins : (Cond.instantiable cls 6).before args s' = true := h _ (List.mem_append_right _ (by simp))
  obtain ⟨vm₁, cX, kX, hfX, hkX, -, -, X₁, st1⟩ := Y.newCold hexec (own := own) (C := cls) (index := ik) (n := 6) hown' hk' hins hini'
    (g := F0 m pc ls rest) rfl (by rw [hb]; exact d0) (Nat.le_refl _) (Nat.le_refl _)
  generalize hT1 : (T.setVm vm₁).pushCell { cls := cX, slots := kX.instanceTypes.map defaultValue, vm := .none } = T1 at X₁ st1
  have hcellA : T1.heap[T.heap.size]? = some (freshCell cX kX) := by rw [← hT1]; exact State.heap_pushCell_size _ _
  have d3' : decode c.code (pc + 3) = .ok (.dup, 1) := by rw [hb]; exact d3
  have d4' : decode c.code (pc + 4) = .ok (.ldc is, 2) := by rw [hb]; exact d4
  have hstr' : vk_R own is text sa s' := vk_R.warm hW0 hstr
  obtain ⟨U, hsteps, hrun, hend, hW, hsame, ce, hce, hO1, hO2⟩ := sd_ctorThrow X₁ hexec htr ⟨x0, x1, x2, x5⟩ hown' (List.forall_mem_cons.mpr ⟨hcls, hnames⟩) h hfX hkX hcellA (by rw [hhp, hT]; exact Nat.le_refl _) (t := sa) hsize (by rw [hb]; exact d6) (by rw [hb]; exact d9) hout hRframes hRlocals hlocks
  obtain ⟨f1, f2⟩ := vx_frame hsame
  rw [hhp] at f1 f2
  have hWs : s.WarmedH U.vm := State.WarmedH.trans hW0 hW
  have hcl : s.vm.findClass cls = some ce.cls := by
    rw [hO2, ← hvm]
    exact hfX
  have hall : s.sameButNew ({ U with vm := s.vm } : State) locs mc ms := by
    subst hA
    obtain ⟨e1, e2⟩ := hsame
    rw [State.setFrames_setFrames] at e1
    have h2 : (T.setVm s.vm).sameButNew ({ U with vm := s.vm } : State) [] (0 + 1) (0 + 6) := ⟨e1, e2⟩
    have h3 := X.same.trans h2
    rw [List.append_nil] at h3
    exact h3.mono hc hs
  refine ⟨U, ?_, .threw T.heap.size, hrun, hend, Or.inr ⟨T.heap.size, rfl, cls, ce, locs, hx U hWs.alike f1 (fun q hq => f2 q hq (fun z hz => nomatch hz)), hce, hO1, hcl, hWs, hall, hf⟩⟩
  refine st1 _ ?_
  show Steps p.tables e below (T1.setTop { method := m, pc := pc + 3, locals := ls, stack := .ref T.heap.size :: rest, locked := none }) _
  jvm_step X₁.here [X₁.here.top, hexec, d3', Value.category]
  exact X₁.ldcString hexec (own := own) (text := text) (index := is) (a := sa) hown' hstr'.1 hstr'.2
    (g := { method := m, pc := pc + 4, locals := ls, stack := .ref T.heap.size :: .ref T.heap.size :: rest, locked := none }) rfl d4' _ hsteps

end SDX
