/-! THE CLAIM OUT OF ONE WALK OF THE LAW'S BODY. Your part is whole_start (and what it stands on); all else here is the same for every law, but numbers. -/
def R_law : String := "SwornDaysLaw"
def lw_P (b : Addr) (xs : List Int32) (args : Array Value) (s : State) : Prop := args = #[.ref b] ∧ s.IntsAt b xs ∧ xs.length ≤ 3072 ∧ (Jvm.Cond.and given_1 narrow_1).before args s = true
def lw_Q (_ : Array Value) (s : State) (o : Outcome) (t : State) : Prop := o = .returned (some (.int 1)) ∧ Framed s o t [] 601024 7293034
def lw_Z (below : List Frame) (a : Array Value) (s : State) : State → Prop := fun t => ∃ o, t.status = .running ∧ Ended t below o ∧ lw_Q a s o t
/-- the law's own end, with 1 on the stack, nothing written that was there before, its room as the claim has it -/
theorem lw_ret {p : Program} {l : Launch} {e : Env} {s : State} {m : MethodId} {below : List Frame} {meth : Method} {c : Code} {b : Nat} (hx : p.tables.exec = Jvm.exec) (hb : c.code = code) (hr : meth.sig.returnType = ret) (hlocks : meth.locks = false) {pc : Nat} {H : Heap} {ls : Array Slot} (hdg : decode code pc = .ok (.ireturn, 1)) : W p l e room_1 s m #[Value.ref b] below meth c H [] 601024 7293034 (lw_Z below #[Value.ref b] s) (F0 m pc ls [.int 1]) := by
  intro T hT X
  obtain ⟨fs, hret, hrun, hended, hW, hframe⟩ := X.leave (v := some (.int 1)) (hlocks := hlocks) (fun h => by rw [hr] at h; cases h)
  have hmeth' : T.vm.method? m = some meth := X.method'
  refine ⟨T.setFrames fs, ?_, .returned (some (.int 1)), hrun, hended, rfl, ⟨_, rfl⟩, hW, hframe⟩
  jvm_step X.here [X.here.top, hx, hb, hdg, hmeth', hr, ret, narrow_b1]
  (try refine ⟨rfl, ?_⟩); (try refine ⟨rfl, ?_⟩)
  first | (intro acts; rw [hret _ acts rfl rfl rfl]) | rw [hret _ _ rfl rfl rfl]
  exact Steps.refl _
theorem sd_m297 : sd_m 297 = sd_law := by
  unfold sd_m
  rw [List.getD_eq_getElem?_getD, List.getElem?_eq_none (Nat.le_of_eq sd_ms_len)]
  rfl
/-- the law's frame: calls by C, its person by sd_PX; k: how many calls of person are left -/
def sd_lrun (E : sd_E) (C : Nat → List Value → sd_Mem → Option Value → sd_Mem → Prop) (d y : Nat) : Nat → Nat → List Value → List Value → sd_Mem → Nat → Option Value → sd_Mem → Prop
  | 0, _, _, _, _, _, _, _ => False
  | n + 1, pc, ls, st, σ, k, r, σ' => match sd_step E y pc ls st σ with
    | none => pc = 402 ∧ ∃ (k' : Nat) (p0 p1 : Int32) (rp : Option (Option Value)) (σ1 : sd_Mem), k = k' + 1 ∧ st = [.ref 301, .int p1, .int p0, .ref 0] ∧ (rp = none ∨ ∃ v, rp = some (some (.int v))) ∧ sd_PX E d [.ref 0, .int p0, .int p1] σ rp σ1 ∧ sd_lrun E C d y n (pc + 3) ls [.int (sd_pv rp)] (sd_pσ 301 rp σ1) k' r σ'
    | some (.inl z) => sd_lrun E C d y n z.1 z.2.1 z.2.2.1 z.2.2.2 k r σ'
    | some (.inr (.inl q)) => ∃ v σ1, C q.1 q.2.1 σ v σ1 ∧ sd_lrun E C d y n (pc + 3) ls (v.toList ++ q.2.2) σ1 k r σ'
    | some (.inr (.inr v)) => v = r ∧ σ = σ'
section SDLF
variable {p : Program} {l : Launch} {e : Env} {R : Room} {s : State} {m : MethodId} {args : Array Value} {below : List Frame} {meth : Method} {c : Code} {cells slots : Nat} {Q : State → Prop}
variable {E : sd_E} {ad : Nat → Nat} {B0 : Nat} {D : va_G} {cA : Nat → ClassId} {y : Nat} {pc : Nat} {ls st : List Value} {σ : sd_Mem}
theorem sd_goesK {v : Option Value} {σ1 : sd_Mem} {mc ms : Nat} {a : Array Value} {sl : Array Slot} {st0 rest : List Value} {H : Heap} {locs : List Loc}
    (hr : va_Run p l e R s m args below meth c H locs cells slots mc ms (F0 m pc sl st0) rest (sd_Qc E ad B0 D cA v σ1 a) (fun q => B0 ≤ q)) (hS : va_S (fun q => B0 ≤ q) s.heap H locs)
    (kk : ∀ (H1 : Heap) (locs1 : List Loc), va_P D sd_cl (sd_wld E ad cA σ1) H1 → va_S (fun q => B0 ≤ q) s.heap H1 locs1 → W p l e R s m args below meth c H1 locs1 (cells + mc) (slots + ms) Q (F0 m (pc + 3) sl ((v.map (sd_cv ad)).toList ++ rest))) :
    W p l e R s m args below meth c H locs cells slots Q (F0 m pc sl st0) := by
  refine sd_goesA (G := fun o H1 => o = v.map (sd_cv ad) ∧ va_P D sd_cl (sd_wld E ad cA σ1) H1) hr hS (fun _ _ _ h => ?_) (fun _ H1 locs1 g s1 => ?_)
  · obtain ⟨h1, ⟨h2, -⟩, h3⟩ := h
    cases h1
    exact ⟨⟨rfl, h2⟩, h3⟩
  · obtain ⟨rfl, g⟩ := g
    exact kk H1 locs1 g s1
theorem sd_lperson {d : Nat} {p0 p1 : Int32} {rp : Option (Option Value)} {σ1 : sd_Mem} (hy : sd_m y = sd_law) (K : sd_Ctx p s m args c E ad B0 D cA y) (hX : sd_Xx B0 s s.heap) (hl : l.stackTraces = false) (hf : d + 3 ≤ R.frames ∧ 40 * (d + 3) ≤ R.locals ∧ cells + 1 ≤ R.cells ∧ slots + 6 ≤ R.slots) (hd : 6 ≤ d)
    (hr : rp = none ∨ ∃ v, rp = some (some (.int v))) (h : sd_PX E d [.ref 0, .int p0, .int p1] σ rp σ1)
    (k : ∀ (H : Heap) (locs : List Loc) (sl : Array Slot), va_P D sd_cl (sd_wld E ad cA (sd_pσ 301 rp σ1)) H → va_S (fun q => B0 ≤ q) s.heap H locs → sd_has ad sl (sd_m y).2.2.1 ls → W p l e R s m args below meth c H locs (cells + 1) (slots + 6) Q (F0 m 405 sl [.int (sd_pv rp)])) :
    ∀ (H : Heap) (locs : List Loc) (sl : Array Slot), va_P D sd_cl (sd_wld E ad cA σ) H → va_S (fun q => B0 ≤ q) s.heap H locs → sd_has ad sl (sd_m y).2.2.1 ls → W p l e R s m args below meth c H locs cells slots Q (F0 m 402 sl ([Value.ref 301, .int p1, .int p0, .ref 0].map (sd_cv ad))) := by
  intro H locs sl hP hS hl9
  have hM := sd_personL (l := l) (D := D) (cA := cA) K.2.2.2.2.2.2.2.2 hl hd (a := 0) (o := 301) (no := 1) (by decide +kernel) (by decide +kernel) (by decide) hr h
  have hpre : ∀ U : State, U.heap = H → s.WarmedH U.vm → va_Pc ([Value.ref 0, .int p0, .int p1, .ref 301].map (sd_cv ad)) (sd_PreX E ad B0 D cA σ) ([Value.ref 0, .int p0, .int p1, .ref 301].map (sd_cv ad)).toArray U := fun U hU hW =>
    ⟨rfl, (sd_pre (av := [Value.ref 0, .int p0, .int p1, .ref 301]) K hP hS U hU hW).2, sd_Xx_kept hW (fun q h1 h2 => by rw [hU]; exact hS.2.1 q h1 h2) hX⟩
  obtain ⟨hx, hb, hml, hown, hts, hK, hX0, hnest, hAd⟩ := K
  rw [hy] at hb hml hown hl9
  have hrun := vx_runSW (p := p) (e := e) (R := R) (below := below) (meth := meth) (H := H) (locs := locs) (cells := cells) (slots := slots) (cc := code) (nL := 7) (bytes := method_3_code) (maxL := 5) (ret := some .int) (hh := [(0, 10, 13, 13)]) (n := 4) (own := "SwornDaysLaw") (index := 38) (As := [.ref (ad 0), .int p0, .int p1, .ref (ad 301)]) (rest := []) (g := F0 m 402 sl [.ref (ad 301), .int p1, .int p0, .ref (ad 0)]) (Ts := sd_tbl)
    ⟨hx, hb, hml, hown, hts⟩ hM ⟨⟨rfl, rfl, hf.1, by show 8 + (5 + 11) + 40 * (d + 1 + 1) ≤ _; omega, sd_wordsP hts, List.mem_cons_self⟩, hts _ sd_xw, hts _ sd_xL, ⟨by decide, by decide⟩, fun sig hs => by
      have h9 : (parseMethodDescriptor sd_nmP.desc).map (fun d => d.parameters.length) = some 4 := by decide +kernel
      rw [hs] at h9
      exact (Option.some.inj h9).symm, hts _ sd_xp, hts _ sd_xs⟩ ⟨sd_blindX, hpre⟩ rfl rfl hl9.1.1 rfl (show 2 * 0 + 0 ≤ 8 by decide) (show decode code 402 = .ok (.invokestatic 38, 3) by decide +kernel) hf.2.2
  refine sd_goesK hrun hS (fun H1 locs1 q1 q2 => ?_)
  exact k H1 locs1 sl q1 q2 (by rw [hy]; exact hl9)
theorem sd_lframe {d : Nat} {r : Option Value} {σ' : sd_Mem} (hy : sd_m y = sd_law) (K : sd_Ctx p s m args c E ad B0 D cA y) (hX : sd_Xx B0 s s.heap) (hl : l.stackTraces = false) (hf : d + 3 ≤ R.frames ∧ 40 * (d + 3) ≤ R.locals) (hd : 6 ≤ d)
    (hret : ∀ (pc : Nat) (ls st : List Value), sd_step E y pc ls st σ' = some (.inr (.inr r)) → ∀ (H : Heap) (locs : List Loc) (sl : Array Slot) (cells slots : Nat), cells ≤ R.cells → slots ≤ R.slots → va_P D sd_cl (sd_wld E ad cA σ') H → va_S (fun q => B0 ≤ q) s.heap H locs → W p l e R s m args below meth c H locs cells slots Q (F0 m pc sl (st.map (sd_cv ad)))) :
    ∀ (n pc : Nat) (ls st : List Value) (σ : sd_Mem) (k cells slots : Nat), sd_lrun E (sd_C' E d) d y n pc ls st σ k r σ' → cells + k ≤ R.cells → slots + 6 * k ≤ R.slots → ∀ (H : Heap) (locs : List Loc) (sl : Array Slot), va_P D sd_cl (sd_wld E ad cA σ) H → va_S (fun q => B0 ≤ q) s.heap H locs → sd_has ad sl (sd_m y).2.2.1 ls → W p l e R s m args below meth c H locs cells slots Q (F0 m pc sl (st.map (sd_cv ad)))
  | 0, _, _, _, _, _, _, _, h => by cases h
  | n + 1, pc, ls, st, σ, k, cells, slots, h => by
    intro hc hs0
    have ih := sd_lframe (d := d) hy K hX hl hf hd hret n
    unfold sd_lrun at h
    cases hs : sd_step E y pc ls st σ with
    | none =>
      rw [hs] at h
      obtain ⟨rfl, k', p0, p1, rp, σ1, rfl, rfl, hr, hp, h⟩ := h
      exact sd_lperson hy K hX hl ⟨hf.1, hf.2, by omega, by omega⟩ hd hr hp (ih 405 ls [.int (sd_pv rp)] (sd_pσ 301 rp σ1) k' (cells + 1) (slots + 6) h (by omega) (by omega))
    | some z =>
      rw [hs] at h
      rcases z with ⟨pc2, ls2, st2, σ2⟩ | ⟨y', av, rest⟩ | v
      · exact sd_next K ⟨by omega, by omega, by omega, by omega⟩ hs (ih _ _ _ _ k _ _ h hc hs0)
      · obtain ⟨v, σ1, hc1, h⟩ := h
        exact sd_callW (d := d) K ⟨by omega, by omega, by omega, by omega⟩ hs (sd_all K.2.2.2.2.2.2.2.2 d _ _ _ _ _ hc1) (ih _ _ _ _ k _ _ h hc hs0)
      · obtain ⟨rfl, rfl⟩ := h
        intro H locs sl hP hS _
        exact hret pc ls st hs H locs sl cells slots (by omega) (by omega) hP hS
end SDLF
