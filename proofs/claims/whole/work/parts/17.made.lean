/-! whole constructors: frames, contracts -/
theorem sd_cins_mono {o : Nat} {ini : Bool} {i : Instr} {len pc : Nat} {ls st : List Value} {σ : sd_Mem} {n kc ks : Nat} {z : sd_cS} (h : sd_cins o ini i len pc ls st σ n kc ks = some (.inl z)) : kc ≤ z.2.2.2.2.2.1 ∧ ks ≤ z.2.2.2.2.2.2 := by
  unfold sd_cins at h
  split at h
  all_goals first
    | (cases h; done)
    | (have h9 := (sd_cL_ok h).2
       clear h
       repeat' split at h9
       all_goals first
         | (cases h9; done)
         | (cases h9; exact ⟨by dsimp only; omega, by dsimp only; omega⟩))
theorem sd_cstep_mono {y pc : Nat} {ls st : List Value} {σ : sd_Mem} {n kc ks : Nat} {z : sd_cS} (h : sd_cstep y pc ls st σ n kc ks = some (.inl z)) : kc ≤ z.2.2.2.2.2.1 ∧ ks ≤ z.2.2.2.2.2.2 := by
  unfold sd_cstep at h
  split at h
  · exact sd_cins_mono h
  · cases h
theorem sd_cev_mono : ∀ (f d y pc : Nat) (ls st : List Value) (σ : sd_Mem) (n kc ks : Nat) (r : sd_Mem × Nat × Nat × Nat), sd_cev f d y pc ls st σ n kc ks = some r → kc ≤ r.2.2.1 ∧ ks ≤ r.2.2.2
  | 0, _, _, _, _, _, _, _, _, _, _, h => by cases h
  | f + 1, d, y, pc, ls, st, σ, n, kc, ks, r, h => by
    unfold sd_cev at h
    split at h
    · cases h
    · rename_i z hz
      have h1 := sd_cstep_mono hz
      have h2 := sd_cev_mono f _ _ _ _ _ _ _ _ _ _ h
      omega
    · rename_i q hq
      split at h
      · cases h
      · split at h
        · split at h
          · have h2 := sd_cev_mono f _ _ _ _ _ _ _ _ _ _ h
            omega
          · cases h
        · cases h
    · cases h
      exact ⟨Nat.le_refl _, Nat.le_refl _⟩
theorem sd_lF2 {o i y n z : Nat} (h : sd_lk o i = some (y, 2, n, z)) : y < 297 ∧ ((n = 0 ∧ Cond.methodLink (sd_R o) i (sd_m y).1 ∈ sd_tbl) ∨ (n = 1 ∧ Cond.methodLinkNest (sd_R o) i (sd_m y).1 "SwornDays" ∈ sd_nest)) ∧
    Cond.instanceMethod (sd_m y).1 ∈ sd_tbl ∧ (sd_m y).1.name = "<init>" ∧ (sd_m y).2.2.2.1 = none := by
  unfold sd_lk at h
  split at h
  · rename_i hi
    have h1 := sd_lok _ (sd_findM h)
    unfold sd_lchk at h1
    simp only [Bool.and_eq_true, Bool.or_eq_true, decide_eq_true_eq] at h1
    rw [show (o * 65536 + i) / 65536 = o by omega, show (o * 65536 + i) % 65536 = i by omega] at h1
    obtain ⟨a1, a2, a3⟩ := h1
    refine ⟨a1, ?_, ?_⟩
    · rcases a2 with ⟨b1, b2⟩ | ⟨b1, b2⟩
      · exact Or.inl ⟨b1, sd_inT b2 rfl⟩
      · exact Or.inr ⟨b1, sd_inN b2 rfl⟩
    · rcases a3 with ⟨b1, -⟩ | ⟨b1, -⟩ | ⟨-, b2, b3, b4⟩
      · exact absurd b1 (by decide)
      · exact absurd b1 (by decide)
      · exact ⟨sd_inT b2 rfl, b3, b4⟩
  · cases h
def sd_cPre (ad : Nat → Nat) (B0 : Nat) (D : va_G) (cA : Nat → ClassId) (n : Nat) (σ : sd_Mem) (U : State) : Prop := sd_cI ad B0 D cA n σ U.heap ∧ va_K D sd_cl (sd_tys cA) U ∧ (va_AO "SwornDays$State" U ∧ sd_aoa U) ∧ sd_Nw ad U
def sd_cQ (ad : Nat → Nat) (B0 : Nat) (D : va_G) (cA : Nat → ClassId) (n : Nat) (σ : sd_Mem) : Array Value → State → Outcome → State → Prop := fun _ st oc t => oc = .returned none ∧ sd_cI ad B0 D cA n σ t.heap ∧ va_F (fun q => B0 ≤ q) st t
def sd_crm (d mc ms : Nat) : Room := { frames := d + 1, cells := mc, slots := ms, locals := 40 * (d + 1) }
def sd_cMet (l : Launch) (ad : Nat → Nat) (B0 : Nat) (D : va_G) (cA : Nat → ClassId) (d y : Nat) (av : List Value) (σ : sd_Mem) (n : Nat) (σ' : sd_Mem) (n' mc ms : Nat) : Prop :=
  Met l (sd_m y).1 (sd_wsM y) (sd_crm d mc ms) (va_Pc (av.map (sd_cv ad)) (sd_cPre ad B0 D cA n σ)) (sd_cQ ad B0 D cA n' σ') mc ms (fun q => B0 ≤ q)
theorem sd_cblind {ad : Nat → Nat} {B0 : Nat} {D : va_G} {cA : Nat → ClassId} {n : Nat} {σ : sd_Mem} {av : List Value} : FrameBlind (va_Pc av (sd_cPre ad B0 D cA n σ)) := by
  intro a U g mk q
  obtain ⟨q0, qI, qK, ⟨qA, qB⟩, qN⟩ := q
  exact ⟨q0, qI, va_K.moved (u := U) (U := U.calling g mk a) (Vm.Alike.refl U.vm) qK, ⟨va_AO.moved (u := U) (U := U.calling g mk a) (Vm.Alike.refl U.vm) qA, sd_aoa_moved (u := U) (U := U.calling g mk a) (Vm.Alike.refl U.vm) qB⟩, fun w hw => va_Nw.same (u := U) (U := U.calling g mk a) (sd_nestT w hw) rfl (qN.1 w hw), fun r hr => vk_R.same (u := U) (U := U.calling g mk a) rfl (qN.2 r hr)⟩
section SDCF
variable {p : Program} {l : Launch} {e : Env} {R : Room} {s : State} {m : MethodId} {args : Array Value} {below : List Frame} {meth : Method} {c : Code} {Q : State → Prop}
variable {ad : Nat → Nat} {B0 : Nat} {D : va_G} {cA : Nat → ClassId} {y : Nat} {pc : Nat} {ls st : List Value} {σ : sd_Mem} {n kc ks : Nat}
theorem sd_cgoes {σ1 : sd_Mem} {n1 mc ms : Nat} {a : Array Value} {sl : Array Slot} {st0 rest : List Value} {H : Heap} {locs : List Loc}
    (hr : va_Run p l e R s m args below meth c H locs kc ks mc ms (F0 m pc sl st0) rest (sd_cQ ad B0 D cA n1 σ1 a) (fun q => B0 ≤ q)) (hS : va_S (fun q => B0 ≤ q) s.heap H locs)
    (kk : ∀ (H1 : Heap) (locs1 : List Loc), sd_cI ad B0 D cA n1 σ1 H1 → va_S (fun q => B0 ≤ q) s.heap H1 locs1 → W p l e R s m args below meth c H1 locs1 (kc + mc) (ks + ms) Q (F0 m (pc + 3) sl rest)) :
    W p l e R s m args below meth c H locs kc ks Q (F0 m pc sl st0) := by
  refine sd_goesA (G := fun o H1 => o = none ∧ sd_cI ad B0 D cA n1 σ1 H1) hr hS (fun _ _ _ h => ?_) (fun _ H1 locs1 g s1 => ?_)
  · obtain ⟨h1, h2, h3⟩ := h
    cases h1
    exact ⟨⟨rfl, h2⟩, h3⟩
  · obtain ⟨rfl, g⟩ := g
    exact kk H1 locs1 g s1
theorem sd_cpre {H : Heap} {av : List Value} (K : sd_cCtx p s m args meth c ad B0 D cA y) (hI : sd_cI ad B0 D cA n σ H) : ∀ U : State, U.heap = H → s.WarmedH U.vm → va_Pc (av.map (sd_cv ad)) (sd_cPre ad B0 D cA n σ) (av.map (sd_cv ad)).toArray U := by
  obtain ⟨hx, hb, hml, hown, hts, hK, hao, hN, hAd, hnm, hB⟩ := K
  intro U hU hW
  exact ⟨rfl, by rw [hU]; exact hI, va_K.moved hW.alike hK, ⟨va_AO.moved hW.alike hao.1, sd_aoa_moved hW.alike hao.2⟩, sd_nestW hW hN⟩
theorem sd_ccall {y' : Nat} {av rest : List Value} {σ1 : sd_Mem} {n1 mc ms d : Nat} (K : sd_cCtx p s m args meth c ad B0 D cA y) (hf : d + 2 ≤ R.frames ∧ 40 * (d + 2) ≤ R.locals ∧ kc + mc ≤ R.cells ∧ ks + ms ≤ R.slots)
    (h : sd_cstep y pc ls st σ n kc ks = some (.inr (.inl (y', av, rest)))) (hM : y' < 297 → (sd_m y').2.2.2.1 = none → sd_cMet l ad B0 D cA d y' av σ n σ1 n1 mc ms)
    (k : ∀ (H : Heap) (locs : List Loc) (sl : Array Slot), sd_cI ad B0 D cA n1 σ1 H → va_S (fun q => B0 ≤ q) s.heap H locs → sd_has ad sl (sd_m y).2.2.1 ls → W p l e R s m args below meth c H locs (kc + mc) (ks + ms) Q (F0 m (pc + 3) sl (rest.map (sd_cv ad)))) :
    ∀ (H : Heap) (locs : List Loc) (sl : Array Slot), sd_cI ad B0 D cA n σ H → va_S (fun q => B0 ≤ q) s.heap H locs → sd_has ad sl (sd_m y).2.2.1 ls → W p l e R s m args below meth c H locs kc ks Q (F0 m pc sl (st.map (sd_cv ad))) := by
  intro H locs sl hI hS hl
  have hpre := fun av => sd_cpre (av := av) K hI
  obtain ⟨hx, hb, hml, hown, hts, hK, hao, hnest, hAd, hnm, hB⟩ := K
  unfold sd_cstep at h
  cases hd : decode (sd_m y).2.1 pc with
  | error z => rw [hd] at h; cases h
  | ok q =>
    obtain ⟨i, len⟩ := q
    rw [hd] at h
    replace h : sd_cins (sd_m y).2.2.2.2.1 (decide ((sd_m y).1.name = "<init>")) i len pc ls st σ n kc ks = some (.inr (.inl (y', av, rest))) := h
    have hi : ∃ v, i = .invokespecial v := by
      unfold sd_cins at h
      split at h
      all_goals first
        | exact ⟨_, rfl⟩
        | (cases h; done)
        | (exfalso
           have h9 := (sd_cL_ok h).2
           clear h
           repeat' split at h9
           all_goals (cases h9; done))
    obtain ⟨v, rfl⟩ := hi
    have h9 := sd_cL_ok (r := _) h
    clear h
    obtain ⟨rfl, h⟩ := h9
    split at h
    · repeat' split at h
      all_goals cases h
    · split at h
      · rename_i y2 w hlk
        split at h
        · rename_i a r hst
          split at h
          · rename_i hcat
            cases h
            obtain ⟨hy, hln, g1, g2, g3⟩ := sd_lF2 hlk
            have hM := hM hy g3
            obtain ⟨f1, f2, f3, f4, f5, f6, f7⟩ := sd_mF hy
            have hlen : (st.take (sd_m y').2.2.2.2.2.1).length = (sd_m y').2.2.2.2.2.1 := by
              have h1 := congrArg List.length hst
              rw [List.length_drop, List.length_cons] at h1
              rw [List.length_take]
              omega
            have hstack : st.map (sd_cv ad) = ((st.take (sd_m y').2.2.2.2.2.1).reverse.map (sd_cv ad)).reverse ++ .ref (ad a) :: rest.map (sd_cv ad) := by
              rw [← List.map_reverse, List.reverse_reverse]
              have e1 : st = st.take (sd_m y').2.2.2.2.2.1 ++ (.ref a :: rest) := by rw [← hst, List.take_append_drop]
              have e2 := congrArg (List.map (sd_cv ad)) e1
              rw [List.map_append] at e2
              exact e2
            have hroom : (sd_crm d mc ms).frames + 1 ≤ R.frames ∧ 8 + ((sd_m y').2.2.1 + 11) + (sd_crm d mc ms).locals ≤ R.locals := ⟨hf.1, by show 8 + ((sd_m y').2.2.1 + 11) + 40 * (d + 1) ≤ _; omega⟩
            have hsig : ∀ sig, parseMethodDescriptor (sd_m y').1.desc = some sig → (sd_m y').2.2.2.2.2.1 = sig.parameters.length := by
              intro sig hs
              rw [hs] at f4
              exact (Option.some.inj f4).symm
            rw [g3] at f1
            have hws : Cond.code (sd_m y').1 (sd_m y').2.1 (sd_m y').2.2.1 none ∈ sd_wsM y' := by
              unfold sd_wsM
              rw [g3]
              exact List.mem_cons_self
            have hrun : va_Run p l e R s m args below meth c H locs kc ks mc ms (F0 m pc sl (st.map (sd_cv ad))) (rest.map (sd_cv ad)) (sd_cQ ad B0 D cA n1 σ1 (Value.ref (ad a) :: (st.take (sd_m y').2.2.2.2.2.1).reverse.map (sd_cv ad)).toArray) (fun q => B0 ≤ q) := by
              rcases hln with ⟨-, hw⟩ | ⟨-, hw⟩
              · exact va_runI (As := (st.take (sd_m y').2.2.2.2.2.1).reverse.map (sd_cv ad)) ⟨hx, hb, hml, hown, hts⟩ hM ⟨⟨rfl, rfl, hroom.1, hroom.2, sd_words hy hts, hws, hts _ f1, hts _ f2, f3, hsig, hts _ hw⟩, g2, hts _ g1⟩ ⟨sd_cblind, hpre _⟩ rfl (by rw [List.length_map, List.length_reverse]; exact hlen) hl.1.1 hstack (lv_room (by rw [sd_cv_sum]; exact hcat)) hd hf.2.2
              · exact va_runIN (As := (st.take (sd_m y').2.2.2.2.2.1).reverse.map (sd_cv ad)) ⟨hx, hb, hml, hown, hts⟩ hM ⟨⟨⟨rfl, rfl, hroom.1, hroom.2, sd_words hy hts, hws⟩, hts _ f1, hts _ f2, f3, hsig, va_Nw.use rfl (hnest.1 _ hw)⟩, g2, hts _ g1⟩ ⟨sd_cblind, hpre _⟩ rfl (by rw [List.length_map, List.length_reverse]; exact hlen) hl.1.1 hstack (lv_room (by rw [sd_cv_sum]; exact hcat)) hd hf.2.2
            exact sd_cgoes hrun hS (fun H1 locs1 p1 p2 => k H1 locs1 sl p1 p2 hl)
          · cases h
        · cases h
      · cases h
theorem sd_cret (K : sd_cCtx p s m args meth c ad B0 D cA y) (hr : meth.sig.returnType = none) (hlocks : meth.locks = false) {u : Unit} (h : sd_cstep y pc ls st σ n kc ks = some (.inr (.inr u))) : ∀ (H : Heap) (locs : List Loc) (sl : Array Slot), sd_cI ad B0 D cA n σ H → va_S (fun q => B0 ≤ q) s.heap H locs →
    W p l e R s m args below meth c H locs kc ks (MQ below (sd_cQ ad B0 D cA n σ) args s kc ks (fun q => B0 ≤ q)) (F0 m pc sl (st.map (sd_cv ad))) := by
  intro H locs sl hI hS
  obtain ⟨hx, hb, hml, hown, hts, hK, hao, hnest, hAd, hnm, hB⟩ := K
  have hq : ∀ (t : State), t.heap = H → s.WarmedH t.vm → sd_cQ ad B0 D cA n σ args s (.returned none) t := fun t ht hW =>
    ⟨rfl, by rw [ht]; exact hI, hS.F ht⟩
  unfold sd_cstep at h
  cases hd : decode (sd_m y).2.1 pc with
  | error z => rw [hd] at h; cases h
  | ok q =>
    obtain ⟨i, len⟩ := q
    rw [hd] at h
    replace h : sd_cins (sd_m y).2.2.2.2.1 (decide ((sd_m y).1.name = "<init>")) i len pc ls st σ n kc ks = some (.inr (.inr u)) := h
    have hi : i = .return_ := by
      unfold sd_cins at h
      split at h
      all_goals first
        | rfl
        | (cases h; done)
        | (exfalso
           have h9 := (sd_cL_ok h).2
           clear h
           repeat' split at h9
           all_goals (cases h9; done))
    subst hi
    have h9 := sd_cL_ok (r := _) h
    clear h
    obtain ⟨rfl, h⟩ := h9
    split at h
    · exact W.vret hx hb hr hq hS.2.2 hd hlocks
    · cases h
end SDCF
/-- a frame of a constructor, from any of its instructions to its end; and whole constructors -/
theorem sd_cframe {l : Launch} {ad : Nat → Nat} {B0 : Nat} {D : va_G} {cA : Nat → ClassId} (hAd : sd_cAd ad B0) : ∀ (f d y pc : Nat) (ls st : List Value) (σ : sd_Mem) (n kc ks : Nat) (σ' : sd_Mem) (n' mc ms : Nat), sd_cev f d y pc ls st σ n kc ks = some (σ', n', mc, ms) →
    ∀ (p : Program) (e : Env) (R : Room) (s : State) (m : MethodId) (args : Array Value) (below : List Frame) (meth : Method) (c : Code), sd_cCtx p s m args meth c ad B0 D cA y → meth.sig.returnType = none → meth.locks = false → d + 1 ≤ R.frames ∧ 40 * (d + 1) ≤ R.locals ∧ mc ≤ R.cells ∧ ms ≤ R.slots →
    ∀ (H : Heap) (locs : List Loc) (sl : Array Slot), sd_cI ad B0 D cA n σ H → va_S (fun q => B0 ≤ q) s.heap H locs → sd_has ad sl (sd_m y).2.2.1 ls → W p l e R s m args below meth c H locs kc ks (MQ below (sd_cQ ad B0 D cA n' σ') args s mc ms (fun q => B0 ≤ q)) (F0 m pc sl (st.map (sd_cv ad)))
  | 0, _, _, _, _, _, _, _, _, _, _, _, _, _, h => by cases h
  | f + 1, d, y, pc, ls, st, σ, n, kc, ks, σ', n', mc, ms, h => by
    intro p e R s m args below meth c K hr hlocks hf
    have hm := sd_cev_mono (f + 1) d y pc ls st σ n kc ks _ h
    unfold sd_cev at h
    split at h
    · cases h
    · rename_i z hz
      have hm2 := sd_cev_mono f _ _ _ _ _ _ _ _ _ _ h
      have ih := sd_cframe (l := l) hAd f _ _ _ _ _ _ _ _ _ _ _ _ _ h p e R s m args below meth c K hr hlocks hf
      obtain ⟨pc2, ls2, st2, σ2, n2, kc2, ks2⟩ := z
      exact sd_cnext K ⟨by omega, by omega, Nat.le_trans hm2.1 hf.2.2.1, Nat.le_trans hm2.2 hf.2.2.2⟩ hz ih
    · rename_i q hq
      split at h
      · cases h
      · rename_i d'
        split at h
        · rename_i hlen
          split at h
          · rename_i r hcall
            obtain ⟨y', av, rest⟩ := q
            obtain ⟨σ1, n1, mc1, ms1⟩ := r
            have hm2 := sd_cev_mono f _ _ _ _ _ _ _ _ _ _ h
            have ih := sd_cframe (l := l) hAd f _ _ _ _ _ _ _ _ _ _ _ _ _ h p e R s m args below meth c K hr hlocks hf
            refine sd_ccall (d := d') K ⟨hf.1, hf.2.1, Nat.le_trans hm2.1 hf.2.2.1, Nat.le_trans hm2.2 hf.2.2.2⟩ hq (fun hy hn => ?_) ih
            obtain ⟨f1, f2, f3, f4, f5, f6, f7⟩ := sd_mF hy
            refine Met.ofW (cc := (sd_m y').2.1) (maxL := (sd_m y').2.2.1) (ret := (sd_m y').2.2.2.1) f7 rfl ?_
            intro p e s m args below meth c s₁ B hml hv
            obtain ⟨rfl, hI, hK, hao, hN⟩ := hv
            have hts0 := atoms_spec (ws := sd_wsM y') B.pre
            have K : sd_cCtx p s m (av.map (sd_cv ad)).toArray meth c ad B0 D cA y' := ⟨B.exec, B.bytes, hml, by rw [f6]; exact findClass_of_methodNamed B.named, fun w hw => hts0 w (List.mem_cons_of_mem _ hw), hK, hao, hN, hAd, (name_of_methodNamed B.named B.method).1, by have := hI.2.1; omega⟩
            rw [lg_entry_eq]
            exact sd_cframe hAd f _ _ _ _ _ _ _ _ _ _ _ _ _ hcall p e _ s m _ below meth c K (B.returns.trans hn) B.notSynchronized ⟨Nat.le_refl _, Nat.le_refl _, Nat.le_refl _, Nat.le_refl _⟩ s.heap [] _ hI va_S.rf (sd_has_entry hlen)
          · cases h
        · cases h
    · rename_i u hu
      cases h
      intro H locs sl hI hS _
      exact sd_cret K hr hlocks hu H locs sl hI hS
theorem sd_cmet {l : Launch} {ad : Nat → Nat} {B0 : Nat} {D : va_G} {cA : Nat → ClassId} (hAd : sd_cAd ad B0) {f d y : Nat} {av : List Value} {σ : sd_Mem} {n : Nat} {σ' : sd_Mem} {n' mc ms : Nat} (hy : y < 297) (hn : (sd_m y).2.2.2.1 = none) (hlen : (sd_ent av).length ≤ (sd_m y).2.2.1) (hcall : sd_cev f d y 0 (sd_entry av (sd_m y).2.2.1) [] σ n 0 0 = some (σ', n', mc, ms)) : sd_cMet l ad B0 D cA d y av σ n σ' n' mc ms := by
  obtain ⟨f1, f2, f3, f4, f5, f6, f7⟩ := sd_mF hy
  refine Met.ofW (cc := (sd_m y).2.1) (maxL := (sd_m y).2.2.1) (ret := (sd_m y).2.2.2.1) f7 rfl ?_
  intro p e s m args below meth c s₁ B hml hv
  obtain ⟨rfl, hI, hK, hao, hN⟩ := hv
  have hts0 := atoms_spec (ws := sd_wsM y) B.pre
  have K : sd_cCtx p s m (av.map (sd_cv ad)).toArray meth c ad B0 D cA y := ⟨B.exec, B.bytes, hml, by rw [f6]; exact findClass_of_methodNamed B.named, fun w hw => hts0 w (List.mem_cons_of_mem _ hw), hK, hao, hN, hAd, (name_of_methodNamed B.named B.method).1, by have := hI.2.1; omega⟩
  rw [lg_entry_eq]
  exact sd_cframe hAd f _ _ _ _ _ _ _ _ _ _ _ _ _ hcall p e _ s m _ below meth c K (B.returns.trans hn) B.notSynchronized ⟨Nat.le_refl _, Nat.le_refl _, Nat.le_refl _, Nat.le_refl _⟩ s.heap [] _ hI va_S.rf (sd_has_entry hlen)
