/-! person: throws, is caught in the law's own person; words first (written by wip/whole/mk21.py) -/
abbrev sd_NS : String := "java/util/NoSuchElementException"
abbrev sd_RE : String := "java/lang/RuntimeException"
abbrev sd_EX : String := "java/lang/Exception"
def sd_xa : List Cond := sd_xA "SwornDays" 155 sd_NS 13 prog_29_method_4_code [sd_RE, sd_EX]
theorem sd_xa0 : ∀ w ∈ Bundle.ownAtomsX "SwornDays" 155 sd_NS 13 prog_29_method_4_code [sd_RE, sd_EX], vx_no w = true → w ∈ lw_tbl :=
  List.forall_mem_cons.mpr <| And.intro (fun _ => sd_t1 (List.mem_of_getElem? (i := 20) rfl)) <| List.forall_mem_cons.mpr <| And.intro (fun _ => sd_t5 (List.mem_of_getElem? (i := 184) rfl)) <| List.forall_mem_cons.mpr <| And.intro (fun _ => sd_t5 (List.mem_of_getElem? (i := 193) rfl)) <| List.forall_mem_cons.mpr <| And.intro (fun _ => sd_t5 (List.mem_of_getElem? (i := 195) rfl)) <| List.forall_mem_cons.mpr <| And.intro (fun _ => sd_t5 (List.mem_of_getElem? (i := 198) rfl)) <| List.forall_mem_cons.mpr <| And.intro (fun _ => sd_t5 (List.mem_of_getElem? (i := 200) rfl)) <| List.forall_mem_cons.mpr <| And.intro (fun _ => sd_t5 (List.mem_of_getElem? (i := 185) rfl)) <| List.forall_mem_cons.mpr <| And.intro (fun _ => sd_t5 (List.mem_of_getElem? (i := 186) rfl)) <| List.forall_mem_cons.mpr <| And.intro (fun _ => sd_t1 (List.mem_of_getElem? (i := 31) rfl)) <| List.forall_mem_cons.mpr <| And.intro (fun _ => sd_t1 (List.mem_of_getElem? (i := 32) rfl)) <| List.forall_mem_cons.mpr <| And.intro (fun _ => sd_t5 (List.mem_of_getElem? (i := 187) rfl)) <| List.forall_mem_cons.mpr <| And.intro (fun _ => sd_t5 (List.mem_of_getElem? (i := 192) rfl)) <| List.forall_mem_cons.mpr <| And.intro (fun _ => sd_t5 (List.mem_of_getElem? (i := 196) rfl)) <| List.forall_mem_cons.mpr <| And.intro (fun _ => sd_t5 (List.mem_of_getElem? (i := 216) rfl)) <| List.forall_mem_cons.mpr <| And.intro (fun _ => sd_t5 (List.mem_of_getElem? (i := 174) rfl)) <| List.forall_mem_cons.mpr <| And.intro (fun _ => sd_t5 (List.mem_of_getElem? (i := 217) rfl)) <| List.forall_mem_cons.mpr <| And.intro (fun _ => sd_t5 (List.mem_of_getElem? (i := 176) rfl)) <| List.forall_mem_cons.mpr <| And.intro (fun _ => sd_t5 (List.mem_of_getElem? (i := 218) rfl)) <| List.forall_mem_cons.mpr <| And.intro (fun _ => sd_t5 (List.mem_of_getElem? (i := 178) rfl)) <| List.forall_mem_cons.mpr <| And.intro (fun _ => sd_t5 (List.mem_of_getElem? (i := 188) rfl)) <| List.forall_mem_cons.mpr <| And.intro (fun h => absurd h (by decide +kernel)) <| List.forall_mem_cons.mpr <| And.intro (fun _ => sd_t5 (List.mem_of_getElem? (i := 190) rfl)) <| List.forall_mem_cons.mpr <| And.intro (fun h => absurd h (by decide +kernel)) <| List.forall_mem_cons.mpr <| And.intro (fun _ => sd_t5 (List.mem_of_getElem? (i := 180) rfl)) <| List.forall_mem_cons.mpr <| And.intro (fun _ => sd_t5 (List.mem_of_getElem? (i := 212) rfl)) <| List.forall_mem_cons.mpr <| And.intro (fun _ => sd_t5 (List.mem_of_getElem? (i := 213) rfl)) <| List.forall_mem_cons.mpr <| And.intro (fun _ => sd_t5 (List.mem_of_getElem? (i := 215) rfl)) <| List.forall_mem_cons.mpr <| And.intro (fun _ => sd_t5 (List.mem_of_getElem? (i := 180) rfl)) <| List.forall_mem_cons.mpr <| And.intro (fun _ => sd_t5 (List.mem_of_getElem? (i := 203) rfl)) <| List.forall_mem_cons.mpr <| And.intro (fun _ => sd_t5 (List.mem_of_getElem? (i := 204) rfl)) <| List.forall_mem_cons.mpr <| And.intro (fun _ => sd_t5 (List.mem_of_getElem? (i := 205) rfl)) <| List.forall_mem_cons.mpr <| And.intro (fun _ => sd_t5 (List.mem_of_getElem? (i := 206) rfl)) <| List.forall_mem_cons.mpr <| And.intro (fun _ => sd_t5 (List.mem_of_getElem? (i := 166) rfl)) <| List.forall_mem_cons.mpr <| And.intro (fun _ => sd_t5 (List.mem_of_getElem? (i := 206) rfl)) <| List.forall_mem_cons.mpr <| And.intro (fun _ => sd_t5 (List.mem_of_getElem? (i := 207) rfl)) <| List.forall_mem_cons.mpr <| And.intro (fun _ => sd_t5 (List.mem_of_getElem? (i := 208) rfl)) <| List.forall_mem_cons.mpr <| And.intro (fun _ => sd_t5 (List.mem_of_getElem? (i := 209) rfl)) <| List.forall_mem_cons.mpr <| And.intro (fun _ => sd_t5 (List.mem_of_getElem? (i := 168) rfl)) <| List.forall_mem_cons.mpr <| And.intro (fun _ => sd_t5 (List.mem_of_getElem? (i := 209) rfl)) <| List.forall_mem_cons.mpr <| And.intro (fun _ => sd_t5 (List.mem_of_getElem? (i := 210) rfl)) <| List.forall_mem_cons.mpr <| And.intro (fun _ => sd_t5 (List.mem_of_getElem? (i := 211) rfl)) <| List.forall_mem_cons.mpr <| And.intro (fun _ => sd_t5 (List.mem_of_getElem? (i := 212) rfl)) <| List.forall_mem_cons.mpr <| And.intro (fun _ => sd_t5 (List.mem_of_getElem? (i := 170) rfl)) <| List.forall_mem_cons.mpr <| And.intro (fun _ => sd_t5 (List.mem_of_getElem? (i := 202) rfl)) <| List.forall_mem_cons.mpr <| And.intro (fun _ => sd_t5 (List.mem_of_getElem? (i := 163) rfl)) <| List.forall_mem_cons.mpr <| And.intro (fun _ => sd_t5 (List.mem_of_getElem? (i := 164) rfl)) <| List.forall_mem_cons.mpr <| And.intro (fun _ => sd_t5 (List.mem_of_getElem? (i := 171) rfl)) <| List.forall_mem_cons.mpr <| And.intro (fun _ => sd_t5 (List.mem_of_getElem? (i := 172) rfl)) <| List.forall_mem_cons.mpr <| And.intro (fun _ => sd_t5 (List.mem_of_getElem? (i := 173) rfl)) <| List.forall_mem_cons.mpr <| And.intro (fun _ => sd_t5 (List.mem_of_getElem? (i := 175) rfl)) <| List.forall_mem_cons.mpr <| And.intro (fun _ => sd_t5 (List.mem_of_getElem? (i := 177) rfl)) <| List.forall_mem_cons.mpr <| And.intro (fun _ => sd_t5 (List.mem_of_getElem? (i := 179) rfl)) <| List.forall_mem_cons.mpr <| And.intro (fun h => absurd h (by decide +kernel)) <| List.forall_mem_cons.mpr <| And.intro (fun h => absurd h (by decide +kernel)) <| List.forall_mem_cons.mpr <| And.intro (fun _ => sd_t5 (List.mem_of_getElem? (i := 183) rfl)) <| List.forall_mem_cons.mpr <| And.intro (fun _ => sd_t5 (List.mem_of_getElem? (i := 182) rfl)) <| List.forall_mem_cons.mpr <| And.intro (fun _ => sd_t5 (List.mem_of_getElem? (i := 181) rfl)) <| fun _ h => absurd h List.not_mem_nil
def sd_xn : List Cond := [.castable sd_NS sd_NS, .declares (Bundle.initS sd_RE), .declares (Bundle.initS sd_EX), .declares (Bundle.initS Bundle.tN)]
theorem sd_xa1 : ∀ w ∈ sd_xa, w ∈ lw_tbl := fun w hw => sd_xa0 w (List.mem_filter.mp hw).1 (List.mem_filter.mp hw).2
theorem sd_xa2 : ∀ w ∈ sd_xa, goodWord w = true ∨ w ∈ sd_xn := by decide +kernel
theorem sd_xa3 : ∀ w ∈ Cond.classLink "SwornDays" 151 sd_NS :: Cond.initialized sd_NS :: sd_xa, vx_ot w = true := by decide +kernel
theorem sd_xk : Cond.classLink "SwornDays" 151 sd_NS ∈ sd_tbl := sd_inT (i := 1215) (by decide +kernel) rfl
theorem sd_xi : Cond.initialized sd_NS ∈ sd_tbl := sd_inT (i := 116) (by decide +kernel) rfl
theorem sd_xl : Cond.classLink "SwornDaysLaw" 13 sd_NS ∈ sd_tbl := sd_inT (i := 1210) (by decide +kernel) rfl
def sd_nmP : MethodName := ⟨"SwornDaysLaw", "person", "(LSwornDays;II[J)I"⟩
theorem sd_xp : Cond.methodLink "SwornDaysLaw" 38 sd_nmP ∈ sd_tbl := sd_inT (i := 1207) (by decide +kernel) rfl
theorem sd_xs : Cond.static sd_nmP ∈ sd_tbl := sd_inT (i := 1208) (by decide +kernel) rfl
theorem sd_xw : Cond.codeWith sd_nmP method_3_code 5 (some .int) [(0, 10, 13, 13)] ∈ sd_tbl := List.mem_filter.mpr ⟨sd_t5 (List.mem_of_getElem? (i := 156) rfl), rfl⟩
theorem sd_xL : Cond.initialized "SwornDaysLaw" ∈ sd_tbl := sd_inT (i := 93) (by decide +kernel) rfl
theorem sd_xr : sd_lk 12 7 = some (y_X_person, 0, 0, 1211) := by decide +kernel

/-- what a throw asks of the state -/
def sd_Xx (B0 : Nat) (U : State) (H : Heap) : Prop := vx_Zq Bundle.tN "UNASSIGNED_STACK" Bundle.steD (fun q => B0 ≤ q) U H ∧ vx_Zq Bundle.tN "SUPPRESSED_SENTINEL" Bundle.listD (fun q => B0 ≤ q) U H ∧ ∀ w ∈ sd_xn, va_Nw w U
theorem sd_xn_on : ∀ w ∈ sd_xn, w.onTables = true := by decide +kernel
theorem sd_xn_warm {s U : State} (hW : s.WarmedH U.vm) (h : ∀ w ∈ sd_xn, va_Nw w s) : ∀ w ∈ sd_xn, va_Nw w U :=
  List.forall_mem_cons.mpr ⟨va_Nw.warmC hW (h _ (by decide)), List.forall_mem_cons.mpr ⟨va_Nw.warmD hW (h _ (by decide)), List.forall_mem_cons.mpr ⟨va_Nw.warmD hW (h _ (by decide)), List.forall_mem_cons.mpr ⟨va_Nw.warmD hW (h _ (by decide)), fun _ h => absurd h List.not_mem_nil⟩⟩⟩⟩
theorem sd_Xx_kept {B0 : Nat} {s U : State} {H : Heap} (hW : s.WarmedH U.vm) (hS : ∀ q : Nat, q < s.heap.size → ¬ B0 ≤ q → H[q]? = s.heap[q]?) (h : sd_Xx B0 s s.heap) : sd_Xx B0 U H :=
  ⟨(h.1.moved hW.alike).kept (fun a ha hn => hS a ha hn), (h.2.1.moved hW.alike).kept (fun a ha hn => hS a ha hn), sd_xn_warm hW h.2.2⟩
def sd_PreX (E : sd_E) (ad : Nat → Nat) (B0 : Nat) (D : va_G) (cA : Nat → ClassId) (σ : sd_Mem) (U : State) : Prop := sd_Pre E ad B0 D cA σ U ∧ sd_Xx B0 U U.heap
theorem sd_blindX {E : sd_E} {ad : Nat → Nat} {B0 : Nat} {D : va_G} {cA : Nat → ClassId} {σ : sd_Mem} {av : List Value} : FrameBlind (va_Pc av (sd_PreX E ad B0 D cA σ)) := by
  intro a U g mk q
  obtain ⟨q0, q1, q2⟩ := q
  have h := sd_blind a U g mk ⟨q0, q1⟩
  exact ⟨h.1, h.2, vx_Zq.moved (u := U) (U := U.calling g mk a) (Vm.Alike.refl U.vm) q2.1, vx_Zq.moved (u := U) (U := U.calling g mk a) (Vm.Alike.refl U.vm) q2.2.1, fun w hw => va_Nw.same (u := U) (U := U.calling g mk a) (sd_xn_on w hw) rfl (q2.2.2 w hw)⟩
/-- n instructions of SwornDays.person; r: what it returns, or none where it throws -/
def sd_runX (E : sd_E) (C : Nat → List Value → sd_Mem → Option Value → sd_Mem → Prop) (y : Nat) : Nat → Nat → List Value → List Value → sd_Mem → Option (Option Value) → sd_Mem → Prop
  | 0, _, _, _, _, _, _ => False
  | n + 1, pc, ls, st, σ, r, σ' => match sd_step E y pc ls st σ with
    | none => (pc = 12 ∨ pc = 98) ∧ st = [] ∧ r = none ∧ σ = σ'
    | some (.inl z) => sd_runX E C y n z.1 z.2.1 z.2.2.1 z.2.2.2 r σ'
    | some (.inr (.inl q)) => ∃ v σ1, C q.1 q.2.1 σ v σ1 ∧ sd_runX E C y n (pc + 3) ls (v.toList ++ q.2.2) σ1 r σ'
    | some (.inr (.inr v)) => some v = r ∧ σ = σ'
def sd_QX (E : sd_E) (ad : Nat → Nat) (B0 : Nat) (D : va_G) (cA : Nat → ClassId) (r : Option (Option Value)) (σ' : sd_Mem) : Array Value → State → Outcome → State → Prop := match r with
  | some v => sd_Qc E ad B0 D cA v σ'
  | none => fun _ _ _ _ => False
def sd_XX (E : sd_E) (ad : Nat → Nat) (B0 : Nat) (D : va_G) (cA : Nat → ClassId) (r : Option (Option Value)) (σ' : sd_Mem) : String → State → State → Prop := fun N st t => r = none ∧ N = sd_NS ∧ sd_W E ad B0 D cA σ' t ∧ va_F (fun q => B0 ≤ q) st t
section SDP
variable {p : Program} {l : Launch} {e : Env} {R : Room} {s : State} {m : MethodId} {args : Array Value} {below : List Frame} {meth : Method} {c : Code} {Q : State → Prop}
variable {E : sd_E} {ad : Nat → Nat} {B0 : Nat} {D : va_G} {cA : Nat → ClassId}
theorem sd_throwP {σ : sd_Mem} {H : Heap} {locs : List Loc} {sl : Array Slot} {is i pc : Nat} {text : String} (K : sd_Ctx p s m args c E ad B0 D cA y_X_person) (hX : sd_Xx B0 s s.heap) (hl : l.stackTraces = false) (hno : ∀ x ∈ c.exceptionTable.toList, False) (hlocks : meth.locks = false) (hf : 6 ≤ R.frames ∧ 82 ≤ R.locals ∧ 1 ≤ R.cells ∧ 6 ≤ R.slots)
    (hstr : vk_R "SwornDays" is text (ad i) s) (hP : va_P D sd_cl (sd_wld E ad cA σ) H) (hS : va_S (fun q => B0 ≤ q) s.heap H locs) (hsz : sl.size = (sd_m y_X_person).2.2.1)
    (d0 : decode (sd_m y_X_person).2.1 pc = .ok (.new 151, 3)) (d3 : decode (sd_m y_X_person).2.1 (pc + 3) = .ok (.dup, 1)) (d4 : decode (sd_m y_X_person).2.1 (pc + 4) = .ok (.ldc is, 2)) (d6 : decode (sd_m y_X_person).2.1 (pc + 6) = .ok (.invokespecial 155, 3)) (d9 : decode (sd_m y_X_person).2.1 (pc + 9) = .ok (.athrow, 1)) :
    W p l e R s m args below meth c H locs 0 0 (vx_MQ below (sd_QX E ad B0 D cA none σ) (sd_XX E ad B0 D cA none σ) args s 1 6 (fun q => B0 ≤ q)) (F0 m pc sl []) := by
  obtain ⟨hx, hb, hml, hown, hts, hK, hX0, hnest, hAd⟩ := K
  refine sd_throwS (ix := 13) (rx := prog_29_method_4_code) (names := [sd_RE, sd_EX]) (A := fun q => B0 ≤ q) hx hb hl (own := "SwornDays") (cls := sd_NS) (by decide +kernel) (by decide +kernel) (by decide +kernel) (by decide +kernel) hown (by decide +kernel) (by decide +kernel) (hts _ sd_xk) (hts _ sd_xi) hstr ?_ sd_xa3 hX.1 hX.2.1 hS (hsz.trans hml.symm) d0 d3 d4 d6 d9 (fun x hx => (hno x hx).elim) (by show 2 + 3 < _; omega) (by show 0 + (13 * (2 + 1) + 43) ≤ _; omega) hf.2.2.1 hf.2.2.2 hlocks ?_ hS.2.2 (Nat.le_refl _) (Nat.le_refl _)
  · intro w hw
    rcases sd_xa2 w hw with h | h
    · exact hts w (List.mem_filter.mpr ⟨sd_xa1 w hw, h⟩)
    · exact va_Nw.use (sd_xn_on w h) (hX.2.2 w h)
  · intro t hv hz hk
    refine ⟨rfl, rfl, ⟨fun k q hq => (hP k q hq).kept (hk _ (hP k q hq).lt), va_K.moved hv hK, sd_X_kept hv ⟨Nat.le_trans hS.1 hz, fun q h1 h2 => (hk q (Nat.lt_of_lt_of_le h1 hS.1)).trans (hS.2.1 q h1 h2)⟩ hX0⟩, Nat.le_trans hS.1 hz, fun q h1 h2 => (hk q (Nat.lt_of_lt_of_le h1 hS.1)).trans (hS.2.1 q h1 h2)⟩
theorem sd_frameX {C : Nat → List Value → sd_Mem → Option Value → sd_Mem → Prop} {d y : Nat} (hy : y = y_X_person) {r : Option (Option Value)} {σ' : sd_Mem} (K : sd_Ctx p s m args c E ad B0 D cA y) (hX : sd_Xx B0 s s.heap) (hl : l.stackTraces = false) (hno : ∀ x ∈ c.exceptionTable.toList, False) (hr : meth.sig.returnType = (sd_m y).2.2.2.1) (hlocks : meth.locks = false) (hf : d + 1 ≤ R.frames ∧ 40 * (d + 1) ≤ R.locals ∧ 1 ≤ R.cells ∧ 6 ≤ R.slots) (hd : 6 ≤ d)
    (hC : ∀ (y' : Nat) (av : List Value) (σ1 : sd_Mem) (v : Option Value) (σ2 : sd_Mem), C y' av σ1 v σ2 → sd_Met l E ad B0 D cA d y' av σ1 v σ2) :
    ∀ (n pc : Nat) (ls st : List Value) (σ : sd_Mem), sd_runX E C y n pc ls st σ r σ' → ∀ (H : Heap) (locs : List Loc) (sl : Array Slot), va_P D sd_cl (sd_wld E ad cA σ) H → va_S (fun q => B0 ≤ q) s.heap H locs → sd_has ad sl (sd_m y).2.2.1 ls → W p l e R s m args below meth c H locs 0 0 (vx_MQ below (sd_QX E ad B0 D cA r σ') (sd_XX E ad B0 D cA r σ') args s 1 6 (fun q => B0 ≤ q)) (F0 m pc sl (st.map (sd_cv ad)))
  | 0, _, _, _, _, h => by cases h
  | n + 1, pc, ls, st, σ, h => by
    have ih := sd_frameX (r := r) (σ' := σ') hy K hX hl hno hr hlocks hf hd hC n
    unfold sd_runX at h
    cases hs : sd_step E y pc ls st σ with
    | none =>
      rw [hs] at h
      obtain ⟨hpc, rfl, rfl, rfl⟩ := h
      intro H locs sl hP hS hl9
      have hN := K.2.2.2.2.2.2.2.1
      subst hy
      rcases hpc with rfl | rfl
      · exact sd_throwP K hX hl hno hlocks ⟨by omega, by omega, hf.2.2⟩ (hN.2 (655513, (7, 1254)) (by decide +kernel)) hP hS hl9.1.1 (by decide +kernel) (by decide +kernel) (by decide +kernel) (by decide +kernel) (by decide +kernel)
      · exact sd_throwP K hX hl hno hlocks ⟨by omega, by omega, hf.2.2⟩ (hN.2 (655530, (8, 1280)) (by decide +kernel)) hP hS hl9.1.1 (by decide +kernel) (by decide +kernel) (by decide +kernel) (by decide +kernel) (by decide +kernel)
    | some z =>
      rw [hs] at h
      rcases z with ⟨pc2, ls2, st2, σ2⟩ | ⟨y', av, rest⟩ | v
      · exact sd_next K ⟨by omega, by omega, Nat.zero_le _, Nat.zero_le _⟩ hs (ih _ _ _ _ h)
      · obtain ⟨v, σ1, hc, h⟩ := h
        exact sd_callW K ⟨hf.1, hf.2.1, Nat.zero_le _, Nat.zero_le _⟩ hs (hC _ _ _ _ _ hc) (ih _ _ _ _ h)
      · obtain ⟨rfl, rfl⟩ := h
        intro H locs sl hP hS _
        exact W.widen (k := 1) (n := 6) (by omega) (by omega) (vx_ret (sd_retW (free := fun q => B0 ≤ q) K hr hlocks hs H locs sl hP hS))
end SDP
/-- SwornDays.person, whole -/
def sd_PX (E : sd_E) (d : Nat) (av : List Value) (σ : sd_Mem) (r : Option (Option Value)) (σ' : sd_Mem) : Prop := ∃ n, sd_runX E (sd_C' E d) y_X_person n 0 (sd_entry av (sd_m y_X_person).2.2.1) [] σ r σ'
theorem sd_personX {l : Launch} {E : sd_E} {ad : Nat → Nat} {B0 : Nat} {D : va_G} {cA : Nat → ClassId} (hAd : sd_Ad ad B0) (hl : l.stackTraces = false) {d : Nat} (hd : 6 ≤ d) {av : List Value} {σ σ' : sd_Mem} {r : Option (Option Value)} (hlen : (sd_ent av).length ≤ (sd_m y_X_person).2.2.1) (h : sd_PX E d av σ r σ') :
    vx_Met l (sd_m y_X_person).1 (sd_wsM y_X_person) (sd_crm d 1 6) (va_Pc (av.map (sd_cv ad)) (sd_PreX E ad B0 D cA σ)) (sd_QX E ad B0 D cA r σ') (sd_XX E ad B0 D cA r σ') 1 6 (fun q => B0 ≤ q) := by
  obtain ⟨n, hrun⟩ := h
  obtain ⟨f1, f2, f3, f4, f5, f6, f7⟩ := sd_mF (y := y_X_person) (by decide)
  refine vx_ofW (cc := (sd_m y_X_person).2.1) (maxL := (sd_m y_X_person).2.2.1) (ret := (sd_m y_X_person).2.2.2.1) f7 rfl ?_
  intro p e s m args below meth c s₁ B hml hno hv
  obtain ⟨rfl, ⟨⟨hP, hK, hX⟩, hN⟩, hXx⟩ := hv
  have hts0 := atoms_spec (ws := sd_wsM y_X_person) B.pre
  have K : sd_Ctx p s m (av.map (sd_cv ad)).toArray c E ad B0 D cA y_X_person := ⟨B.exec, B.bytes, hml, by rw [f6]; exact findClass_of_methodNamed B.named, fun w hw => hts0 w (List.mem_cons_of_mem _ hw), hK, hX, hN, hAd⟩
  rw [lg_entry_eq]
  exact sd_frameX (d := d) rfl K hXx hl hno B.returns B.notSynchronized ⟨Nat.le_refl _, Nat.le_refl _, Nat.le_refl _, Nat.le_refl _⟩ hd (sd_all hAd d) n 0 (sd_entry av (sd_m y_X_person).2.2.1) [] σ hrun s.heap [] _ hP va_S.rf (sd_has_entry hlen)

