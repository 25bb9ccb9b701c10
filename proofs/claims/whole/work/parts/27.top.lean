/-! the claim out of the pure machine's law -/
/-- what holds at the law's entry: the machine, the code, the tables' words (any of lw_tbl by 'hts w (by decide +kernel)'), the script of L ints xs at the cell b, what the Statement gives of the start (any of its parts by flat_of_before) -/
def lw_At (p : Program) (s : State) (m : MethodId) (meth : Method) (c : Code) (b L : Nat) (xs : Nat → Int32) : Prop :=
  p.tables.exec = Jvm.exec ∧ c.code = code ∧ meth.sig.returnType = ret ∧ c.maxLocals = 7 ∧ s.vm.findClass R_law = some m.cls ∧ (∀ w ∈ lw_tbl, w.before #[Value.ref b] s = true) ∧ va_X b L xs s s.heap ∧ b < s.heap.size ∧ meth.locks = false ∧ meth.name = x.name ∧ (Jvm.Cond.and given_1 narrow_1).before #[Value.ref b] s = true
/-- the store at the law's loop -/
def sd_Born (σ : sd_Mem) : Prop := (∀ k, k < 301 → sd_bchk σ k = true) ∧ ∀ k, (∀ ci, sd_sh k ≠ .inl ci) → σ.1 k = (fun _ => 0) ∧ σ.2.1 k = fun _ => 0
def sd_l0 : List Value := [.ref 400, .ref 0, .ref 271, .ref 301, .int 0, sd_un, sd_un]
/-- what is left, in the pure machine: the law's loop answers 1 -/
def sd_LawOK : Prop := ∀ (L : Nat) (xs : Nat → Int32) (fm : Option Nat) (σ : sd_Mem), L ≤ 3072 → sd_Born σ → ∃ (n : Nat) (σ' : sd_Mem), sd_lrun (sd_E1 L xs fm) (sd_C' (sd_E1 L xs fm) 1000) 1000 297 n 23 sd_l0 [] σ 512 (some (.int 1)) σ'
theorem sd_made2 : ∃ (σ1 : sd_Mem) (c1 s1 : Nat) (σ2 : sd_Mem) (c2 s2 : Nat), sd_A1 = some (σ1, 271, c1, s1) ∧ sd_A2 σ1 = some (σ2, 301, c2, s2) ∧ (c1 ≤ 1000 ∧ s1 ≤ 100000 ∧ c2 ≤ 1000 ∧ s2 ≤ 100000) ∧ sd_Born σ2 := by
  obtain ⟨σ1, c1, s1, σ2, c2, s2, h1, h2, h3, h4⟩ := sd_made
  refine ⟨σ1, c1, s1, σ2, c2, s2, h1, h2, h3, h4, fun k hk => ?_⟩
  have a1 := sd_cev_arr _ _ _ _ _ _ _ _ _ _ _ h1 k hk
  have a2 := sd_cev_arr _ _ _ _ _ _ _ _ _ _ _ h2 k hk
  exact ⟨a2.1.trans a1.1, a2.2.trans a1.2⟩
theorem sd_ft_at {k i j : Nat} {σ : sd_Mem} (hB : sd_Born σ) (hk : k < 302) (h : sd_ft k i = some j) : σ.2.2 k i = some j := by
  have h0 := sd_ft_ok
  simp only [Bool.and_eq_true, decide_eq_true_eq] at h0
  have h1 := List.all_eq_true.mp h0.2 k (List.mem_range.mpr hk)
  have hi : i < (sd_ftL.getD k []).length := by
    rcases Nat.lt_or_ge i (sd_ftL.getD k []).length with q | q
    · exact q
    · unfold sd_ft at h
      rw [List.getD_eq_getElem?_getD, List.getElem?_eq_none q] at h
      cases h
  have hbR : sd_bR k i = some j := by
    unfold sd_bR
    split
    · rename_i q
      obtain ⟨rfl, rfl⟩ := q
      rw [show sd_ft 0 4 = none by decide +kernel] at h
      cases h
    · split
      · rename_i q
        obtain ⟨rfl, rfl⟩ := q
        rw [show sd_ft 0 5 = none by decide +kernel] at h
        cases h
      · exact h
  have hk2 : k < 301 ∨ k = 301 := by omega
  rcases hk2 with hk2 | rfl
  · have h2 := hB.1 k hk2
    unfold sd_ftchk at h1
    unfold sd_bchk at h2
    split at h1
    · rename_i ci hs
      rw [hs] at h2
      simp only [Bool.and_eq_true, decide_eq_true_eq, List.all_eq_true, List.mem_range, Bool.or_eq_true] at h1
      have hN : i < (sd_C ci).2.2 := Nat.lt_of_lt_of_le hi h1.1
      have hkd : sd_kd ci i = 2 := by
        rcases h1.2 i hN with q | q
        · rw [h] at q; cases q
        · exact q
      have h3 := List.all_eq_true.mp h2 i (List.mem_range.mpr hN)
      rw [hkd] at h3
      simp only [Bool.or_eq_true, decide_eq_true_eq] at h3
      rcases h3 with q | q
      · rw [h] at q; cases q.2
      · exact q.trans hbR
    · rename_i n hs
      rw [hs] at h2
      have hN : i < n := Nat.lt_of_lt_of_le hi (of_decide_eq_true h1)
      exact (of_decide_eq_true (List.all_eq_true.mp h2 i (List.mem_range.mpr hN))).trans hbR
    · rename_i n hs
      rw [hs] at h2
      have hN : i < n := Nat.lt_of_lt_of_le hi (of_decide_eq_true h1)
      exact (of_decide_eq_true (List.all_eq_true.mp h2 i (List.mem_range.mpr hN))).trans hbR
    · have h9 := of_decide_eq_true h1
      omega
  · rw [show (sd_ftL.getD 301 []).length = 0 by decide +kernel] at hi
    omega
theorem sd_gRE {k i L : Nat} {xs : Nat → Int32} {fm : Option Nat} {σ : sd_Mem} (hB : sd_Born σ) (hk : k < 302) : sd_gR sd_E0 σ k i = sd_gR (sd_E1 L xs fm) σ k i := by
  unfold sd_gR
  have h1 : (sd_E1 L xs fm).1 k i = sd_ft k i := if_neg (by omega)
  rw [h1]
  cases h : sd_ft k i with
  | none => rfl
  | some j => exact sd_ft_at hB hk h
theorem sd_wldE {L : Nat} {xs : Nat → Int32} {fm : Option Nat} {σ : sd_Mem} {ad : Nat → Nat} {cA : Nat → ClassId} (hB : sd_Born σ) : sd_wldN ad cA σ 302 = sd_wld (sd_E1 L xs fm) ad cA σ := by
  unfold sd_wldN sd_wld
  refine List.map_congr_left (fun k hk => ?_)
  have hk := List.mem_range.mp hk
  have hv : ∀ ci i, sd_val sd_E0 σ k ci i = sd_val (sd_E1 L xs fm) σ k ci i := by
    intro ci i
    unfold sd_val
    rw [sd_gRE hB hk]
  have hg : ∀ i, sd_gR sd_E0 σ k i = sd_gR (sd_E1 L xs fm) σ k i := fun i => sd_gRE hB hk
  refine congrArg (fun z => (ad k, z)) ?_
  unfold sd_cell
  simp only [hv, hg]
theorem whole_start {p : Program} {e : Env} {s : State} {m : MethodId} {below : List Frame} {meth : Method} {c : Code} (hlaw : sd_LawOK) (l : Launch) (hst : l.stackTraces = false) {b L : Nat} {xs : Nat → Int32} (hL : L ≤ 3072) (C0 : lw_At p s m meth c b L xs) : W p l e room_1 s m #[Value.ref b] below meth c s.heap [] 0 0 (lw_Z below #[Value.ref b] s) (entryFrame m ([Value.ref b] : List Value).toArray 7) := by
  obtain ⟨hx, hb, hr, hml, hown, hts, hX, hbl, hlocks, hnm, hgv⟩ := C0
  obtain ⟨ad, D, cA, fm, hAd, h400, hK, hao, hN, hX1, hXx⟩ := sd_begin hts hgv hX hbl
  obtain ⟨σ1, c1, s1, σ2, c2, s2, h1, h2, ⟨b1, b2, b3, b4⟩, hBorn⟩ := sd_made2
  obtain ⟨n, σ', hrun⟩ := hlaw L xs fm σ2 hL hBorn
  have hy := sd_m297
  have hw : ∀ w ∈ sd_tbl, w.before #[Value.ref b] s = true := fun w hw => hts w (List.mem_filter.mp hw).1
  have hAd2 : sd_Ad ad s.heap.size := ⟨fun i j hi hj q => by rw [hAd i hi, hAd j hj] at q; omega, fun i hi => by rw [hAd i hi]; omega⟩
  generalize (297 : Nat) = y at hy hrun
  have hb' : c.code = (sd_m y).2.1 := by rw [hy]; exact hb
  have hml' : c.maxLocals = (sd_m y).2.2.1 := by rw [hy]; exact hml
  have hown' : s.vm.findClass (sd_R (sd_m y).2.2.2.2.1) = some m.cls := by rw [hy]; exact hown
  have K : sd_cCtx p s m #[Value.ref b] meth c ad s.heap.size D cA y := ⟨hx, hb', hml', hown', hw, hK, hao, hN, hAd, by rw [hy]; exact hnm, Nat.le_refl _⟩
  have K2 : sd_Ctx p s m #[Value.ref b] c (sd_E1 L xs fm) ad s.heap.size D cA y := ⟨hx, hb', hml', hown', hw, hK, hX1, hN, hAd2⟩
  have hl := sd_has_entry (ad := ad) (av := [.ref 400]) (n := 7) (show 1 ≤ 7 by decide)
  rw [lg_entry_eq]
  have e1 : [Value.ref 400].map (sd_cv ad) = [.ref b] := by show [Value.ref (ad 400)] = _; rw [h400]
  rw [e1] at hl
  refine sd_lstart (R := room_1) hy K (show 20 ≤ 2048 ∧ 40 * 20 ≤ 84000 ∧ 3 + c1 + c2 ≤ 601024 ∧ 77 + s1 + s2 ≤ 7293034 by omega) h1 h2 (fun H locs sl hI hS hl2 => ?_) s.heap [] _ ⟨fun k q hq => (by cases hq), rfl, (by decide), fun k _ i => ⟨rfl, rfl, rfl⟩⟩ va_S.rf hl
  have hP : va_P D sd_cl (sd_wld (sd_E1 L xs fm) ad cA σ2) H := by rw [← sd_wldE hBorn]; exact hI.1
  refine sd_lframe (R := room_1) (d := 1000) hy K2 hXx hst (show 1000 + 3 ≤ 2048 ∧ 40 * (1000 + 3) ≤ 84000 by decide) (by decide) ?_ n 23 sd_l0 [] σ2 512 _ _ hrun (show 3 + c1 + c2 + 512 ≤ 601024 by omega) (show 77 + s1 + s2 + 6 * 512 ≤ 7293034 by omega) H locs sl hP hS (by rw [hy]; exact hl2)
  intro pc ls st hs H locs sl cells slots hc1 hs1 hP hS
  refine va_forget (fun q hq => hS.2.2 q hq) ?_
  refine W.widen (k := 601024) (n := 7293034) hc1 hs1 ?_
  unfold sd_step at hs
  rw [hy] at hs
  cases hd : decode sd_law.2.1 pc with
  | error z => rw [hd] at hs; cases hs
  | ok q =>
    obtain ⟨i, len⟩ := q
    rw [hd] at hs
    have hd : decode code pc = .ok (i, len) := hd
    have hs2 := hs
    replace hs2 : sd_ins (sd_E1 L xs fm) 12 (some .boolean) i len pc ls st σ' = some (.inr (.inr (some (.int 1)))) := hs2
    rcases sd_ins_ret hs2 with rfl | rfl | rfl | rfl
    · have h9 := sd_L_ok (r := _) hs2
      clear hs2
      obtain ⟨rfl, h9⟩ := h9
      split at h9
      · cases h9
        exact lw_ret hx hb hr hlocks hd
      · split at h9
        · cases h9
          exact lw_ret hx hb hr hlocks hd
        · cases h9
      · rename_i q; cases q
      · rename_i q; cases q
      · cases h9
    · have h9 := (sd_L_ok (r := _) hs2).2
      split at h9 <;> cases h9
    · have h9 := (sd_L_ok (r := _) hs2).2
      split at h9 <;> cases h9
    · have h9 := (sd_L_ok (r := _) hs2).2
      split at h9 <;> cases h9
set_option maxHeartbeats 4000000 in
theorem lw_walk (hlaw : sd_LawOK) (l : Launch) (hst : l.stackTraces = false) (b : Addr) (xs : List Int32) : MetFree l x (headSpec (Jvm.Cond.code x code maxLocals ret :: tables_1) room_1) (lw_P b xs) (fun _ _ _ _ _ => True) lw_Q := by
  refine MetFree.of_bodyS (code := code) (maxLocals := maxLocals) (ret := ret) (by decide) ?_ ?_
  · intro args s m h hn
    obtain ⟨meth, c, h1, h2, h3, h4, h5, h6, -, -⟩ := Cond.code_spec hn (atoms_spec (ws := Jvm.Cond.code x code maxLocals ret :: tables_1) h _ List.mem_cons_self)
    exact ⟨meth, c, h1, h2, h3, h4, h5, h6⟩
  · intro p e s m args below meth c s₁ B hml0 hP _
    obtain ⟨rfl, hx, hbd, hgv⟩ := hP
    obtain ⟨scr, harrAt, hlist, hof, hsmall⟩ := hx
    obtain ⟨hcb, hkn, -, -⟩ := State.arrayAt?_spec harrAt
    have hown : s.vm.findClass R_law = some m.cls := findClass_of_methodNamed B.named
    have hts0 : ∀ c ∈ (Jvm.Cond.code x code maxLocals ret :: tables_1), c.before #[Value.ref b] s = true := atoms_spec (ws := Jvm.Cond.code x code maxLocals ret :: tables_1) B.pre
    have hts : ∀ w ∈ lw_tbl, w.before #[Value.ref b] s = true := k2_hts_sels lw_privs (fun w hw => hts0 w (List.mem_cons_of_mem _ hw)) lw_privs_ok
    have hml : c.maxLocals = 7 := B.maxLocals_eq (hts0 _ List.mem_cons_self)
    have X₀ : Stand p l e room_1 s m #[Value.ref b] below meth c s₁ [] 0 0 := Stand.of_body B
    have hh0 : s₁.heap = s.heap := by rw [B.state]; rfl
    have hsz : scr.slots.size = xs.length := by rw [← Array.length_toList, hlist, List.length_map]
    have hval : ∀ j : Nat, j < xs.length → scr.slots[j]? = some (.int (xs.getD j 0)) := fun j hj => by
      rw [← Array.getElem?_toList, hlist]
      simp [hj]
    have hbl : b < s.heap.size := (Array.getElem?_eq_some_iff.mp hcb).1
    have hX : va_X b xs.length (fun j => xs.getD j 0) s s.heap := ⟨scr, hcb, hof, hkn, hsz, hval⟩
    have K : W p l e room_1 s m #[Value.ref b] below meth c s₁.heap [] 0 0 (lw_Z below #[Value.ref b] s) (entryFrame m ([Value.ref b] : List Value).toArray 7) := by
      rw [hh0]
      exact whole_start hlaw l hst hbd ⟨B.exec, B.bytes, B.returns, hml, hown, hts, hX, hbl, B.notSynchronized, (name_of_methodNamed B.named B.method).1, hgv⟩
    obtain ⟨t, a1, o, b1, b2, b3⟩ := K s₁ rfl X₀
    exact ⟨t, o, a1, b1, b2, b3⟩
theorem lw_pre_spec {args : Array Value} {s : State} (h : (Jvm.Cond.and given_1 narrow_1).before args s = true) (hr : rest_1_c.before args s = true) : ∃ (b : Addr) (xs : List Int32), lw_P b xs args s := by
  have hs := flat_of_before _ h
  have hq := flat_of_before _ hr
  have hc : (Cond.count 1).before args s = true := hs _ (by decide +kernel)
  have harr : (Cond.arrayOf (.arg 0) .int).before args s = true := hs _ (by decide +kernel)
  have hle : (Cond.le (.length (.arg 0)) (.int 3072)).before args s = true := hs _ (by decide +kernel)
  have hlen : (Cond.isInt (.length (.arg 0))).before args s = true := hq _ (by decide +kernel)
  have hall : (Cond.all (.arg 0) (.isInt (.elem (.arg 0) (.index 0)))).before args s = true := hq _ (by decide +kernel)
  obtain ⟨b, xs, hb, hx⟩ := State.ints_of_pre rfl harr hlen hall
  have hsm : xs.length < 2 ^ 31 := hx.choose_spec.2.2.2
  have hev : (Term.length (.arg 0)).eval args s none [] s = some (.int xs.length.toInt32) := hx.length_eval hb
  have hv := Cond.le_ints hev (show (Term.int 3072).eval args s none [] s = some (.int 3072) from rfl)
  have hd : xs.length.toInt32 ≤ 3072 := by
    simpa [Cond.before, Cond.holds, hv] using hle
  have hN : xs.length ≤ 3072 := (Int32.ofNat_le_ofNat hsm (by decide)).mp (show Int32.ofNat xs.length ≤ Int32.ofNat 3072 from hd)
  exact ⟨b, xs, Cond.one_arg hc (show args[0]? = some (.ref b) from hb), hx, hN, h⟩
theorem lw_comes (hlaw : sd_LawOK) (l : Launch) (hst : l.stackTraces = false) : Comes l x (Jvm.Cond.code x code maxLocals ret :: tables_1) room_1 (fun tb e args s => Calls_1 tb e args s ∧ rest_1 tb e args s ∧ Pre_1 tb e args s)
    (fun _ _ args s o t => lw_Q args s o t) := by
  intro p e ha hc hk s m args below hf hfit hheap happ hpre
  obtain ⟨b, xs, hP⟩ := lw_pre_spec hpre.2.2 hpre.2.1
  obtain ⟨k, o, h1, h2, h3, hQ⟩ := lw_walk hlaw l hst b xs p e ha hc hk s m args below hf ((Spec.applies_iff_loose hf).mp happ).1 hP trivial
  exact ⟨k, o, h1, h2, h3, hQ⟩
theorem lw_frame {s t : State} {o : Outcome} {args : Array Value} (h : Framed s o t [] 601024 7293034) :
    Framed s o t (fieldLocs frame_1_writes args s ++ arrayLocs frame_1_arrays args s ++ staticLocs frame_1_statics s) 601024 7293034 := h
theorem lw_limb (hlaw : sd_LawOK) (L : Cond) (hL : ∀ (args : Array Value) (s t : State), L.after args s (.returned (some (.int 1))) t = true) :
    ArmFor flags0 classFile x code maxLocals ret World_1 tables_1 room_1 Calls_1 rest_1 Pre_1
      (fun tb e a s o t => postC L tb e a s o t ∧ Framed s o t (fieldLocs frame_1_writes a s ++ arrayLocs frame_1_arrays a s ++ staticLocs frame_1_statics s) 601024 7293034) := by
  intro l hfl _ _ p e ha hc hk s m args below hf hfit hheap happ hpre
  obtain ⟨k, o, h1, h2, h3, rfl, hF⟩ := lw_comes hlaw l (by unfold Launch.stackTraces; rw [hfl]; decide) p e ha hc hk s m args below hf hfit hheap happ hpre
  exact ⟨k, _, h1, h2, h3, hL args s _, lw_frame hF⟩
theorem sd_vc (hlaw : sd_LawOK) : Claimed_1_1 ∧ Claimed_1_2 := ⟨lw_limb hlaw limb_1_1 (fun args s t => by simp [limb_1_1, Cond.after, Cond.holds, Cond.value]), lw_limb hlaw limb_1_2 (fun args s t => Cond.after_iff.mpr (by
  first | (rw [show limb_1_2 = Cond.eq .result (.int 1) from rfl, Cond.eq_ints (x := 1) (y := 1) rfl rfl]; simp; done) | (simp [limb_1_2, Cond.value, Term.eval]; done)))⟩
