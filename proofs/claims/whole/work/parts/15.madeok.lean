/-! THE CONSTRUCTORS' MACHINE IS SOUND -/
def sd_wldN (ad : Nat → Nat) (cA : Nat → ClassId) (σ : sd_Mem) (n : Nat) : va_W := (List.range n).map (fun k => (ad k, sd_cell sd_E0 ad cA σ k))
theorem sd_wldN_get {ad : Nat → Nat} {cA : Nat → ClassId} {σ : sd_Mem} {k n : Nat} (h : k < n) : (sd_wldN ad cA σ n)[k]? = some (ad k, sd_cell sd_E0 ad cA σ k) := by
  unfold sd_wldN
  rw [List.getElem?_map, List.getElem?_range h]
  rfl
theorem sd_wldN_succ {ad : Nat → Nat} {cA : Nat → ClassId} {σ : sd_Mem} {n : Nat} : sd_wldN ad cA σ (n + 1) = sd_wldN ad cA σ n ++ [(ad n, sd_cell sd_E0 ad cA σ n)] := by
  unfold sd_wldN
  rw [List.range_succ, List.map_append]
  rfl
theorem sd_wldN_congr {ad : Nat → Nat} {cA : Nat → ClassId} {σ σ' : sd_Mem} {n : Nat} (hj : ∀ j, j < n → sd_cell sd_E0 ad cA σ' j = sd_cell sd_E0 ad cA σ j) : sd_wldN ad cA σ n = sd_wldN ad cA σ' n := by
  unfold sd_wldN
  apply List.map_congr_left
  intro k hk
  rw [hj k (List.mem_range.mp hk)]
theorem sd_wldN_set {ad : Nat → Nat} {cA : Nat → ClassId} {σ σ' : sd_Mem} {k n : Nat} {e : va_E} (hj : ∀ j, j ≠ k → sd_cell sd_E0 ad cA σ' j = sd_cell sd_E0 ad cA σ j) (he : sd_cell sd_E0 ad cA σ' k = e) : (sd_wldN ad cA σ n).set k (ad k, e) = sd_wldN ad cA σ' n := by
  apply List.ext_getElem?
  intro j
  unfold sd_wldN
  by_cases hl : j < n
  · by_cases hjk : j = k
    · subst hjk
      rw [List.getElem?_set_self (by simpa using hl), List.getElem?_map, List.getElem?_range hl, ← he]
      rfl
    · rw [List.getElem?_set_ne (Ne.symm hjk), List.getElem?_map, List.getElem?_map, List.getElem?_range hl]
      show some (ad j, sd_cell sd_E0 ad cA σ j) = some (ad j, sd_cell sd_E0 ad cA σ' j)
      rw [hj j hjk]
  · rw [List.getElem?_eq_none (by simp; omega), List.getElem?_eq_none (by simp; omega)]
def sd_df (σ : sd_Mem) (n : Nat) : Prop := ∀ k, n ≤ k → ∀ i, σ.1 k i = 0 ∧ σ.2.1 k i = 0 ∧ σ.2.2 k i = none
def sd_cAd (ad : Nat → Nat) (B0 : Nat) : Prop := ∀ k, k < 302 → ad k = B0 + k
def sd_cI (ad : Nat → Nat) (B0 : Nat) (D : va_G) (cA : Nat → ClassId) (n : Nat) (σ : sd_Mem) (H : Heap) : Prop := va_P D sd_cl (sd_wldN ad cA σ n) H ∧ H.size = B0 + n ∧ n ≤ 302 ∧ sd_df σ n
theorem sd_DN {ad : Nat → Nat} {B0 : Nat} {cA : Nat → ClassId} {σ : sd_Mem} {n : Nat} (h : sd_cAd ad B0) (hn : n ≤ 302) : va_D (fun q => B0 ≤ q) (sd_wldN ad cA σ n) := by
  have key : ∀ (k : Nat) (q : Nat × va_E), (sd_wldN ad cA σ n)[k]? = some q → k < n ∧ q.1 = B0 + k := by
    intro k q hq
    have hl : k < n := by
      have := (List.getElem?_eq_some_iff.mp hq).1
      simpa [sd_wldN] using this
    rw [sd_wldN_get hl] at hq
    cases hq
    exact ⟨hl, h k (by omega)⟩
  refine ⟨fun i j x y hi hj e => ?_, fun k q hq => ?_⟩
  · obtain ⟨a1, a2⟩ := key i x hi
    obtain ⟨b1, b2⟩ := key j y hj
    omega
  · obtain ⟨a1, a2⟩ := key k q hq
    show B0 ≤ q.1
    omega
def sd_aoa (U : State) : Prop := ∀ A : Array Value, (Cond.arrayOver (.array .int)).before A U = true
def sd_cCtx (p : Program) (s : State) (m : MethodId) (args : Array Value) (meth : Method) (c : Code) (ad : Nat → Nat) (B0 : Nat) (D : va_G) (cA : Nat → ClassId) (y : Nat) : Prop :=
  p.tables.exec = Jvm.exec ∧ c.code = (sd_m y).2.1 ∧ c.maxLocals = (sd_m y).2.2.1 ∧ s.vm.findClass (sd_R (sd_m y).2.2.2.2.1) = some m.cls ∧ (∀ w ∈ sd_tbl, w.before args s = true) ∧ va_K D sd_cl (sd_tys cA) s ∧ (va_AO "SwornDays$State" s ∧ sd_aoa s) ∧ sd_Nw ad s ∧ sd_cAd ad B0 ∧ meth.name = (sd_m y).1.name ∧ B0 ≤ s.heap.size
theorem sd_cL_ok {len n : Nat} {r : sd_cO} {z : sd_cS ⊕ (Nat × List Value × List Value) ⊕ Unit} (h : sd_cL len n r = some z) : len = n ∧ r = some z := by
  unfold sd_cL at h
  split at h
  · exact ⟨by assumption, h⟩
  · cases h
theorem sd_cnW {o i ci z : Nat} (h : sd_cn o i = some (ci, z)) : ci < 12 ∧ Cond.classLink (sd_R o) i (sd_C ci).1 ∈ sd_tbl := by
  unfold sd_cn at h
  split at h
  · rename_i hi
    have h1 := of_decide_eq_true (sd_cnok _ (sd_findM h))
    rw [show (o * 65536 + i) / 65536 = o by omega, show (o * 65536 + i) % 65536 = i by omega] at h1
    exact ⟨h1.1, sd_inT h1.2 rfl⟩
  · cases h
theorem sd_oiW {o i z : Nat} (h : sd_oi o i = some z) : Cond.methodLink (sd_R o) i objectInit ∈ sd_tbl := by
  unfold sd_oi at h
  split at h
  · rename_i hi
    have h1 := of_decide_eq_true (sd_oiok _ (sd_findM h))
    rw [show (o * 65536 + i) / 65536 = o by omega, show (o * 65536 + i) % 65536 = i by omega] at h1
    exact sd_inT h1 rfl
  · cases h
/-- a new cell at the end -/
theorem sd_cI_push {ad : Nat → Nat} {B0 : Nat} {D : va_G} {cA : Nat → ClassId} {n : Nat} {σ : sd_Mem} {H H1 : Heap} (hAd : sd_cAd ad B0) (h : sd_cI ad B0 D cA n σ H) (hn : n < 302) (z1 : H1.size = H.size + 1) (o1 : ∀ q, q < H.size → H1[q]? = H[q]?) (he : va_at D sd_cl (ad n, sd_cell sd_E0 ad cA σ n) H1) : sd_cI ad B0 D cA (n + 1) σ H1 := by
  obtain ⟨hP, hz, hl, hd⟩ := h
  refine ⟨?_, by omega, by omega, fun k hk => hd k (by omega)⟩
  rw [sd_wldN_succ]
  refine (hP.kept (fun k x hx => o1 x.1 ((hP k x hx).lt))).app (fun k x hx => ?_)
  have hk : k < 1 := (List.getElem?_eq_some_iff.mp hx).1
  rw [show k = 0 by omega] at hx
  cases hx
  exact he
theorem sd_S_push {A : Nat → Prop} {H0 H H1 : Heap} {locs : List Loc} (hS : va_S A H0 H locs) (z1 : H1.size = H.size + 1) (o1 : ∀ q, q < H.size → H1[q]? = H[q]?) : va_S A H0 H1 locs :=
  List.append_nil locs ▸ sd_S_after hS (by omega) (fun q hq _ => o1 q hq) (L := []) (fun _ no => nomatch no)
theorem sd_new_dflt {ad : Nat → Nat} {σ : sd_Mem} {n ci : Nat} (hd : sd_df σ n) (hci : ci < 12) : ∀ j, j < (sd_C ci).2.2 → defaultValue (sd_ty ci j) = vp_V ((List.range (sd_C ci).2.2).map (fun i => sd_cv ad (sd_val sd_E0 σ n ci i))) j := by
  intro j hj
  have e : vp_V ((List.range (sd_C ci).2.2).map (fun i => sd_cv ad (sd_val sd_E0 σ n ci i))) j = sd_cv ad (sd_val sd_E0 σ n ci j) := by
    unfold vp_V
    rw [List.getD_eq_getElem?_getD, List.getElem?_map, List.getElem?_range hj]
    rfl
  rw [e]
  have hk := sd_kdok ci hci j hj
  unfold sd_kdchk at hk
  obtain ⟨h1, h2, h3⟩ := hd n (Nat.le_refl _) j
  unfold sd_val sd_gR
  rw [h1, h2, h3]
  split at hk
  · rename_i e1
    rw [of_decide_eq_true hk, e1]
    rfl
  · rename_i e1
    rw [of_decide_eq_true hk, e1]
    rfl
  · rename_i e1
    rw [e1]
    revert hk
    cases sd_ty ci j <;> intro hk <;> first | rfl | cases hk
  · rename_i e1
    rw [of_decide_eq_true hk, e1]
    rfl
  · cases hk

theorem sd_put1_df {σ σ' : sd_Mem} {a ci f n : Nat} {v : Value} (h : sd_put1 sd_E0 σ a ci f v = some σ') (han : a < n) (hd : sd_df σ n) : sd_df σ' n := by
  intro k hk i
  obtain ⟨b1, b2, b3⟩ := hd k hk i
  have hne : ∀ P : Prop, ¬ (k = a ∧ P) := fun P q => by omega
  unfold sd_put1 at h
  split at h
  · cases h
    exact ⟨(if_neg (hne _)).trans b1, b2, b3⟩
  · split at h
    · cases h
      exact ⟨(if_neg (hne _)).trans b1, b2, b3⟩
    · cases h
  · cases h
    exact ⟨b1, (if_neg (hne _)).trans b2, b3⟩
  · split at h
    · cases h
      exact ⟨b1, b2, (if_neg (hne _)).trans b3⟩
    · cases h
  · cases h
section SDZ
variable {p : Program} {l : Launch} {e : Env} {R : Room} {s : State} {m : MethodId} {args : Array Value} {below : List Frame} {meth : Method} {c : Code} {Q : State → Prop}
variable {H H0 : Heap} {locs : List Loc} {cells slots : Nat} {cc : ByteArray} {pc a : Nat} {ls : Array Slot} {rest : List Value}
variable {D : va_G} {cl : List vw_C} {tys : List (ClassId × FieldType)} {ws : va_W} {A : Nat → Prop}
/-- an object of the world: its class, the field behind its place k, its cell -/
theorem sd_objZ {C : String} {T : u_T} {N ci k q0 : Nat} {Ts : List Cond} {fs : List Value} (hts : ∀ w ∈ Ts, w.before args s = true) (hin : ∀ w ∈ u_ws C T N, w ∈ Ts) (hK : va_K D cl tys s) (hP : va_P D cl ws H) (he : ws[q0]? = some (a, .inr (ci, fs))) (hc : cl[ci]? = some (C, T, N)) (hk : k < N) :
    (∃ kC : Class, s.vm.findClass C = some (D.1 ci) ∧ s.vm.classes[D.1 ci]? = some kC ∧ kC.kind = .ordinary ∧
      ∃ (cf : Nat) (kf : Class) (fi : Nat) (f : Field), s.fieldFound? (T k).1 (T k).2.1 (T k).2.2.1 = some (cf, kf, fi, f) ∧ f.slot = D.2 ci k ∧ f.isStatic = false) ∧ t_OB a (D.1 ci) N (D.2 ci) H (vp_V fs) := by
  obtain ⟨places, named, kC, known, ord⟩ := hK.1 ci _ hc
  obtain ⟨cf, kf, fi, f, found, slot⟩ := places k hk
  refine ⟨⟨kC, named, known, ord, cf, kf, fi, f, found, slot, (u_facts named known (u_lays hts hin hk) found).1⟩, ?_⟩
  obtain ⟨r, hr, hO⟩ := hP q0 _ he
  rw [hc] at hr
  cases hr
  exact hO
/-- the world, when the field behind place k of one of its objects has been written -/
theorem sd_wroteZ {C : String} {T : u_T} {N ci k q0 : Nat} {fs : List Value} (apart : ∀ x y, x < N → y < N → x ≠ y → D.2 ci x ≠ D.2 ci y) (hP : va_P D cl ws H) (hD : va_D A ws) (hS : va_S A H0 H locs) (he : ws[q0]? = some (a, .inr (ci, fs))) (hc : cl[ci]? = some (C, T, N)) (hk : k < N) (hl : k < fs.length)
    {cell : Cell} (hcls : cell.cls = D.1 ci) (hvm : cell.vm = .none) (hsl : ∀ j, j < N → cell.slots[D.2 ci j]? = some (vp_V fs j)) {v : Value} {H1 : Heap} (g1 : H1[a]? = some (cell.setSlot (D.2 ci k) v)) (g2 : H1.size = H.size) (g3 : ∀ q : Nat, q ≠ a → H1[q]? = H[q]?) :
    va_P D cl (ws.set q0 (a, .inr (ci, fs.set k v))) H1 ∧ ∀ i, va_S A H0 H1 (locs ++ [⟨a, i⟩]) := by
  refine ⟨hP.set hD he ⟨(C, T, N), hc, cell.setSlot (D.2 ci k) v, g1, hcls, hvm, fun j hj => ?_⟩ g3, fun i => hS.put g2 g3 (hD.2 q0 _ he)⟩
  rw [← vp_updV_set hl]
  exact t_set hsl apart hk v j hj
/-- a field is written, final or not; the heap keeps its size -/
theorem sd_putZ (hexec : p.tables.exec = Jvm.exec) (hb : c.code = cc) {own C : String} {T : u_T} {N ci index : Nat} {Ts : List Cond} (hts : ∀ w ∈ Ts, w.before args s = true) (hin : ∀ w ∈ u_ws C T N, w ∈ Ts) (ty0 : Nat → FieldType) (hty : ∀ k, k < N → parseFieldDescriptor (T k).2.2.1 = some (ty0 k)) (hnm : ∀ a, a < N → ∀ b, b < N → a ≠ b → (T a).2.1 ≠ (T b).2.1) (hown : s.vm.findClass own = some m.cls) (hK : va_K D cl tys s) (hP : va_P D cl ws H) (hD : va_D A ws) (hS0 : va_S A H0 H locs) (q0 : Nat) {fs : List Value} (he : ws[q0]? = some (a, .inr (ci, fs))) (hc : cl[ci]? = some (C, T, N)) (k : Nat) (hk : k < N) (hlink : (Cond.fieldLink own index (T k).1 (T k).2.1 (T k).2.2.1).before args s = true) (hfin : (T k).2.2.2 = false ∨ (meth.name = "<init>" ∧ (T k).1 = own)) {ty : FieldType} {v : Value} (hd : parseFieldDescriptor (T k).2.2.1 = some ty) (hn : narrow ty v = v) (hfit : fits ty v = true) (hl : k < fs.length)
    (hdg : decode cc pc = .ok (.putfield index, 3)) (kk : ∀ (H1 : Heap) (locs1 : List Loc), H1.size = H.size → va_P D cl (ws.set q0 (a, .inr (ci, fs.set k v))) H1 → va_S A H0 H1 locs1 → W p l e R s m args below meth c H1 locs1 cells slots Q (F0 m (pc + 3) ls rest)) : W p l e R s m args below meth c H locs cells slots Q (F0 m pc ls (v :: .ref a :: rest)) := by
  obtain ⟨⟨kC, named, known, ord, cf, kf, fi, f, found, slot, inst⟩, cell, there, hcls, hvm, hsl⟩ := sd_objZ hts hin hK hP he hc hk
  have big : f.slot < cell.slots.size := by
    rw [slot]
    exact k2_hasslot (hsl k hk)
  have after : ∀ H' : Heap, H'[a]? = some (cell.setSlot f.slot v) → H'.size = H.size → (∀ q : Nat, q ≠ a → H'[q]? = H[q]?) → W p l e R s m args below meth c H' (locs ++ [⟨a, f.slot⟩]) cells slots Q (F0 m (pc + 3) ls rest) := fun H' g1 g2 g3 => by
    rw [slot] at g1
    obtain ⟨z1, z2⟩ := sd_wroteZ (va_apart (own := own) hts hin ty0 hty hnm hK hc) hP hD hS0 he hc hk hl hcls hvm hsl g1 g2 g3
    exact kk H' _ g2 z1 (z2 _)
  have word := hts _ (hin _ (u_in_lay hk))
  unfold u_lay at word
  split at word
  · rename_i fin
    obtain ⟨ini, decl⟩ : meth.name = "<init>" ∧ (T k).1 = own := hfin.resolve_left (by rw [fin]; decide)
    have mine : m.cls = cf := by
      obtain ⟨_, _, cd, _, _, _, -, -, fd, -, -, -, od, -⟩ := Cond.laysFinal_spec word
      rw [found] at fd
      rw [decl, hown] at od
      cases fd
      exact Option.some.inj od
    exact W.putFinK hexec hb hown hlink found inst mine ini (hcls.symm ▸ u_fits named known ord (Or.inr word) found hd hn hfit) there hvm big rfl rfl hdg after
  · exact W.putK hexec hb ⟨hown, hlink, ⟨_, _, _, found⟩, inst⟩ (hcls.symm ▸ u_store named known ord word found hd hn hfit) there hvm big rfl rfl hdg after
/-- a row of references with one of them put anew -/
theorem sd_rowZ (cA : ClassId) (n i v : Nat) (f : Nat → Option Nat) : (arrV cA n fun j => va_rf (f j)).setSlot i (.ref v) = arrV cA n fun j => va_rf (va_up f i (some v) j) := by
  rw [arrV_store]
  refine congrArg (arrV cA n) (funext fun j => ?_)
  by_cases h : j = i <;> simp [updV, va_up, va_rf, h]
theorem sd_astZ (hexec : p.tables.exec = Jvm.exec) (hb : c.code = cc) (hK : va_K D cl tys s) (hP : va_P D cl ws H) (hD : va_D A ws) (hS : va_S A H0 H locs) (q0 t0 qk ci : Nat) {cA : ClassId} {r : vw_C} {n v : Nat} {vs : List Value} {f : Nat → Option Nat} (ha : ws[q0]? = some (a, .inl (cA, n, .inr (.inr (.inr (.inr f)))))) (ht : tys[t0]? = some (cA, .object r.1)) (hv : ws[qk]? = some (v, .inr (ci, vs))) (hc : cl[ci]? = some r) {i : Int32} (hin : vp_in i n) (hdg : decode cc pc = .ok (.aastore, 1))
    (kk : ∀ (H1 : Heap) (locs1 : List Loc), H1.size = H.size → va_P D cl (ws.set q0 (a, .inl (cA, n, .inr (.inr (.inr (.inr (va_up f i.toNatClampNeg (some v)))))))) H1 → va_S A H0 H1 locs1 → W p l e R s m args below meth c H1 locs1 cells slots Q (F0 m (pc + 1) ls rest)) : W p l e R s m args below meth c H locs cells slots Q (F0 m pc ls (.ref v :: .int i :: .ref a :: rest)) := by
  obtain ⟨_, -, x, there, xc, xv, -⟩ := hP qk _ hv
  obtain ⟨-, named, kC, known, ord⟩ := hK.1 ci r hc
  obtain ⟨kA, comp, a1, a2, a3, -⟩ := (hK.2 t0 _ ht).2
  rw [named] at a3
  cases a3
  have inside : i.toNatClampNeg < (arrV cA n fun j => va_rf (f j)).slots.size := by
    rw [arrV_size]
    exact Nat.lt_of_not_le fun q => hin (.inr q)
  refine W.aast hexec hb (cell := arrV cA n fun j => va_rf (f j)) (hP q0 _ ha) (fun _ q => nomatch q) (fun q => nomatch q) a1 a2 rfl known ⟨fun q => hin (.inl q), inside⟩ there (fun _ q => nomatch xv.symm.trans q) (xc.symm ▸ known) (xc.symm ▸ va_assign ⟨named, kC, known, ord⟩) rfl rfl hdg fun H1 g1 g2 g3 => ?_
  rw [sd_rowZ] at g1
  exact kk H1 _ g2 (hP.set hD ha g1 g3) (hS.put g2 g3 (hD.2 q0 _ ha))
end SDZ
section SDCN
variable {p : Program} {l : Launch} {e : Env} {R : Room} {s : State} {m : MethodId} {args : Array Value} {below : List Frame} {meth : Method} {c : Code} {Q : State → Prop}
variable {ad : Nat → Nat} {B0 : Nat} {D : va_G} {cA : Nat → ClassId} {y : Nat} {pc : Nat} {ls st : List Value} {σ : sd_Mem} {n kc ks : Nat} {pc' : Nat} {ls' st' : List Value} {σ' : sd_Mem} {n' kc' ks' : Nat} {len : Nat}
theorem sd_k_iconst {v : Int} (K : sd_cCtx p s m args meth c ad B0 D cA y) (hf : 1 ≤ R.frames ∧ 40 ≤ R.locals ∧ kc' ≤ R.cells ∧ ks' ≤ R.slots) (hd : decode (sd_m y).2.1 pc = .ok (.iconst v, len)) (h : sd_cins (sd_m y).2.2.2.2.1 (decide ((sd_m y).1.name = "<init>")) (.iconst v) len pc ls st σ n kc ks = some (.inl (pc', ls', st', σ', n', kc', ks'))) (k : ∀ (H : Heap) (locs : List Loc) (sl : Array Slot), sd_cI ad B0 D cA n' σ' H → va_S (fun q => B0 ≤ q) s.heap H locs → sd_has ad sl (sd_m y).2.2.1 ls' → W p l e R s m args below meth c H locs kc' ks' Q (F0 m pc' sl (st'.map (sd_cv ad)))) : ∀ (H : Heap) (locs : List Loc) (sl : Array Slot), sd_cI ad B0 D cA n σ H → va_S (fun q => B0 ≤ q) s.heap H locs → sd_has ad sl (sd_m y).2.2.1 ls → W p l e R s m args below meth c H locs kc ks Q (F0 m pc sl (st.map (sd_cv ad))) := by
  obtain ⟨hx, hb, hml, hown, hts, hK, hao, hN, hAd, hnm, hB⟩ := K
  intro H locs sl hI hS hl
  have h9 := sd_cL_ok (r := _) h
  clear h
  obtain ⟨rfl, h⟩ := h9
  cases h
  exact lv_iconst hx hb hd rfl (k H locs sl hI hS hl)
theorem sd_k_bipush {v : Int} (K : sd_cCtx p s m args meth c ad B0 D cA y) (hf : 1 ≤ R.frames ∧ 40 ≤ R.locals ∧ kc' ≤ R.cells ∧ ks' ≤ R.slots) (hd : decode (sd_m y).2.1 pc = .ok (.bipush v, len)) (h : sd_cins (sd_m y).2.2.2.2.1 (decide ((sd_m y).1.name = "<init>")) (.bipush v) len pc ls st σ n kc ks = some (.inl (pc', ls', st', σ', n', kc', ks'))) (k : ∀ (H : Heap) (locs : List Loc) (sl : Array Slot), sd_cI ad B0 D cA n' σ' H → va_S (fun q => B0 ≤ q) s.heap H locs → sd_has ad sl (sd_m y).2.2.1 ls' → W p l e R s m args below meth c H locs kc' ks' Q (F0 m pc' sl (st'.map (sd_cv ad)))) : ∀ (H : Heap) (locs : List Loc) (sl : Array Slot), sd_cI ad B0 D cA n σ H → va_S (fun q => B0 ≤ q) s.heap H locs → sd_has ad sl (sd_m y).2.2.1 ls → W p l e R s m args below meth c H locs kc ks Q (F0 m pc sl (st.map (sd_cv ad))) := by
  obtain ⟨hx, hb, hml, hown, hts, hK, hao, hN, hAd, hnm, hB⟩ := K
  intro H locs sl hI hS hl
  have h9 := sd_cL_ok (r := _) h
  clear h
  obtain ⟨rfl, h⟩ := h9
  cases h
  exact lv_bipush hx hb hd rfl (k H locs sl hI hS hl)
theorem sd_k_sipush {v : Int} (K : sd_cCtx p s m args meth c ad B0 D cA y) (hf : 1 ≤ R.frames ∧ 40 ≤ R.locals ∧ kc' ≤ R.cells ∧ ks' ≤ R.slots) (hd : decode (sd_m y).2.1 pc = .ok (.sipush v, len)) (h : sd_cins (sd_m y).2.2.2.2.1 (decide ((sd_m y).1.name = "<init>")) (.sipush v) len pc ls st σ n kc ks = some (.inl (pc', ls', st', σ', n', kc', ks'))) (k : ∀ (H : Heap) (locs : List Loc) (sl : Array Slot), sd_cI ad B0 D cA n' σ' H → va_S (fun q => B0 ≤ q) s.heap H locs → sd_has ad sl (sd_m y).2.2.1 ls' → W p l e R s m args below meth c H locs kc' ks' Q (F0 m pc' sl (st'.map (sd_cv ad)))) : ∀ (H : Heap) (locs : List Loc) (sl : Array Slot), sd_cI ad B0 D cA n σ H → va_S (fun q => B0 ≤ q) s.heap H locs → sd_has ad sl (sd_m y).2.2.1 ls → W p l e R s m args below meth c H locs kc ks Q (F0 m pc sl (st.map (sd_cv ad))) := by
  obtain ⟨hx, hb, hml, hown, hts, hK, hao, hN, hAd, hnm, hB⟩ := K
  intro H locs sl hI hS hl
  have h9 := sd_cL_ok (r := _) h
  clear h
  obtain ⟨rfl, h⟩ := h9
  cases h
  exact lv_sipush hx hb hd rfl (k H locs sl hI hS hl)
theorem sd_k_lconst {v : Fin 2} (K : sd_cCtx p s m args meth c ad B0 D cA y) (hf : 1 ≤ R.frames ∧ 40 ≤ R.locals ∧ kc' ≤ R.cells ∧ ks' ≤ R.slots) (hd : decode (sd_m y).2.1 pc = .ok (.lconst v, len)) (h : sd_cins (sd_m y).2.2.2.2.1 (decide ((sd_m y).1.name = "<init>")) (.lconst v) len pc ls st σ n kc ks = some (.inl (pc', ls', st', σ', n', kc', ks'))) (k : ∀ (H : Heap) (locs : List Loc) (sl : Array Slot), sd_cI ad B0 D cA n' σ' H → va_S (fun q => B0 ≤ q) s.heap H locs → sd_has ad sl (sd_m y).2.2.1 ls' → W p l e R s m args below meth c H locs kc' ks' Q (F0 m pc' sl (st'.map (sd_cv ad)))) : ∀ (H : Heap) (locs : List Loc) (sl : Array Slot), sd_cI ad B0 D cA n σ H → va_S (fun q => B0 ≤ q) s.heap H locs → sd_has ad sl (sd_m y).2.2.1 ls → W p l e R s m args below meth c H locs kc ks Q (F0 m pc sl (st.map (sd_cv ad))) := by
  obtain ⟨hx, hb, hml, hown, hts, hK, hao, hN, hAd, hnm, hB⟩ := K
  intro H locs sl hI hS hl
  have h9 := sd_cL_ok (r := _) h
  clear h
  obtain ⟨rfl, h⟩ := h9
  cases h
  exact lv_lconst hx hb hd rfl (k H locs sl hI hS hl)
theorem sd_k_ldc {v : Nat} (K : sd_cCtx p s m args meth c ad B0 D cA y) (hf : 1 ≤ R.frames ∧ 40 ≤ R.locals ∧ kc' ≤ R.cells ∧ ks' ≤ R.slots) (hd : decode (sd_m y).2.1 pc = .ok (.ldc v, len)) (h : sd_cins (sd_m y).2.2.2.2.1 (decide ((sd_m y).1.name = "<init>")) (.ldc v) len pc ls st σ n kc ks = some (.inl (pc', ls', st', σ', n', kc', ks'))) (k : ∀ (H : Heap) (locs : List Loc) (sl : Array Slot), sd_cI ad B0 D cA n' σ' H → va_S (fun q => B0 ≤ q) s.heap H locs → sd_has ad sl (sd_m y).2.2.1 ls' → W p l e R s m args below meth c H locs kc' ks' Q (F0 m pc' sl (st'.map (sd_cv ad)))) : ∀ (H : Heap) (locs : List Loc) (sl : Array Slot), sd_cI ad B0 D cA n σ H → va_S (fun q => B0 ≤ q) s.heap H locs → sd_has ad sl (sd_m y).2.2.1 ls → W p l e R s m args below meth c H locs kc ks Q (F0 m pc sl (st.map (sd_cv ad))) := by
  obtain ⟨hx, hb, hml, hown, hts, hK, hao, hN, hAd, hnm, hB⟩ := K
  intro H locs sl hI hS hl
  have h9 := sd_cL_ok (r := _) h
  clear h
  obtain ⟨rfl, h⟩ := h9
  cases hq : sd_sc (sd_m y).2.2.2.2.1 v with
  | none => rw [hq] at h; cases h
  | some q =>
    rw [hq] at h
    cases h
    exact va_ldcS hx hb hown (sd_scW hq hN) hd (k H locs sl hI hS hl)
theorem sd_k_iload_n {v : Fin 4} (K : sd_cCtx p s m args meth c ad B0 D cA y) (hf : 1 ≤ R.frames ∧ 40 ≤ R.locals ∧ kc' ≤ R.cells ∧ ks' ≤ R.slots) (hd : decode (sd_m y).2.1 pc = .ok (.iload_n v, len)) (h : sd_cins (sd_m y).2.2.2.2.1 (decide ((sd_m y).1.name = "<init>")) (.iload_n v) len pc ls st σ n kc ks = some (.inl (pc', ls', st', σ', n', kc', ks'))) (k : ∀ (H : Heap) (locs : List Loc) (sl : Array Slot), sd_cI ad B0 D cA n' σ' H → va_S (fun q => B0 ≤ q) s.heap H locs → sd_has ad sl (sd_m y).2.2.1 ls' → W p l e R s m args below meth c H locs kc' ks' Q (F0 m pc' sl (st'.map (sd_cv ad)))) : ∀ (H : Heap) (locs : List Loc) (sl : Array Slot), sd_cI ad B0 D cA n σ H → va_S (fun q => B0 ≤ q) s.heap H locs → sd_has ad sl (sd_m y).2.2.1 ls → W p l e R s m args below meth c H locs kc ks Q (F0 m pc sl (st.map (sd_cv ad))) := by
  obtain ⟨hx, hb, hml, hown, hts, hK, hao, hN, hAd, hnm, hB⟩ := K
  intro H locs sl hI hS hl
  have h9 := sd_cL_ok (r := _) h
  clear h
  obtain ⟨rfl, h⟩ := h9
  split at h
  · rename_i x hv
    cases h
    exact lv_iload_n hx hb hd rfl (sd_has_get hl hv rfl) (k H locs sl hI hS hl)
  · cases h
theorem sd_k_aload_n {v : Fin 4} (K : sd_cCtx p s m args meth c ad B0 D cA y) (hf : 1 ≤ R.frames ∧ 40 ≤ R.locals ∧ kc' ≤ R.cells ∧ ks' ≤ R.slots) (hd : decode (sd_m y).2.1 pc = .ok (.aload_n v, len)) (h : sd_cins (sd_m y).2.2.2.2.1 (decide ((sd_m y).1.name = "<init>")) (.aload_n v) len pc ls st σ n kc ks = some (.inl (pc', ls', st', σ', n', kc', ks'))) (k : ∀ (H : Heap) (locs : List Loc) (sl : Array Slot), sd_cI ad B0 D cA n' σ' H → va_S (fun q => B0 ≤ q) s.heap H locs → sd_has ad sl (sd_m y).2.2.1 ls' → W p l e R s m args below meth c H locs kc' ks' Q (F0 m pc' sl (st'.map (sd_cv ad)))) : ∀ (H : Heap) (locs : List Loc) (sl : Array Slot), sd_cI ad B0 D cA n σ H → va_S (fun q => B0 ≤ q) s.heap H locs → sd_has ad sl (sd_m y).2.2.1 ls → W p l e R s m args below meth c H locs kc ks Q (F0 m pc sl (st.map (sd_cv ad))) := by
  obtain ⟨hx, hb, hml, hown, hts, hK, hao, hN, hAd, hnm, hB⟩ := K
  intro H locs sl hI hS hl
  have h9 := sd_cL_ok (r := _) h
  clear h
  obtain ⟨rfl, h⟩ := h9
  split at h
  · rename_i x hv
    cases h
    exact lv_aload_n hx hb hd rfl (sd_has_get hl hv rfl) (k H locs sl hI hS hl)
  · cases h
theorem sd_k_istore_n {v : Fin 4} (K : sd_cCtx p s m args meth c ad B0 D cA y) (hf : 1 ≤ R.frames ∧ 40 ≤ R.locals ∧ kc' ≤ R.cells ∧ ks' ≤ R.slots) (hd : decode (sd_m y).2.1 pc = .ok (.istore_n v, len)) (h : sd_cins (sd_m y).2.2.2.2.1 (decide ((sd_m y).1.name = "<init>")) (.istore_n v) len pc ls st σ n kc ks = some (.inl (pc', ls', st', σ', n', kc', ks'))) (k : ∀ (H : Heap) (locs : List Loc) (sl : Array Slot), sd_cI ad B0 D cA n' σ' H → va_S (fun q => B0 ≤ q) s.heap H locs → sd_has ad sl (sd_m y).2.2.1 ls' → W p l e R s m args below meth c H locs kc' ks' Q (F0 m pc' sl (st'.map (sd_cv ad)))) : ∀ (H : Heap) (locs : List Loc) (sl : Array Slot), sd_cI ad B0 D cA n σ H → va_S (fun q => B0 ≤ q) s.heap H locs → sd_has ad sl (sd_m y).2.2.1 ls → W p l e R s m args below meth c H locs kc ks Q (F0 m pc sl (st.map (sd_cv ad))) := by
  obtain ⟨hx, hb, hml, hown, hts, hK, hao, hN, hAd, hnm, hB⟩ := K
  intro H locs sl hI hS hl
  have h9 := sd_cL_ok (r := _) h
  clear h
  obtain ⟨rfl, h⟩ := h9
  split at h
  · split at h
    · rename_i hn
      cases h
      exact lv_istore_n hx hb hd rfl hl.1 (hl.2 ▸ hn) rfl (fun sl2 hl2 => k H locs sl2 hI hS (sd_has_put1 hl.2 rfl hl2))
    · cases h
  · cases h
theorem sd_k_iinc {v : Nat} {t : Int} (K : sd_cCtx p s m args meth c ad B0 D cA y) (hf : 1 ≤ R.frames ∧ 40 ≤ R.locals ∧ kc' ≤ R.cells ∧ ks' ≤ R.slots) (hd : decode (sd_m y).2.1 pc = .ok (.iinc v t, len)) (h : sd_cins (sd_m y).2.2.2.2.1 (decide ((sd_m y).1.name = "<init>")) (.iinc v t) len pc ls st σ n kc ks = some (.inl (pc', ls', st', σ', n', kc', ks'))) (k : ∀ (H : Heap) (locs : List Loc) (sl : Array Slot), sd_cI ad B0 D cA n' σ' H → va_S (fun q => B0 ≤ q) s.heap H locs → sd_has ad sl (sd_m y).2.2.1 ls' → W p l e R s m args below meth c H locs kc' ks' Q (F0 m pc' sl (st'.map (sd_cv ad)))) : ∀ (H : Heap) (locs : List Loc) (sl : Array Slot), sd_cI ad B0 D cA n σ H → va_S (fun q => B0 ≤ q) s.heap H locs → sd_has ad sl (sd_m y).2.2.1 ls → W p l e R s m args below meth c H locs kc ks Q (F0 m pc sl (st.map (sd_cv ad))) := by
  obtain ⟨hx, hb, hml, hown, hts, hK, hao, hN, hAd, hnm, hB⟩ := K
  intro H locs sl hI hS hl
  have h9 := sd_cL_ok (r := _) h
  clear h
  obtain ⟨rfl, h⟩ := h9
  split at h
  · rename_i x hv
    split at h
    · rename_i hn
      cases h
      obtain ⟨i, hi⟩ := List.getElem?_of_mem (sd_lv_get (ad := ad) (j := 0) (show sd_ok (.int x) = true from rfl) hv)
      rw [Nat.zero_add] at hi
      exact lv_iinc hx hb hd hl.1 hi rfl (hl.2 ▸ hn) rfl (fun sl2 hl2 => k H locs sl2 hI hS (sd_has_put1 hl.2 rfl hl2))
    · cases h
  · cases h
theorem sd_k_icmp_ge {off : Int} (K : sd_cCtx p s m args meth c ad B0 D cA y) (hf : 1 ≤ R.frames ∧ 40 ≤ R.locals ∧ kc' ≤ R.cells ∧ ks' ≤ R.slots) (hd : decode (sd_m y).2.1 pc = .ok (.if_icmp .ge off, len)) (h : sd_cins (sd_m y).2.2.2.2.1 (decide ((sd_m y).1.name = "<init>")) (.if_icmp .ge off) len pc ls st σ n kc ks = some (.inl (pc', ls', st', σ', n', kc', ks'))) (k : ∀ (H : Heap) (locs : List Loc) (sl : Array Slot), sd_cI ad B0 D cA n' σ' H → va_S (fun q => B0 ≤ q) s.heap H locs → sd_has ad sl (sd_m y).2.2.1 ls' → W p l e R s m args below meth c H locs kc' ks' Q (F0 m pc' sl (st'.map (sd_cv ad)))) : ∀ (H : Heap) (locs : List Loc) (sl : Array Slot), sd_cI ad B0 D cA n σ H → va_S (fun q => B0 ≤ q) s.heap H locs → sd_has ad sl (sd_m y).2.2.1 ls → W p l e R s m args below meth c H locs kc ks Q (F0 m pc sl (st.map (sd_cv ad))) := by
  obtain ⟨hx, hb, hml, hown, hts, hK, hao, hN, hAd, hnm, hB⟩ := K
  intro H locs sl hI hS hl
  have h9 := sd_cL_ok (r := _) h
  clear h
  obtain ⟨rfl, h⟩ := h9
  split at h
  · rename_i b a r
    split at h
    · rename_i h0
      split at h
      · rename_i hc
        cases h
        exact lv_icmp_ge hx hb hd (Int.toNat_of_nonneg h0).symm (fun _ => k H locs sl hI hS hl) (fun q => absurd hc q)
      · rename_i hc
        cases h
        exact lv_icmp_ge hx hb hd (Int.toNat_of_nonneg h0).symm (fun q => absurd q hc) (fun _ => k H locs sl hI hS hl)
    · cases h
  · cases h
theorem sd_k_goto {off : Int} (K : sd_cCtx p s m args meth c ad B0 D cA y) (hf : 1 ≤ R.frames ∧ 40 ≤ R.locals ∧ kc' ≤ R.cells ∧ ks' ≤ R.slots) (hd : decode (sd_m y).2.1 pc = .ok (.goto off, len)) (h : sd_cins (sd_m y).2.2.2.2.1 (decide ((sd_m y).1.name = "<init>")) (.goto off) len pc ls st σ n kc ks = some (.inl (pc', ls', st', σ', n', kc', ks'))) (k : ∀ (H : Heap) (locs : List Loc) (sl : Array Slot), sd_cI ad B0 D cA n' σ' H → va_S (fun q => B0 ≤ q) s.heap H locs → sd_has ad sl (sd_m y).2.2.1 ls' → W p l e R s m args below meth c H locs kc' ks' Q (F0 m pc' sl (st'.map (sd_cv ad)))) : ∀ (H : Heap) (locs : List Loc) (sl : Array Slot), sd_cI ad B0 D cA n σ H → va_S (fun q => B0 ≤ q) s.heap H locs → sd_has ad sl (sd_m y).2.2.1 ls → W p l e R s m args below meth c H locs kc ks Q (F0 m pc sl (st.map (sd_cv ad))) := by
  obtain ⟨hx, hb, hml, hown, hts, hK, hao, hN, hAd, hnm, hB⟩ := K
  intro H locs sl hI hS hl
  have h9 := sd_cL_ok (r := _) h
  clear h
  obtain ⟨rfl, h⟩ := h9
  split at h
  · rename_i h0
    cases h
    exact lv_goto hx hb hd (Int.toNat_of_nonneg h0).symm (k H locs sl hI hS hl)
  · cases h
theorem sd_k_dup (K : sd_cCtx p s m args meth c ad B0 D cA y) (hf : 1 ≤ R.frames ∧ 40 ≤ R.locals ∧ kc' ≤ R.cells ∧ ks' ≤ R.slots) (hd : decode (sd_m y).2.1 pc = .ok (.dup, len)) (h : sd_cins (sd_m y).2.2.2.2.1 (decide ((sd_m y).1.name = "<init>")) (.dup) len pc ls st σ n kc ks = some (.inl (pc', ls', st', σ', n', kc', ks'))) (k : ∀ (H : Heap) (locs : List Loc) (sl : Array Slot), sd_cI ad B0 D cA n' σ' H → va_S (fun q => B0 ≤ q) s.heap H locs → sd_has ad sl (sd_m y).2.2.1 ls' → W p l e R s m args below meth c H locs kc' ks' Q (F0 m pc' sl (st'.map (sd_cv ad)))) : ∀ (H : Heap) (locs : List Loc) (sl : Array Slot), sd_cI ad B0 D cA n σ H → va_S (fun q => B0 ≤ q) s.heap H locs → sd_has ad sl (sd_m y).2.2.1 ls → W p l e R s m args below meth c H locs kc ks Q (F0 m pc sl (st.map (sd_cv ad))) := by
  obtain ⟨hx, hb, hml, hown, hts, hK, hao, hN, hAd, hnm, hB⟩ := K
  intro H locs sl hI hS hl
  have h9 := sd_cL_ok (r := _) h
  clear h
  obtain ⟨rfl, h⟩ := h9
  split at h
  · cases h
    exact lv_dup hx hb hd rfl (k H locs sl hI hS hl)
  · cases h
theorem sd_k_new {v : Nat} (K : sd_cCtx p s m args meth c ad B0 D cA y) (hf : 1 ≤ R.frames ∧ 40 ≤ R.locals ∧ kc' ≤ R.cells ∧ ks' ≤ R.slots) (hd : decode (sd_m y).2.1 pc = .ok (.new v, len)) (h : sd_cins (sd_m y).2.2.2.2.1 (decide ((sd_m y).1.name = "<init>")) (.new v) len pc ls st σ n kc ks = some (.inl (pc', ls', st', σ', n', kc', ks'))) (k : ∀ (H : Heap) (locs : List Loc) (sl : Array Slot), sd_cI ad B0 D cA n' σ' H → va_S (fun q => B0 ≤ q) s.heap H locs → sd_has ad sl (sd_m y).2.2.1 ls' → W p l e R s m args below meth c H locs kc' ks' Q (F0 m pc' sl (st'.map (sd_cv ad)))) : ∀ (H : Heap) (locs : List Loc) (sl : Array Slot), sd_cI ad B0 D cA n σ H → va_S (fun q => B0 ≤ q) s.heap H locs → sd_has ad sl (sd_m y).2.2.1 ls → W p l e R s m args below meth c H locs kc ks Q (F0 m pc sl (st.map (sd_cv ad))) := by
  obtain ⟨hx, hb, hml, hown, hts, hK, hao, hN, hAd, hnm, hB⟩ := K
  intro H locs sl hI hS hl
  have h9 := sd_cL_ok (r := _) h
  clear h
  obtain ⟨rfl, h⟩ := h9
  cases hc : sd_cn (sd_m y).2.2.2.2.1 v with
  | none => rw [hc] at h; cases h
  | some q =>
    obtain ⟨ci, z⟩ := q
    rw [hc] at h
    replace h : (if sd_sh n = .inl ci then some (.inl (pc + 3, ls, .ref n :: st, σ, n + 1, kc + 1, ks + (sd_C ci).2.2)) else none : sd_cO) = some (.inl (pc', ls', st', σ', n', kc', ks')) := h
    by_cases hsh : sd_sh n = .inl ci
    · rw [if_pos hsh] at h
      cases h
      obtain ⟨hci, hw⟩ := sd_cnW hc
      have hn : n < 302 := sd_sh_lt hsh (fun q => by cases q)
      have hKn := hK.1 ci _ (sd_clok ci hci)
      have hAn := hAd n hn
      refine W.newcK (C := (sd_C ci).1) (n := (sd_C ci).2.2) hx hb hown (hts _ hw) (hts _ (sd_ib ci hci).1) (hts _ (sd_ib ci hci).2) rfl hd hf.2.2.1 hf.2.2.2 hKn.2.1 rfl fun H1 kC hkC e1 z1 o1 => ?_
      have hI1 := hI
      obtain ⟨hP, hz, hle, hdf⟩ := hI1
      have hk := k H1 locs sl (sd_cI_push hAd hI hn z1 o1 (by
        unfold sd_cell
        rw [hsh]
        refine ⟨sd_C ci, sd_clok ci hci, ?_⟩
        have e2 : H1[ad n]? = some (blank (D.1 ci) kC) := by rw [hAn, ← hz]; exact e1
        exact (u_born (sd_ty ci) hts (sd_inCl hci) hKn hkC e2 (sd_tyok ci hci)).to (sd_new_dflt hdf hci))) (sd_S_push hS z1 o1) hl
      rw [List.map_cons, show sd_cv ad (.ref n) = .ref H.size from congrArg Value.ref (by rw [hAn, hz])] at hk
      exact hk
    · rw [if_neg hsh] at h
      cases h
theorem sd_k_newarray {t : ArrayType} (K : sd_cCtx p s m args meth c ad B0 D cA y) (hf : 1 ≤ R.frames ∧ 40 ≤ R.locals ∧ kc' ≤ R.cells ∧ ks' ≤ R.slots) (hd : decode (sd_m y).2.1 pc = .ok (.newarray t, len)) (h : sd_cins (sd_m y).2.2.2.2.1 (decide ((sd_m y).1.name = "<init>")) (.newarray t) len pc ls st σ n kc ks = some (.inl (pc', ls', st', σ', n', kc', ks'))) (k : ∀ (H : Heap) (locs : List Loc) (sl : Array Slot), sd_cI ad B0 D cA n' σ' H → va_S (fun q => B0 ≤ q) s.heap H locs → sd_has ad sl (sd_m y).2.2.1 ls' → W p l e R s m args below meth c H locs kc' ks' Q (F0 m pc' sl (st'.map (sd_cv ad)))) : ∀ (H : Heap) (locs : List Loc) (sl : Array Slot), sd_cI ad B0 D cA n σ H → va_S (fun q => B0 ≤ q) s.heap H locs → sd_has ad sl (sd_m y).2.2.1 ls → W p l e R s m args below meth c H locs kc ks Q (F0 m pc sl (st.map (sd_cv ad))) := by
  obtain ⟨hx, hb, hml, hown, hts, hK, hao, hN, hAd, hnm, hB⟩ := K
  intro H locs sl hI hS hl
  have h9 := sd_cL_ok (r := _) h
  clear h
  obtain ⟨rfl, h⟩ := h9
  split at h
  · rename_i w r
    split at h
    · rename_i hh
      obtain ⟨ht, hsh, hm, hbig⟩ := hh
      cases h
      have hI1 := hI
      obtain ⟨hP, hz, hle, hdf⟩ := hI1
      have d1 : σ.1 n = fun _ => 0 := funext fun i => (hdf n (Nat.le_refl _) i).1
      have d2 : σ.2.1 n = fun _ => 0 := funext fun i => (hdf n (Nat.le_refl _) i).2.1
      cases t
      case int =>
        have hn : n < 302 := sd_sh_lt hsh (fun q => by cases q)
        have hAn := hAd n hn
        refine va_newaK (atype := .int) hx hb (hts _ sd_acI0) rfl hd rfl hm rfl (by show _ * 4 ≤ _; omega) hf.2.2.1 hf.2.2.2 rfl fun H1 cA1 e1 z1 o1 hAr hNm => ?_
        have ec : cA1 = cA 0 := Option.some.inj (hNm.symm.trans (hK.2 0 _ rfl).2)
        subst ec
        have hk := k H1 locs sl (sd_cI_push hAd hI hn z1 o1 (by
          rw [show sd_cell sd_E0 ad cA σ n = .inl (cA 0, w.toNatClampNeg, .inl (σ.1 n)) by unfold sd_cell; rw [hsh] <;> rfl]
          show H1[ad n]? = _
          rw [hAn, ← hz, e1, d1]
          rfl)) (sd_S_push hS z1 o1) hl
        rw [List.map_cons, show sd_cv ad (.ref n) = .ref H.size from congrArg Value.ref (by rw [hAn, hz])] at hk
        exact hk
      case byte =>
        have hn : n < 302 := sd_sh_lt hsh (fun q => by cases q)
        have hAn := hAd n hn
        refine va_newaK (atype := .byte) hx hb (hts _ sd_acI1) rfl hd rfl hm rfl (by show _ * 1 ≤ _; omega) hf.2.2.1 hf.2.2.2 rfl fun H1 cA1 e1 z1 o1 hAr hNm => ?_
        have ec : cA1 = cA 1 := Option.some.inj (hNm.symm.trans (hK.2 1 _ rfl).2)
        subst ec
        have hk := k H1 locs sl (sd_cI_push hAd hI hn z1 o1 (by
          rw [show sd_cell sd_E0 ad cA σ n = .inl (cA 1, w.toNatClampNeg, .inl (σ.1 n)) by unfold sd_cell; rw [hsh] <;> rfl]
          show H1[ad n]? = _
          rw [hAn, ← hz, e1, d1]
          rfl)) (sd_S_push hS z1 o1) hl
        rw [List.map_cons, show sd_cv ad (.ref n) = .ref H.size from congrArg Value.ref (by rw [hAn, hz])] at hk
        exact hk
      case long =>
        have hn : n < 302 := sd_sh_lt hsh (fun q => by cases q)
        have hAn := hAd n hn
        refine va_newaK (atype := .long) hx hb (hts _ sd_acI2) rfl hd rfl hm rfl (by show _ * 8 ≤ _; omega) hf.2.2.1 hf.2.2.2 rfl fun H1 cA1 e1 z1 o1 hAr hNm => ?_
        have ec : cA1 = cA 2 := Option.some.inj (hNm.symm.trans (hK.2 2 _ rfl).2)
        subst ec
        have hk := k H1 locs sl (sd_cI_push hAd hI hn z1 o1 (by
          rw [show sd_cell sd_E0 ad cA σ n = .inl (cA 2, w.toNatClampNeg, .inr (.inl (σ.2.1 n))) by unfold sd_cell; rw [hsh] <;> rfl]
          show H1[ad n]? = _
          rw [hAn, ← hz, e1, d2]
          rfl)) (sd_S_push hS z1 o1) hl
        rw [List.map_cons, show sd_cv ad (.ref n) = .ref H.size from congrArg Value.ref (by rw [hAn, hz])] at hk
        exact hk
      all_goals exact absurd ht (by decide)
    · cases h
  · cases h
theorem sd_k_anewarray {v : Nat} (K : sd_cCtx p s m args meth c ad B0 D cA y) (hf : 1 ≤ R.frames ∧ 40 ≤ R.locals ∧ kc' ≤ R.cells ∧ ks' ≤ R.slots) (hd : decode (sd_m y).2.1 pc = .ok (.anewarray v, len)) (h : sd_cins (sd_m y).2.2.2.2.1 (decide ((sd_m y).1.name = "<init>")) (.anewarray v) len pc ls st σ n kc ks = some (.inl (pc', ls', st', σ', n', kc', ks'))) (k : ∀ (H : Heap) (locs : List Loc) (sl : Array Slot), sd_cI ad B0 D cA n' σ' H → va_S (fun q => B0 ≤ q) s.heap H locs → sd_has ad sl (sd_m y).2.2.1 ls' → W p l e R s m args below meth c H locs kc' ks' Q (F0 m pc' sl (st'.map (sd_cv ad)))) : ∀ (H : Heap) (locs : List Loc) (sl : Array Slot), sd_cI ad B0 D cA n σ H → va_S (fun q => B0 ≤ q) s.heap H locs → sd_has ad sl (sd_m y).2.2.1 ls → W p l e R s m args below meth c H locs kc ks Q (F0 m pc sl (st.map (sd_cv ad))) := by
  obtain ⟨hx, hb, hml, hown, hts, hK, hao, hN, hAd, hnm, hB⟩ := K
  intro H locs sl hI hS hl
  have h9 := sd_cL_ok (r := _) h
  clear h
  obtain ⟨rfl, h⟩ := h9
  split at h
  · rename_i w r z hc
    split at h
    · rename_i hh
      obtain ⟨hsh, hm, hbig⟩ := hh
      cases h
      have hn : n < 302 := sd_sh_lt hsh (fun q => by cases q)
      have hI1 := hI
      obtain ⟨hP, hz, hle, hdf⟩ := hI1
      have hAn := hAd n hn
      have d3 : (fun i => (sd_gR sd_E0 σ n i).map ad) = fun _ => (none : Option Nat) := funext fun i => by
        unfold sd_gR
        show (σ.2.2 n i).map ad = none
        rw [(hdf n (Nat.le_refl _) i).2.2]
        rfl
      obtain ⟨-, hw⟩ := sd_cnW hc
      refine W.anew (C := "SwornDays$State") hx hb hown (hts _ hw) (va_AO.use hao.1) rfl hd rfl hm (by omega) hf.2.2.1 hf.2.2.2 fun cA1 kA comp f1 f2 f3 f4 => ?_
      have ec : cA1 = cA 3 := by
        obtain ⟨_, _, -, -, -, q4⟩ := (hK.2 3 _ rfl).2
        exact Option.some.inj (f1.symm.trans q4)
      subst ec
      generalize hH1 : H.push ({ cls := cA 3, slots := Array.replicate w.toNatClampNeg .null, vm := .none } : Cell) = H1
      have z1 : H1.size = H.size + 1 := by rw [← hH1, Array.size_push]
      have e1 : H1[H.size]? = some (arrV (cA 3) w.toNatClampNeg (fun _ => .null)) := by rw [← hH1, Array.getElem?_push_size, ← arrV_new]
      have o1 : ∀ q : Nat, q < H.size → H1[q]? = H[q]? := fun q hq => by rw [← hH1, Array.getElem?_push, if_neg (Nat.ne_of_lt hq)]
      have hk := k H1 locs sl (sd_cI_push hAd hI hn z1 o1 (by
        unfold sd_cell
        rw [hsh]
        show H1[ad n]? = some (vp_cell (cA 3) (w.toNatClampNeg, .inr (.inr (.inr (.inr (fun i => (sd_gR sd_E0 σ n i).map ad))))))
        rw [d3, hAn, ← hz, e1]
        rfl)) (sd_S_push hS z1 o1) hl
      rw [List.map_cons, show sd_cv ad (.ref n) = .ref H.size from congrArg Value.ref (by rw [hAn, hz])] at hk
      exact hk
    · cases h
  · cases h
theorem sd_k_putfield {v : Nat} (K : sd_cCtx p s m args meth c ad B0 D cA y) (hf : 1 ≤ R.frames ∧ 40 ≤ R.locals ∧ kc' ≤ R.cells ∧ ks' ≤ R.slots) (hd : decode (sd_m y).2.1 pc = .ok (.putfield v, len)) (h : sd_cins (sd_m y).2.2.2.2.1 (decide ((sd_m y).1.name = "<init>")) (.putfield v) len pc ls st σ n kc ks = some (.inl (pc', ls', st', σ', n', kc', ks'))) (k : ∀ (H : Heap) (locs : List Loc) (sl : Array Slot), sd_cI ad B0 D cA n' σ' H → va_S (fun q => B0 ≤ q) s.heap H locs → sd_has ad sl (sd_m y).2.2.1 ls' → W p l e R s m args below meth c H locs kc' ks' Q (F0 m pc' sl (st'.map (sd_cv ad)))) : ∀ (H : Heap) (locs : List Loc) (sl : Array Slot), sd_cI ad B0 D cA n σ H → va_S (fun q => B0 ≤ q) s.heap H locs → sd_has ad sl (sd_m y).2.2.1 ls → W p l e R s m args below meth c H locs kc ks Q (F0 m pc sl (st.map (sd_cv ad))) := by
  obtain ⟨hx, hb, hml, hown, hts, hK, hao, hN, hAd, hnm, hB⟩ := K
  intro H locs sl hI hS hl
  have h9 := sd_cL_ok (r := _) h
  clear h
  obtain ⟨rfl, h⟩ := h9
  split at h
  · rename_i w a r
    cases hc : sd_fl (sd_m y).2.2.2.2.1 v with
    | none => rw [hc] at h; cases h
    | some q =>
      obtain ⟨ci, f, z⟩ := q
      rw [hc] at h
      replace h : (if sd_sh a = .inl ci ∧ a < n ∧ (((sd_C ci).2.1 f).2.2.2 = false ∨ (decide ((sd_m y).1.name = "<init>") = true ∧ ((sd_C ci).2.1 f).1 = sd_R (sd_m y).2.2.2.2.1)) then (match sd_put1 sd_E0 σ a ci f w with | some σ' => some (.inl (pc + 3, ls, r, σ', n, kc, ks)) | none => none) else none : sd_cO) = some (.inl (pc', ls', st', σ', n', kc', ks')) := h
      split at h
      · rename_i hh
        obtain ⟨hsh, han, hfin⟩ := hh
        cases hp : sd_put1 sd_E0 σ a ci f w with
        | none => rw [hp] at h; cases h
        | some σ2 =>
          rw [hp] at h
          cases h
          obtain ⟨h1, h2, h3⟩ := sd_flW hc
          have hI1 := hI
          obtain ⟨hP, hz, hle, hdf⟩ := hI1
          have he := sd_wldN_get (ad := ad) (cA := cA) (σ := σ) han
          rw [show sd_cell sd_E0 ad cA σ a = .inr (ci, (List.range (sd_C ci).2.2).map (fun i => sd_cv ad (sd_val sd_E0 σ a ci i))) by unfold sd_cell; rw [hsh]] at he
          obtain ⟨g1, g2, g3, g4⟩ := sd_put1_ok (ad := ad) hp h1 h2
          have fin : ∀ (H1 : Heap) (locs1 : List Loc), H1.size = H.size → va_P D sd_cl ((sd_wldN ad cA σ n).set a (ad a, .inr (ci, ((List.range (sd_C ci).2.2).map (fun i => sd_cv ad (sd_val sd_E0 σ a ci i))).set f (sd_cv ad w)))) H1 → va_S (fun q => B0 ≤ q) s.heap H1 locs1 → W p l e R s m args below meth c H1 locs1 kc ks Q (F0 m (pc + 3) sl (st'.map (sd_cv ad))) := by
            intro H1 locs1 hz1 p1 p3
            refine k H1 locs1 sl ⟨?_, by omega, hle, sd_put1_df hp han hdf⟩ p3 hl
            rw [← sd_wldN_set (k := a) g3 (e := .inr (ci, ((List.range (sd_C ci).2.2).map (fun i => sd_cv ad (sd_val sd_E0 σ a ci i))).set f (sd_cv ad w))) (by
              unfold sd_cell
              rw [hsh]
              exact congrArg (fun l => Sum.inr (ci, l)) (sd_range_set (g := fun i => sd_cv ad (sd_val sd_E0 σ a ci i)) (g' := fun i => sd_cv ad (sd_val sd_E0 σ' a ci i)) g4))]
            exact p1
          rcases hfin with hfin | ⟨hini, hdecl⟩
          · exact sd_putZ hx hb hts (fun w hw => sd_inCl h1 w hw) (sd_ty ci) (sd_tyok ci h1) (sd_nm ci h1) hown hK hP (sd_DN hAd hle) hS a he (sd_clok ci h1) f h2 (hts _ h3) (Or.inl hfin) (sd_tyok ci h1 f h2) g1 g2 (by simpa using h2) hd fin
          · exact sd_putZ hx hb hts (fun w hw => sd_inCl h1 w hw) (sd_ty ci) (sd_tyok ci h1) (sd_nm ci h1) hown hK hP (sd_DN hAd hle) hS a he (sd_clok ci h1) f h2 (hts _ h3) (Or.inr ⟨hnm.trans (of_decide_eq_true hini), hdecl⟩) (sd_tyok ci h1 f h2) g1 g2 (by simpa using h2) hd fin
      · cases h
  · cases h
theorem sd_k_getfield {v : Nat} (K : sd_cCtx p s m args meth c ad B0 D cA y) (hf : 1 ≤ R.frames ∧ 40 ≤ R.locals ∧ kc' ≤ R.cells ∧ ks' ≤ R.slots) (hd : decode (sd_m y).2.1 pc = .ok (.getfield v, len)) (h : sd_cins (sd_m y).2.2.2.2.1 (decide ((sd_m y).1.name = "<init>")) (.getfield v) len pc ls st σ n kc ks = some (.inl (pc', ls', st', σ', n', kc', ks'))) (k : ∀ (H : Heap) (locs : List Loc) (sl : Array Slot), sd_cI ad B0 D cA n' σ' H → va_S (fun q => B0 ≤ q) s.heap H locs → sd_has ad sl (sd_m y).2.2.1 ls' → W p l e R s m args below meth c H locs kc' ks' Q (F0 m pc' sl (st'.map (sd_cv ad)))) : ∀ (H : Heap) (locs : List Loc) (sl : Array Slot), sd_cI ad B0 D cA n σ H → va_S (fun q => B0 ≤ q) s.heap H locs → sd_has ad sl (sd_m y).2.2.1 ls → W p l e R s m args below meth c H locs kc ks Q (F0 m pc sl (st.map (sd_cv ad))) := by
  obtain ⟨hx, hb, hml, hown, hts, hK, hao, hN, hAd, hnm, hB⟩ := K
  intro H locs sl hI hS hl
  have h9 := sd_cL_ok (r := _) h
  clear h
  obtain ⟨rfl, h⟩ := h9
  split at h
  · rename_i a r
    cases hc : sd_fl (sd_m y).2.2.2.2.1 v with
    | none => rw [hc] at h; cases h
    | some q =>
      obtain ⟨ci, f, z⟩ := q
      rw [hc] at h
      replace h : (if sd_sh a = .inl ci ∧ a < n then some (.inl (pc + 3, ls, sd_val sd_E0 σ a ci f :: r, σ, n, kc, ks)) else none : sd_cO) = some (.inl (pc', ls', st', σ', n', kc', ks')) := h
      split at h
      · rename_i hh
        obtain ⟨hsh, han⟩ := hh
        cases h
        obtain ⟨h1, h2, h3⟩ := sd_flW hc
        have he := sd_wldN_get (ad := ad) (cA := cA) (σ := σ) han
        rw [show sd_cell sd_E0 ad cA σ a = .inr (ci, (List.range (sd_C ci).2.2).map (fun i => sd_cv ad (sd_val sd_E0 σ a ci i))) by unfold sd_cell; rw [hsh]] at he
        exact va_get hx hb hts (fun w hw => sd_inCl h1 w hw) hown hK hI.1 a he (sd_clok ci h1) f h2 (hts _ h3) (fun _ q => q) (by rw [List.getElem?_map, List.getElem?_range h2]; rfl) hd (k H locs sl hI hS hl)
      · cases h
  · cases h
theorem sd_k_aastore (K : sd_cCtx p s m args meth c ad B0 D cA y) (hf : 1 ≤ R.frames ∧ 40 ≤ R.locals ∧ kc' ≤ R.cells ∧ ks' ≤ R.slots) (hd : decode (sd_m y).2.1 pc = .ok (.aastore, len)) (h : sd_cins (sd_m y).2.2.2.2.1 (decide ((sd_m y).1.name = "<init>")) (.aastore) len pc ls st σ n kc ks = some (.inl (pc', ls', st', σ', n', kc', ks'))) (k : ∀ (H : Heap) (locs : List Loc) (sl : Array Slot), sd_cI ad B0 D cA n' σ' H → va_S (fun q => B0 ≤ q) s.heap H locs → sd_has ad sl (sd_m y).2.2.1 ls' → W p l e R s m args below meth c H locs kc' ks' Q (F0 m pc' sl (st'.map (sd_cv ad)))) : ∀ (H : Heap) (locs : List Loc) (sl : Array Slot), sd_cI ad B0 D cA n σ H → va_S (fun q => B0 ≤ q) s.heap H locs → sd_has ad sl (sd_m y).2.2.1 ls → W p l e R s m args below meth c H locs kc ks Q (F0 m pc sl (st.map (sd_cv ad))) := by
  obtain ⟨hx, hb, hml, hown, hts, hK, hao, hN, hAd, hnm, hB⟩ := K
  intro H locs sl hI hS hl
  have h9 := sd_cL_ok (r := _) h
  clear h
  obtain ⟨rfl, h⟩ := h9
  split at h
  · rename_i v i a r
    split at h
    · rename_i N hsa
      split at h
      · rename_i hh
        obtain ⟨han, hvn, hsv, hin⟩ := hh
        cases h
        have hI1 := hI
        obtain ⟨hP, hz, hle, hdf⟩ := hI1
        have he := sd_wldN_get (ad := ad) (cA := cA) (σ := σ) han
        have hv := sd_wldN_get (ad := ad) (cA := cA) (σ := σ) hvn
        rw [show sd_cell sd_E0 ad cA σ a = .inl (cA 3, N, .inr (.inr (.inr (.inr (fun i => (sd_gR sd_E0 σ a i).map ad))))) by unfold sd_cell; rw [hsa] <;> rfl] at he
        rw [show sd_cell sd_E0 ad cA σ v = .inr (5, (List.range (sd_C 5).2.2).map (fun i => sd_cv ad (sd_val sd_E0 σ v 5 i))) by unfold sd_cell; rw [hsv]] at hv
        refine sd_astZ (r := sd_C 5) hx hb hK hP (sd_DN hAd hle) hS a 3 v 5 he rfl hv (sd_clok 5 (by decide)) hin hd (fun H1 locs1 hz1 p1 p3 => ?_)
        refine k H1 locs1 sl ⟨?_, by omega, hle, ?_⟩ p3 hl
        · rw [← sd_wldN_set (k := a) (fun j hj => sd_cellR hj) (e := .inl (cA 3, N, .inr (.inr (.inr (.inr (va_up (fun i => (sd_gR sd_E0 σ a i).map ad) i.toNatClampNeg (some (ad v)))))))) (by
            unfold sd_cell
            rw [hsa]
            refine congrArg (fun g => Sum.inl (cA 3, N, Sum.inr (Sum.inr (Sum.inr (Sum.inr g))))) (funext fun j => ?_)
            unfold sd_gR va_up
            show Option.map ad (if a = a ∧ j = i.toNatClampNeg then some v else σ.2.2 a j) = _
            by_cases hj : j = i.toNatClampNeg
            · rw [if_pos ⟨rfl, hj⟩, if_pos hj]
              rfl
            · rw [if_neg (fun q => hj q.2), if_neg hj]
              rfl)]
          exact p1
        · intro q hq j
          obtain ⟨b1, b2, b3⟩ := hdf q hq j
          have hne : ¬ (q = a ∧ j = i.toNatClampNeg) := fun z => absurd (z.1 ▸ hq) (Nat.not_le.mpr han)
          exact ⟨b1, b2, (if_neg hne).trans b3⟩
      · cases h
    · cases h
  · cases h
theorem sd_k_invokespecial {v : Nat} (K : sd_cCtx p s m args meth c ad B0 D cA y) (hf : 1 ≤ R.frames ∧ 40 ≤ R.locals ∧ kc' ≤ R.cells ∧ ks' ≤ R.slots) (hd : decode (sd_m y).2.1 pc = .ok (.invokespecial v, len)) (h : sd_cins (sd_m y).2.2.2.2.1 (decide ((sd_m y).1.name = "<init>")) (.invokespecial v) len pc ls st σ n kc ks = some (.inl (pc', ls', st', σ', n', kc', ks'))) (k : ∀ (H : Heap) (locs : List Loc) (sl : Array Slot), sd_cI ad B0 D cA n' σ' H → va_S (fun q => B0 ≤ q) s.heap H locs → sd_has ad sl (sd_m y).2.2.1 ls' → W p l e R s m args below meth c H locs kc' ks' Q (F0 m pc' sl (st'.map (sd_cv ad)))) : ∀ (H : Heap) (locs : List Loc) (sl : Array Slot), sd_cI ad B0 D cA n σ H → va_S (fun q => B0 ≤ q) s.heap H locs → sd_has ad sl (sd_m y).2.2.1 ls → W p l e R s m args below meth c H locs kc ks Q (F0 m pc sl (st.map (sd_cv ad))) := by
  obtain ⟨hx, hb, hml, hown, hts, hK, hao, hN, hAd, hnm, hB⟩ := K
  intro H locs sl hI hS hl
  have h9 := sd_cL_ok (r := _) h
  clear h
  obtain ⟨rfl, h⟩ := h9
  split at h
  · rename_i z hc
    split at h
    · rename_i a r
      split at h
      · rename_i hr
        cases h
        exact W.objInit hx hb hown (hts _ (sd_oiW hc)) (hts _ sd_objI) (hts _ sd_objC) rfl (hl.1.1.trans hml.symm) rfl hd hf.1 (by show 2 * 0 + _ + 12 ≤ _; rw [sd_cv_sum]; omega) (k H locs sl hI hS hl)
      · cases h
    · cases h
  · split at h
    · split at h
      · split at h <;> cases h
      · cases h
    · cases h
end SDCN
