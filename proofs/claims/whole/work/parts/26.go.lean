/-! the law from its entry to its loop -/
section SDG
variable {p : Program} {l : Launch} {e : Env} {R : Room} {s : State} {m : MethodId} {args : Array Value} {below : List Frame} {meth : Method} {c : Code} {Q : State → Prop}
variable {ad : Nat → Nat} {B0 : Nat} {D : va_G} {cA : Nat → ClassId} {y : Nat} {ls st : List Value} {σ : sd_Mem} {n kc ks : Nat}
theorem sd_lstep {pc : Nat} {i : Instr} {len : Nat} {z : sd_cS ⊕ (Nat × List Value × List Value) ⊕ Unit} (hy : sd_m y = sd_law) (hd : decode code pc = .ok (i, len)) (h : sd_cins 12 (decide (x.name = "<init>")) i len pc ls st σ n kc ks = some z) : sd_cstep y pc ls st σ n kc ks = some z := by
  unfold sd_cstep
  rw [hy]
  have hd' : decode sd_law.2.1 pc = .ok (i, len) := hd
  rw [hd']
  exact h
theorem sd_cstepD {pc : Nat} (hy : sd_m y = sd_law) {i : Instr} {len : Nat} (hd : decode code pc = .ok (i, len)) : decode (sd_m y).2.1 pc = .ok (i, len) := by
  rw [hy]
  exact hd
/-- what the prefix makes -/
theorem sd_lstart {σ1 σ2 : sd_Mem} {c1 s1 c2 s2 : Nat} (hy : sd_m y = sd_law) (K : sd_cCtx p s m args meth c ad B0 D cA y) (hf : 20 ≤ R.frames ∧ 40 * 20 ≤ R.locals ∧ 3 + c1 + c2 ≤ R.cells ∧ 77 + s1 + s2 ≤ R.slots)
    (h1 : sd_A1 = some (σ1, 271, c1, s1)) (h2 : sd_A2 σ1 = some (σ2, 301, c2, s2))
    (k : ∀ (H : Heap) (locs : List Loc) (sl : Array Slot), sd_cI ad B0 D cA 302 σ2 H → va_S (fun q => B0 ≤ q) s.heap H locs → sd_has ad sl 7 [.ref 400, .ref 0, .ref 271, .ref 301, .int 0, sd_un, sd_un] → W p l e R s m args below meth c H locs (3 + c1 + c2) (77 + s1 + s2) Q (F0 m 23 sl [])) :
    ∀ (H : Heap) (locs : List Loc) (sl : Array Slot), sd_cI ad B0 D cA 0 sd_z0 H → va_S (fun q => B0 ≤ q) s.heap H locs → sd_has ad sl 7 [.ref 400, sd_un, sd_un, sd_un, sd_un, sd_un, sd_un] → W p l e R s m args below meth c H locs 0 0 Q (F0 m 0 sl []) := by
  have hK := K
  obtain ⟨hx, hb, hml, hown, hts, hKK, hao, hnest, hAd, hnm, hB⟩ := K
  have hb' : c.code = code := by rw [hy] at hb; exact hb
  have hL : (sd_m y).2.2.1 = 7 := by rw [hy]; rfl
  have M1 := sd_cmet (l := l) (D := D) (cA := cA) hAd (f := 20000) (d := 10) (y := y_X_init) (av := [.ref 0]) (by decide) (by decide +kernel) (by decide +kernel) h1
  have M2 := sd_cmet (l := l) (D := D) (cA := cA) hAd (f := 20000) (d := 10) (y := y_M_init) (av := [.ref 271]) (by decide) (by decide +kernel) (by decide +kernel) h2
  rw [show (7 : Nat) = (sd_m y).2.2.1 from hL.symm] at k ⊢
  -- 20: iconst_0, istore 4
  have k20 : ∀ (H : Heap) (locs : List Loc) (sl : Array Slot), sd_cI ad B0 D cA 302 σ2 H → va_S (fun q => B0 ≤ q) s.heap H locs → sd_has ad sl (sd_m y).2.2.1 [.ref 400, .ref 0, .ref 271, .ref 301, sd_un, sd_un, sd_un] → W p l e R s m args below meth c H locs (3 + c1 + c2) (77 + s1 + s2) Q (F0 m 20 sl []) := by
    intro H locs sl hI hS hl
    refine lv_iconst hx hb' (n := 0) (v := 0) (by decide +kernel) rfl ?_
    refine lv_istore hx hb' (i := 4) (by decide +kernel) hl.1 (by rw [hL]; decide) rfl (fun sl2 hl2 => ?_)
    exact k H locs sl2 hI hS (sd_has_put1 (i := 4) (v := .int 0) hl.2 rfl hl2)
  -- 16: iconst_1, newarray long, astore_3
  have k16 : ∀ (H : Heap) (locs : List Loc) (sl : Array Slot), sd_cI ad B0 D cA 301 σ2 H → va_S (fun q => B0 ≤ q) s.heap H locs → sd_has ad sl (sd_m y).2.2.1 [.ref 400, .ref 0, .ref 271, sd_un, sd_un, sd_un, sd_un] → W p l e R s m args below meth c H locs (2 + c1 + c2) (76 + s1 + s2) Q (F0 m 16 sl []) := by
    refine sd_cnext hK ⟨by omega, by omega, by omega, by omega⟩ (sd_lstep (pc := 16) (st := []) hy (i := .iconst 1) (len := 1) (by decide +kernel) rfl) ?_
    refine sd_cnext hK ⟨by omega, by omega, (show 2 + c1 + c2 + 1 ≤ _ by omega), (show 76 + s1 + s2 + 1 ≤ _ by omega)⟩ (sd_lstep (pc := 17) (st := [.int 1]) hy (i := .newarray .long) (len := 2) (by decide +kernel) rfl) ?_
    intro H locs sl hI hS hl
    refine lv_astore_n (k := 3) hx hb' (by decide +kernel) rfl hl.1 (by rw [hL]; decide) rfl (fun sl2 hl2 => ?_)
    have h9 := k20 H locs sl2 hI hS (sd_has_put1 (i := 3) (v := .ref 301) hl.2 rfl hl2)
    rw [show 2 + c1 + c2 + 1 = 3 + c1 + c2 by omega, show 76 + s1 + s2 + 1 = 77 + s1 + s2 by omega]
    exact h9
  -- 8: the reference
  have k8 : ∀ (H : Heap) (locs : List Loc) (sl : Array Slot), sd_cI ad B0 D cA 271 σ1 H → va_S (fun q => B0 ≤ q) s.heap H locs → sd_has ad sl (sd_m y).2.2.1 [.ref 400, .ref 0, sd_un, sd_un, sd_un, sd_un, sd_un] → W p l e R s m args below meth c H locs (1 + c1) (17 + s1) Q (F0 m 8 sl []) := by
    refine sd_cnext hK ⟨by omega, by omega, (show 1 + c1 + 1 ≤ _ by omega), (show 17 + s1 + 59 ≤ _ by omega)⟩ (sd_lstep (pc := 8) (st := []) hy (i := .new 16) (len := 3) (by decide +kernel) rfl) ?_
    refine sd_cnext hK ⟨by omega, by omega, (show 1 + c1 + 1 ≤ _ by omega), (show 17 + s1 + 59 ≤ _ by omega)⟩ (sd_lstep (pc := 11) (st := [.ref 271]) hy (i := .dup) (len := 1) (by decide +kernel) rfl) ?_
    refine sd_ccall (d := 10) (mc := c2) (ms := s2) hK ⟨by omega, by omega, (show 1 + c1 + 1 + c2 ≤ _ by omega), (show 17 + s1 + 59 + s2 ≤ _ by omega)⟩ (sd_lstep (pc := 12) (st := [.ref 271, .ref 271]) hy (i := .invokespecial 18) (len := 3) (by decide +kernel) (z := .inr (.inl (y_M_init, [.ref 271], [.ref 271]))) rfl) (fun _ _ => M2) ?_
    intro H locs sl hI hS hl
    refine lv_astore_n (k := 2) hx hb' (by decide +kernel) rfl hl.1 (by rw [hL]; decide) rfl (fun sl2 hl2 => ?_)
    have h9 := k16 H locs sl2 hI hS (sd_has_put1 (i := 2) (v := .ref 271) hl.2 rfl hl2)
    rw [show 1 + c1 + 1 + c2 = 2 + c1 + c2 by omega, show 17 + s1 + 59 + s2 = 76 + s1 + s2 by omega]
    exact h9
  refine sd_cnext hK ⟨by omega, by omega, (show 0 + 1 ≤ _ by omega), (show 0 + 17 ≤ _ by omega)⟩ (sd_lstep (pc := 0) (st := []) hy (i := .new 8) (len := 3) (by decide +kernel) rfl) ?_
  refine sd_cnext hK ⟨by omega, by omega, (show 0 + 1 ≤ _ by omega), (show 0 + 17 ≤ _ by omega)⟩ (sd_lstep (pc := 3) (st := [.ref 0]) hy (i := .dup) (len := 1) (by decide +kernel) rfl) ?_
  refine sd_ccall (d := 10) (mc := c1) (ms := s1) hK ⟨by omega, by omega, (show 0 + 1 + c1 ≤ _ by omega), (show 0 + 17 + s1 ≤ _ by omega)⟩ (sd_lstep (pc := 4) (st := [.ref 0, .ref 0]) hy (i := .invokespecial 15) (len := 3) (by decide +kernel) (z := .inr (.inl (y_X_init, [.ref 0], [.ref 0]))) rfl) (fun _ _ => M1) ?_
  intro H locs sl hI hS hl
  refine lv_astore_n (k := 1) hx hb' (by decide +kernel) rfl hl.1 (by rw [hL]; decide) rfl (fun sl2 hl2 => ?_)
  have h9 := k8 H locs sl2 hI hS (sd_has_put1 (i := 1) (v := .ref 0) hl.2 rfl hl2)
  rw [show 0 + 1 + c1 = 1 + c1 by omega, show 0 + 17 + s1 = 17 + s1 by omega]
  exact h9
end SDG
