/-! new int[n][m]; whole frames of constructors; their contracts -/
theorem sd_aoa_moved {u U : State} (hvm : u.vm.Alike U.vm) (h : sd_aoa u) : sd_aoa U := fun _ => Stand.arrayOver_alikeB hvm (h #[])
theorem sd_outer (c : ClassId) (N h0 : Nat) : ∀ i : Nat, Jvm.Free.Multi.outerC c N h0 i = arrV c N (fun j => va_rf (if j < i then some (h0 + 1 + j) else none))
  | 0 => by
    show ({ cls := c, slots := Array.replicate N .null, vm := .none } : Cell) = _
    rw [arrV_new]
    refine congrArg (arrV c N) (funext fun j => ?_)
    simp [va_rf]
  | i + 1 => by
    show (Jvm.Free.Multi.outerC c N h0 i).setSlot i (.ref (h0 + 1 + i)) = _
    rw [sd_outer c N h0 i, arrV_store]
    refine congrArg (arrV c N) (funext fun j => ?_)
    by_cases e : j = i
    · subst e
      simp [updV, va_rf]
    · by_cases h : j < i
      · simp [updV, e, h, Nat.lt_succ_of_lt h]
      · simp [updV, e, h, show ¬ j < i + 1 by omega]
section SDCM
variable {p : Program} {l : Launch} {e : Env} {R : Room} {s : State} {m : MethodId} {args : Array Value} {below : List Frame} {meth : Method} {c : Code} {Q : State → Prop}
variable {ad : Nat → Nat} {B0 : Nat} {D : va_G} {cA : Nat → ClassId} {y : Nat} {pc : Nat} {ls st : List Value} {σ : sd_Mem} {n kc ks : Nat} {pc' : Nat} {ls' st' : List Value} {σ' : sd_Mem} {n' kc' ks' : Nat} {len : Nat}
set_option maxHeartbeats 1000000 in
theorem sd_k_multianewarray {v v2 : Nat} (K : sd_cCtx p s m args meth c ad B0 D cA y) (hf : 1 ≤ R.frames ∧ 40 ≤ R.locals ∧ kc' ≤ R.cells ∧ ks' ≤ R.slots) (hd : decode (sd_m y).2.1 pc = .ok (.multianewarray v v2, len)) (h : sd_cins (sd_m y).2.2.2.2.1 (decide ((sd_m y).1.name = "<init>")) (.multianewarray v v2) len pc ls st σ n kc ks = some (.inl (pc', ls', st', σ', n', kc', ks'))) (k : ∀ (H : Heap) (locs : List Loc) (sl : Array Slot), sd_cI ad B0 D cA n' σ' H → va_S (fun q => B0 ≤ q) s.heap H locs → sd_has ad sl (sd_m y).2.2.1 ls' → W p l e R s m args below meth c H locs kc' ks' Q (F0 m pc' sl (st'.map (sd_cv ad)))) : ∀ (H : Heap) (locs : List Loc) (sl : Array Slot), sd_cI ad B0 D cA n σ H → va_S (fun q => B0 ≤ q) s.heap H locs → sd_has ad sl (sd_m y).2.2.1 ls → W p l e R s m args below meth c H locs kc ks Q (F0 m pc sl (st.map (sd_cv ad))) := by
  obtain ⟨hx, hb, hml, hown, hts, hK, hao, hN, hAd, hnm, hB⟩ := K
  intro H locs sl hI hS hl
  by_cases hv2 : v2 = 2
  case neg =>
    exfalso
    rcases v2 with _ | _ | _ | v2
    · cases h
    · cases h
    · exact hv2 rfl
    · cases h
  subst hv2
  have h9 := sd_cL_ok (r := _) h
  clear h
  obtain ⟨rfl, h⟩ := h9
  split at h
  · rename_i b a r
    split at h
    · rename_i hh
      obtain ⟨hmn, hsh, hrows, ha0, hb0, hba, hbb⟩ := hh
      cases h
      have e12 := of_decide_eq_true hmn
      obtain ⟨eo, rfl⟩ := e12
      have hw := hts _ sd_mnW
      rw [← eo] at hw
      have hI1 := hI
      obtain ⟨hP, hz, hle, hdf⟩ := hI1
      have hn : n < 302 := sd_sh_lt hsh (fun q => by cases q)
      have hrow : ∀ j, j < a.toNatClampNeg → sd_sh (n + 1 + j) = .inr (0, b.toNatClampNeg) := fun j hj => of_decide_eq_true (List.all_eq_true.mp hrows j (List.mem_range.mpr hj))
      have hn2 : n + 1 + a.toNatClampNeg ≤ 302 := by
        by_cases h0 : a.toNatClampNeg = 0
        · omega
        · have := sd_sh_lt (hrow (a.toNatClampNeg - 1) (by omega)) (fun q => by cases q)
          have h3 : sd_n = 302 := rfl
          omega
      have hAn := hAd n hn
      intro T hT X
      obtain ⟨vm₁, cA1, comp, -, fA, fC, hO, -, X', step⟩ := X.multianewarray2F (ty := .int) hx hown hw (hao.2 _) (hts _ sd_acI0) (g := F0 m pc sl (.int b :: .int a :: r.map (sd_cv ad))) rfl (by rw [hb]; exact hd) rfl ha0 hb0 (by omega) (by show _ * 4 ≤ _; omega) (by omega) rfl rfl (by have := hf.2.2.1; omega) (by have := hf.2.2.2; omega)
      have ec : cA1 = cA 4 := Option.some.inj (fA.symm.trans (hK.2 4 _ rfl).2)
      have ec2 : comp = cA 0 := Option.some.inj (fC.symm.trans (hK.2 0 _ rfl).2)
      subst ec
      subst ec2
      generalize hF : Jvm.Free.Multi.fill (T.setVm vm₁) (cA 4) (cA 0) a.toNatClampNeg b.toNatClampNeg (defaultValue .int) a.toNatClampNeg = F at X' step
      have hTh : (T.setVm vm₁).heap = H := hT
      obtain ⟨f1, f2, -, -⟩ := Jvm.Free.Multi.fill_facts (T.setVm vm₁) (cA 4) (cA 0) a.toNatClampNeg b.toNatClampNeg (defaultValue .int) a.toNatClampNeg
      rw [hF, hTh] at f1 f2
      have hold : ∀ x : Nat, x < H.size → F.heap[x]? = H[x]? := fun x hx => by
        have := Jvm.Free.Multi.fill_old (T.setVm vm₁) (cA 4) (cA 0) a.toNatClampNeg b.toNatClampNeg (defaultValue .int) (a := x) (by rw [hTh]; exact hx) a.toNatClampNeg
        rw [hF, hTh] at this
        exact this
      have hin : ∀ j : Nat, j < a.toNatClampNeg → F.heap[H.size + 1 + j]? = some (arrV (cA 0) b.toNatClampNeg (fun _ => .int 0)) := fun j hj => by
        have := Jvm.Free.Multi.fill_inner (T.setVm vm₁) (cA 4) (cA 0) a.toNatClampNeg b.toNatClampNeg (defaultValue .int) a.toNatClampNeg j hj
        rw [hF, hTh] at this
        rw [this, ← arrV_new]
        rfl
      rw [sd_outer] at f2
      have hfin : sd_cI ad B0 D cA (n + 1 + a.toNatClampNeg) (sd_wRow σ n (fun i => if i < a.toNatClampNeg then some (n + 1 + i) else none)) F.heap := by
        refine ⟨fun x q hq => ?_, by rw [f1]; omega, hn2, fun x hk i => ?_⟩
        · have hkl : x < n + 1 + a.toNatClampNeg := by
            have := (List.getElem?_eq_some_iff.mp hq).1
            simpa [sd_wldN] using this
          rw [sd_wldN_get hkl] at hq
          cases hq
          by_cases hk1 : x < n
          · have e1 : sd_cell sd_E0 ad cA (sd_wRow σ n (fun i => if i < a.toNatClampNeg then some (n + 1 + i) else none)) x = sd_cell sd_E0 ad cA σ x := sd_cell_congr rfl rfl (by funext z; exact if_neg (by omega))
            rw [e1]
            exact (hP x _ (sd_wldN_get hk1)).kept (hold _ (by have := hAd x (by omega); show ad x < H.size; omega))
          · by_cases hk2 : x = n
            · subst hk2
              rw [show sd_cell sd_E0 ad cA (sd_wRow σ x (fun i => if i < a.toNatClampNeg then some (x + 1 + i) else none)) x = .inl (cA 4, a.toNatClampNeg, .inr (.inr (.inr (.inr (fun i => (sd_gR sd_E0 (sd_wRow σ x (fun i => if i < a.toNatClampNeg then some (x + 1 + i) else none)) x i).map ad))))) by unfold sd_cell; rw [hsh] <;> rfl]
              show F.heap[ad x]? = _
              rw [hAn, ← hz, f2]
              show some (arrV (cA 4) a.toNatClampNeg (fun j => va_rf (if j < a.toNatClampNeg then some (Array.size H + 1 + j) else none))) = some (arrV (cA 4) a.toNatClampNeg (fun i => va_rf ((sd_gR sd_E0 (sd_wRow σ x (fun i => if i < a.toNatClampNeg then some (x + 1 + i) else none)) x i).map ad)))
              refine congrArg some (congrArg (arrV (cA 4) a.toNatClampNeg) (funext fun j => congrArg va_rf ?_))
              unfold sd_gR sd_wRow
              show (if j < a.toNatClampNeg then some (H.size + 1 + j) else none) = Option.map ad (if x = x then (if j < a.toNatClampNeg then some (x + 1 + j) else none) else σ.2.2 x j)
              rw [if_pos rfl]
              by_cases hj : j < a.toNatClampNeg
              · rw [if_pos hj, if_pos hj]
                show some _ = some (ad (x + 1 + j))
                rw [hAd (x + 1 + j) (by omega), hz]
                congr 1
                omega
              · rw [if_neg hj, if_neg hj]
                rfl
            · have hj : x - (n + 1) < a.toNatClampNeg := by omega
              have hs := hrow _ hj
              rw [show n + 1 + (x - (n + 1)) = x by omega] at hs
              rw [show sd_cell sd_E0 ad cA (sd_wRow σ n (fun i => if i < a.toNatClampNeg then some (n + 1 + i) else none)) x = .inl (cA 0, b.toNatClampNeg, .inl (σ.1 x)) by unfold sd_cell; rw [hs] <;> rfl]
              have hi := hin _ hj
              rw [show H.size + 1 + (x - (n + 1)) = ad x by rw [hAd x (by omega), hz]; omega] at hi
              show F.heap[ad x]? = _
              rw [hi, show σ.1 x = fun _ => 0 from funext fun i => (hdf x (by omega) i).1]
              rfl
        · obtain ⟨b1, b2, b3⟩ := hdf x (by omega) i
          exact ⟨b1, b2, (if_neg (by omega)).trans b3⟩
      have hk := k F.heap locs sl hfin ⟨by rw [f1]; have := hS.1; omega, fun x h1 h2 => (hold x (Nat.lt_of_lt_of_le h1 hS.1)).trans (hS.2.1 x h1 h2), hS.2.2⟩ hl
      rw [List.map_cons, show sd_cv ad (.ref n) = .ref H.size from congrArg Value.ref (by rw [hAn, hz])] at hk
      obtain ⟨t, a1, b1⟩ := hk F rfl X'
      refine ⟨t, step t ?_, b1⟩
      have e : T.heap.size = H.size := by rw [hT]
      rw [e]
      exact a1
    · cases h
  · cases h
theorem sd_cnext (K : sd_cCtx p s m args meth c ad B0 D cA y) (hf : 1 ≤ R.frames ∧ 40 ≤ R.locals ∧ kc' ≤ R.cells ∧ ks' ≤ R.slots) (h : sd_cstep y pc ls st σ n kc ks = some (.inl (pc', ls', st', σ', n', kc', ks'))) (k : ∀ (H : Heap) (locs : List Loc) (sl : Array Slot), sd_cI ad B0 D cA n' σ' H → va_S (fun q => B0 ≤ q) s.heap H locs → sd_has ad sl (sd_m y).2.2.1 ls' → W p l e R s m args below meth c H locs kc' ks' Q (F0 m pc' sl (st'.map (sd_cv ad)))) : ∀ (H : Heap) (locs : List Loc) (sl : Array Slot), sd_cI ad B0 D cA n σ H → va_S (fun q => B0 ≤ q) s.heap H locs → sd_has ad sl (sd_m y).2.2.1 ls → W p l e R s m args below meth c H locs kc ks Q (F0 m pc sl (st.map (sd_cv ad))) := by
  unfold sd_cstep at h
  cases hd : decode (sd_m y).2.1 pc with
  | error z => rw [hd] at h; cases h
  | ok q =>
    obtain ⟨i, len⟩ := q
    rw [hd] at h
    replace h : sd_cins (sd_m y).2.2.2.2.1 (decide ((sd_m y).1.name = "<init>")) i len pc ls st σ n kc ks = some (.inl (pc', ls', st', σ', n', kc', ks')) := h
    cases i
    case iconst => exact sd_k_iconst K hf hd h k
    case bipush => exact sd_k_bipush K hf hd h k
    case sipush => exact sd_k_sipush K hf hd h k
    case lconst => exact sd_k_lconst K hf hd h k
    case ldc => exact sd_k_ldc K hf hd h k
    case iload_n => exact sd_k_iload_n K hf hd h k
    case aload_n => exact sd_k_aload_n K hf hd h k
    case istore_n => exact sd_k_istore_n K hf hd h k
    case iinc => exact sd_k_iinc K hf hd h k
    case goto => exact sd_k_goto K hf hd h k
    case dup => exact sd_k_dup K hf hd h k
    case new => exact sd_k_new K hf hd h k
    case newarray => exact sd_k_newarray K hf hd h k
    case anewarray => exact sd_k_anewarray K hf hd h k
    case putfield => exact sd_k_putfield K hf hd h k
    case getfield => exact sd_k_getfield K hf hd h k
    case aastore => exact sd_k_aastore K hf hd h k
    case invokespecial => exact sd_k_invokespecial K hf hd h k
    case multianewarray => exact sd_k_multianewarray K hf hd h k
    case if_icmp cnd off =>
      cases cnd
      case ge => exact sd_k_icmp_ge K hf hd h k
      all_goals exact absurd (show (none : sd_cO) = some _ from h) (fun q => by cases q)
    case return_ =>
      exfalso
      obtain ⟨-, h⟩ := sd_cL_ok (r := _) h
      split at h <;> cases h
    all_goals exact absurd (show (none : sd_cO) = some _ from h) (fun q => by cases q)
end SDCM
