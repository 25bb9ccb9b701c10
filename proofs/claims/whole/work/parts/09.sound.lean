/-! whole frames and whole methods -/
theorem sd_ent_sl {ad : Nat → Nat} : ∀ {av : List Value}, (lg_sl (av.map (sd_cv ad))).length = (sd_ent av).length
  | [] => rfl
  | v :: av => by
    have ih := sd_ent_sl (ad := ad) (av := av)
    unfold lg_sl at ih ⊢
    unfold sd_ent
    rw [List.map_cons, List.flatMap_cons, List.length_append, ih, sd_cv_cat]
    by_cases h : v.category = 2
    · rw [if_pos h, if_pos h]
      simp only [List.length_cons, List.length_nil]
      omega
    · rw [if_neg h, if_neg h]
      simp only [List.length_cons, List.length_nil]
      omega
theorem sd_ent_un {ad : Nat → Nat} {q : Nat × Value} : ∀ {k j : Nat}, q ∈ sd_lv ad j (List.replicate k sd_un) → False
  | 0, j, h => by cases h
  | k + 1, j, h => by
    rw [List.replicate_succ] at h
    unfold sd_lv at h
    rw [if_neg (by decide)] at h
    exact sd_ent_un h
theorem sd_ent_lv {ad : Nat → Nat} {q : Nat × Value} {k : Nat} : ∀ {av : List Value} {j : Nat}, q ∈ sd_lv ad j (sd_ent av ++ List.replicate k sd_un) → q ∈ lv_args j (av.map (sd_cv ad))
  | [], j, h => (sd_ent_un h).elim
  | v :: av, j, h => by
    unfold sd_ent at h
    rw [List.cons_append] at h
    rw [List.map_cons]
    unfold lv_args
    rw [sd_cv_cat]
    have key : q ∈ sd_lv ad (j + 1) ((if v.category = 2 then sd_un :: sd_ent av else sd_ent av) ++ List.replicate k sd_un) → q ∈ lv_args (if v.category = 2 then j + 2 else j + 1) (av.map (sd_cv ad)) := by
      intro h
      by_cases hc : v.category = 2
      · rw [if_pos hc] at h ⊢
        rw [List.cons_append] at h
        unfold sd_lv at h
        rw [if_neg (by decide)] at h
        exact sd_ent_lv h
      · rw [if_neg hc] at h ⊢
        exact sd_ent_lv h
    unfold sd_lv at h
    split at h
    · rcases List.mem_cons.mp h with rfl | h
      · exact List.mem_cons_self
      · exact List.mem_cons_of_mem _ (key h)
    · exact List.mem_cons_of_mem _ (key h)
theorem sd_has_entry {ad : Nat → Nat} {av : List Value} {n : Nat} (h : (sd_ent av).length ≤ n) : sd_has ad ((lg_sl (av.map (sd_cv ad)) ++ List.replicate (n - (lg_sl (av.map (sd_cv ad))).length) Slot.unset).toArray) n (sd_entry av n) := by
  have h1 := lv_entry (av.map (sd_cv ad)) (n := n) (by rw [sd_ent_sl]; exact h)
  exact ⟨⟨h1.1, h1.2.1, fun q hq => h1.2.2 q (sd_ent_lv hq)⟩, by unfold sd_entry; rw [List.length_append, List.length_replicate]; omega⟩
section SDF
variable {p : Program} {l : Launch} {e : Env} {R : Room} {s : State} {m : MethodId} {args : Array Value} {below : List Frame} {meth : Method} {c : Code} {cells slots : Nat} {Q : State → Prop}
variable {E : sd_E} {ad : Nat → Nat} {B0 : Nat} {D : va_G} {cA : Nat → ClassId} {y : Nat} {pc : Nat} {ls st : List Value} {σ : sd_Mem}
theorem sd_callW {y' : Nat} {av rest : List Value} {v : Option Value} {σ1 : sd_Mem} {d : Nat} (K : sd_Ctx p s m args c E ad B0 D cA y) (hf : d + 1 ≤ R.frames ∧ 40 * (d + 1) ≤ R.locals ∧ cells ≤ R.cells ∧ slots ≤ R.slots)
    (h : sd_step E y pc ls st σ = some (.inr (.inl (y', av, rest)))) (hM : sd_Met l E ad B0 D cA d y' av σ v σ1)
    (k : ∀ (H : Heap) (locs : List Loc) (sl : Array Slot), va_P D sd_cl (sd_wld E ad cA σ1) H → va_S (fun q => B0 ≤ q) s.heap H locs → sd_has ad sl (sd_m y).2.2.1 ls → W p l e R s m args below meth c H locs cells slots Q (F0 m (pc + 3) sl ((v.toList ++ rest).map (sd_cv ad)))) :
    ∀ (H : Heap) (locs : List Loc) (sl : Array Slot), va_P D sd_cl (sd_wld E ad cA σ) H → va_S (fun q => B0 ≤ q) s.heap H locs → sd_has ad sl (sd_m y).2.2.1 ls → W p l e R s m args below meth c H locs cells slots Q (F0 m pc sl (st.map (sd_cv ad))) := by
  unfold sd_step at h
  cases hd : decode (sd_m y).2.1 pc with
  | error z => rw [hd] at h; cases h
  | ok q =>
    obtain ⟨i, len⟩ := q
    rw [hd] at h
    replace h : sd_ins E (sd_m y).2.2.2.2.1 (sd_m y).2.2.2.1 i len pc ls st σ = some (.inr (.inl (y', av, rest))) := h
    rcases sd_ins_call h with ⟨n, rfl⟩ | ⟨n, rfl⟩
    · have h9 := sd_L_ok (r := _) h
      clear h
      obtain ⟨rfl, h⟩ := h9
      split at h
      · rename_i y2 z hlk
        split at h
        · rename_i a r hst
          split at h
          · rename_i hh
            cases h
            exact sd_callV K hf hd hlk hst hh.1 hh.2 hM k
          · cases h
        · cases h
      · cases h
    · have h9 := sd_L_ok (r := _) h
      clear h
      obtain ⟨rfl, h⟩ := h9
      split at h
      · exact (sd_no_cpy h).elim
      · split at h
        · exact (sd_no_mth h).elim
        · split at h
          · rename_i y2 z hlk
            split at h
            · rename_i hh
              cases h
              exact sd_callS K hf hd hlk hh.1 hh.2 hM k
            · cases h
          · cases h
theorem sd_frame {C : Nat → List Value → sd_Mem → Option Value → sd_Mem → Prop} {d : Nat} {r : Option Value} {σ' : sd_Mem} (K : sd_Ctx p s m args c E ad B0 D cA y) (hf : d + 1 ≤ R.frames ∧ 40 * (d + 1) ≤ R.locals ∧ cells ≤ R.cells ∧ slots ≤ R.slots)
    (hC : ∀ (y' : Nat) (av : List Value) (σ1 : sd_Mem) (v : Option Value) (σ2 : sd_Mem), C y' av σ1 v σ2 → sd_Met l E ad B0 D cA d y' av σ1 v σ2)
    (hret : ∀ (pc : Nat) (ls st : List Value), sd_step E y pc ls st σ' = some (.inr (.inr r)) → ∀ (H : Heap) (locs : List Loc) (sl : Array Slot), va_P D sd_cl (sd_wld E ad cA σ') H → va_S (fun q => B0 ≤ q) s.heap H locs → W p l e R s m args below meth c H locs cells slots Q (F0 m pc sl (st.map (sd_cv ad)))) :
    ∀ (n pc : Nat) (ls st : List Value) (σ : sd_Mem), sd_run E C y n pc ls st σ r σ' → ∀ (H : Heap) (locs : List Loc) (sl : Array Slot), va_P D sd_cl (sd_wld E ad cA σ) H → va_S (fun q => B0 ≤ q) s.heap H locs → sd_has ad sl (sd_m y).2.2.1 ls → W p l e R s m args below meth c H locs cells slots Q (F0 m pc sl (st.map (sd_cv ad)))
  | 0, _, _, _, _, h => by cases h
  | n + 1, pc, ls, st, σ, h => by
    have ih := sd_frame K hf hC hret n
    unfold sd_run at h
    cases hs : sd_step E y pc ls st σ with
    | none => rw [hs] at h; cases h
    | some z =>
      rw [hs] at h
      rcases z with ⟨pc2, ls2, st2, σ2⟩ | ⟨y', av, rest⟩ | v
      · exact sd_next K ⟨by omega, by omega, hf.2.2⟩ hs (ih _ _ _ _ h)
      · obtain ⟨v, σ1, hc, h⟩ := h
        exact sd_callW K hf hs (hC _ _ _ _ _ hc) (ih _ _ _ _ h)
      · obtain ⟨rfl, rfl⟩ := h
        intro H locs sl hP hS _
        exact hret pc ls st hs H locs sl hP hS
theorem sd_retW {r : Option Value} {free : Addr → Prop} (K : sd_Ctx p s m args c E ad B0 D cA y) (hr : meth.sig.returnType = (sd_m y).2.2.2.1) (hlocks : meth.locks = false)
    (h : sd_step E y pc ls st σ = some (.inr (.inr r))) : ∀ (H : Heap) (locs : List Loc) (sl : Array Slot), va_P D sd_cl (sd_wld E ad cA σ) H → va_S (fun q => B0 ≤ q) s.heap H locs →
    W p l e R s m args below meth c H locs cells slots (MQ below (sd_Qc E ad B0 D cA r σ) args s cells slots (fun q => B0 ≤ q)) (F0 m pc sl (st.map (sd_cv ad))) := by
  intro H locs sl hP hS
  obtain ⟨hx, hb, hml, hown, hts, hK, hX, hnest, hAd⟩ := K
  have hq : ∀ (t : State), t.heap = H → s.WarmedH t.vm → sd_Qc E ad B0 D cA r σ args s (.returned (r.map (sd_cv ad))) t := fun t ht hW =>
    ⟨rfl, ⟨by rw [ht]; exact hP, va_K.moved hW.alike hK, sd_X_kept hW.alike ⟨by rw [ht]; exact hS.1, by rw [ht]; exact hS.2.1⟩ hX⟩, hS.F ht⟩
  unfold sd_step at h
  cases hd : decode (sd_m y).2.1 pc with
  | error z => rw [hd] at h; cases h
  | ok q =>
    obtain ⟨i, len⟩ := q
    rw [hd] at h
    replace h : sd_ins E (sd_m y).2.2.2.2.1 (sd_m y).2.2.2.1 i len pc ls st σ = some (.inr (.inr r)) := h
    rcases sd_ins_ret h with rfl | rfl | rfl | rfl
    · have h9 := sd_L_ok (r := _) h
      clear h
      obtain ⟨rfl, h⟩ := h9
      split at h
      · rename_i hrt
        cases h
        exact W.iret hx hb (hr.trans hrt) hq hS.2.2 hd hlocks
      · rename_i hrt
        split at h
        · rename_i hv
          cases h
          exact W.zret (ty := .boolean) hx hb (hr.trans hrt) (by rcases hv with rfl | rfl <;> rfl) hq hS.2.2 hd hlocks
        · cases h
      · rename_i hrt
        split at h
        · rename_i hv
          cases h
          exact W.zret (ty := .char) hx hb (hr.trans hrt) hv hq hS.2.2 hd hlocks
        · cases h
      · rename_i hrt
        split at h
        · rename_i hv
          cases h
          exact W.zret (ty := .byte) hx hb (hr.trans hrt) hv hq hS.2.2 hd hlocks
        · cases h
      · cases h
    · have h9 := sd_L_ok (r := _) h
      clear h
      obtain ⟨rfl, h⟩ := h9
      split at h
      · rename_i hrt
        cases h
        exact W.lret hx hb (hr.trans hrt) hq hS.2.2 hd hlocks
      · cases h
    · have h9 := sd_L_ok (r := _) h
      clear h
      obtain ⟨rfl, h⟩ := h9
      split at h
      · rename_i hrt
        cases h
        exact W.vret hx hb (hr.trans hrt) hq hS.2.2 hd hlocks
      · cases h
    · have h9 := sd_L_ok (r := _) h
      clear h
      obtain ⟨rfl, h⟩ := h9
      split at h
      · rename_i a nm hrt
        cases h
        exact W.aret hx hb (hr.trans hrt) (Or.inl ⟨_, rfl⟩) (Or.inr ⟨_, rfl⟩) hq hS.2.2 hd hlocks
      · cases h
end SDF
/-- every call of the pure machine is a call of the machine -/
theorem sd_all {l : Launch} {E : sd_E} {ad : Nat → Nat} {B0 : Nat} {D : va_G} {cA : Nat → ClassId} (hAd : sd_Ad ad B0) : ∀ (d y : Nat) (av : List Value) (σ : sd_Mem) (v : Option Value) (σ' : sd_Mem), sd_C' E d y av σ v σ' → sd_Met l E ad B0 D cA d y av σ v σ'
  | 0, _, _, _, _, _, h => by cases h
  | d + 1, y, av, σ, v, σ', h => by
    obtain ⟨hy, hlen, n, hrun⟩ := h
    obtain ⟨f1, f2, f3, f4, f5, f6, f7⟩ := sd_mF hy
    refine Met.ofW (cc := (sd_m y).2.1) (maxL := (sd_m y).2.2.1) (ret := (sd_m y).2.2.2.1) f7 rfl ?_
    intro p e s m args below meth c s₁ B hml hv
    obtain ⟨rfl, ⟨hP, hK, hX⟩, hN⟩ := hv
    have hts0 := atoms_spec (ws := sd_wsM y) B.pre
    have K : sd_Ctx p s m (av.map (sd_cv ad)).toArray c E ad B0 D cA y := ⟨B.exec, B.bytes, hml, by rw [f6]; exact findClass_of_methodNamed B.named, fun w hw => hts0 w (List.mem_cons_of_mem _ hw), hK, hX, hN, hAd⟩
    rw [lg_entry_eq]
    exact sd_frame (d := d) K ⟨Nat.le_refl _, Nat.le_refl _, Nat.le_refl _, Nat.le_refl _⟩ (sd_all hAd d) (fun pc ls st hs H locs sl hP hS => sd_retW (free := fun q => B0 ≤ q) K B.returns B.notSynchronized hs H locs sl hP hS) n 0 (sd_entry av (sd_m y).2.2.1) [] σ hrun s.heap [] _ hP va_S.rf (sd_has_entry hlen)
