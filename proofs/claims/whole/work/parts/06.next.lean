/-! small facts for the instructions -/
theorem sd_range_set {N f : Nat} {g g' : Nat → Value} {v : Value} (h : f < N ∧ g' f = v ∧ ∀ j, j ≠ f → g' j = g j) : (List.range N).map g' = ((List.range N).map g).set f v := by
  obtain ⟨h0, h1, h2⟩ := h
  apply List.ext_getElem?
  intro j
  by_cases hl : j < N
  · by_cases hj : j = f
    · subst hj
      rw [List.getElem?_set_self (by simpa using hl), List.getElem?_map, List.getElem?_range hl, ← h1]
      rfl
    · rw [List.getElem?_set_ne (Ne.symm hj), List.getElem?_map, List.getElem?_map, List.getElem?_range hl]
      show some (g' j) = some (g j)
      rw [h2 j hj]
  · rw [List.getElem?_eq_none (by simp; omega), List.getElem?_eq_none (by simp; omega)]
theorem sd_inCl {ci : Nat} (h : ci < 12) : ∀ w ∈ u_ws (sd_C ci).1 (sd_C ci).2.1 (sd_C ci).2.2, w ∈ sd_tbl := by
  intro w hw
  refine List.mem_filter.mpr ⟨sd_in ci h w hw, ?_⟩
  obtain ⟨k, -, rfl⟩ := List.mem_map.mp hw
  unfold u_lay
  split <;> rfl
theorem sd_flW {o i ci f z : Nat} (h : sd_fl o i = some (ci, f, z)) : ci < 12 ∧ f < (sd_C ci).2.2 ∧ Cond.fieldLink (sd_R o) i ((sd_C ci).2.1 f).1 ((sd_C ci).2.1 f).2.1 ((sd_C ci).2.1 f).2.2.1 ∈ sd_tbl := by
  unfold sd_fl at h
  split at h
  · rename_i hi
    have h1 := sd_fok _ (sd_findM h)
    unfold sd_fchk at h1
    simp only [Bool.and_eq_true, decide_eq_true_eq] at h1
    obtain ⟨a1, a2, a3⟩ := h1
    rw [show (o * 65536 + i) / 65536 = o by omega, show (o * 65536 + i) % 65536 = i by omega] at a3
    exact ⟨a1, a2, sd_inT a3 rfl⟩
  · cases h
theorem sd_cstW {o i : Nat} {q : Int32 × Nat} (h : sd_cst o i = some q) : Cond.constant (sd_R o) i q.1 ∈ sd_tbl := by
  unfold sd_cst at h
  split at h
  · rename_i hi
    have h1 := of_decide_eq_true (sd_cok _ (sd_findM h))
    rw [show (o * 65536 + i) / 65536 = o by omega, show (o * 65536 + i) % 65536 = i by omega] at h1
    exact sd_inT h1 rfl
  · cases h
theorem sd_cslW {o i : Nat} {q : Int64 × Nat} (h : sd_csl o i = some q) : Cond.constantLong (sd_R o) i q.1 ∈ sd_tbl := by
  unfold sd_csl at h
  split at h
  · rename_i hi
    have h1 := of_decide_eq_true (sd_cokL _ (sd_findM h))
    rw [show (o * 65536 + i) / 65536 = o by omega, show (o * 65536 + i) % 65536 = i by omega] at h1
    exact sd_inT h1 rfl
  · cases h
theorem sd_acW {o i z : Nat} (h : sd_ac o i = some z) : Cond.methodLink (sd_R o) i arraycopyName ∈ sd_tbl := by
  unfold sd_ac at h
  split at h
  · rename_i hi
    have h1 := of_decide_eq_true (sd_acok _ (sd_findM h))
    rw [show (o * 65536 + i) / 65536 = o by omega, show (o * 65536 + i) % 65536 = i by omega] at h1
    exact sd_inT h1 rfl
  · cases h
def sd_mtN (t : Nat) : MethodName := match t with
  | 0 => ⟨"java/lang/Math", "max", "(II)I"⟩
  | 1 => ⟨"java/lang/Math", "min", "(II)I"⟩
  | 2 => ⟨"java/lang/Math", "abs", "(I)I"⟩
  | 3 => ⟨"java/lang/Math", "max", "(JJ)J"⟩
  | _ => ⟨"java/lang/Math", "min", "(JJ)J"⟩
theorem sd_mtW {o i t z : Nat} (h : sd_mt o i = some (t, z)) : Cond.methodLink (sd_R o) i (sd_mtN t) ∈ sd_tbl := by
  unfold sd_mt at h
  split at h
  · rename_i hi
    have h1 := of_decide_eq_true (sd_mtok _ (sd_findM h))
    rw [show (o * 65536 + i) / 65536 = o by omega, show (o * 65536 + i) % 65536 = i by omega] at h1
    rcases t with _ | _ | _ | _ | t <;> exact sd_inT h1 rfl
  · cases h
theorem sd_gsW {o i t z : Nat} (h : sd_gs o i = some (t, z)) : Cond.fieldLink (sd_R o) i (sd_gsN t).1 (sd_gsN t).2.1 (sd_gsN t).2.2 ∈ sd_tbl := by
  unfold sd_gs at h
  split at h
  · rename_i hi
    have h1 := of_decide_eq_true (sd_gsok _ (sd_findM h))
    rw [show (o * 65536 + i) / 65536 = o by omega, show (o * 65536 + i) % 65536 = i by omega] at h1
    exact sd_inT h1 rfl
  · cases h
theorem sd_sfW {o i t z : Nat} (h : sd_sf o i = some (t, z)) : (t = 0 ∧ Cond.fieldLink (sd_R o) i "java/lang/String" "value" "[B" ∈ sd_tbl) ∨ (t = 1 ∧ Cond.fieldLink (sd_R o) i "java/lang/String" "coder" "B" ∈ sd_tbl) := by
  unfold sd_sf at h
  split at h
  · rename_i hi
    have h1 := of_decide_eq_true (sd_sfok _ (sd_findM h))
    rw [show (o * 65536 + i) / 65536 = o by omega, show (o * 65536 + i) % 65536 = i by omega] at h1
    rcases h1 with ⟨a, b⟩ | ⟨a, b⟩
    · exact Or.inl ⟨a, sd_inT b rfl⟩
    · exact Or.inr ⟨a, sd_inT b rfl⟩
  · cases h
theorem sd_scW {ad : Nat → Nat} {U : State} {o i : Nat} {q : Nat × Nat} (h : sd_sc o i = some q) (hN : sd_Nw ad U) : vk_R (sd_R o) i (sd_txt q.1) (ad (410 + q.1)) U := by
  unfold sd_sc at h
  split at h
  · rename_i hi
    have h1 := hN.2 _ (sd_findM h)
    rw [show (o * 65536 + i) / 65536 = o by omega, show (o * 65536 + i) % 65536 = i by omega] at h1
    exact h1
  · cases h
theorem sd_X5 {E : sd_E} {ad : Nat → Nat} {B0 : Nat} {U : State} {H : Heap} {a : Nat} (h : sd_X E ad B0 U H) (ha : 410 ≤ a ∧ a < 419) : va_OF "java/lang/String" "coder" "B" (.int 0) (ad a) (fun q => B0 ≤ q) U H ∧ va_OF "java/lang/String" "value" "[B" (.ref (ad (a + 20))) (ad a) (fun q => B0 ≤ q) U H := by
  have h5 := h.2.2.2.2.1 (a - 410) (by omega)
  have e1 : 410 + (a - 410) = a := by omega
  have e2 : 430 + (a - 410) = a + 20 := by omega
  dsimp only at h5
  rw [e1, e2] at h5
  exact ⟨h5.2.1, h5.2.2.1⟩
theorem sd_X6 {E : sd_E} {ad : Nat → Nat} {B0 : Nat} {U : State} {H : Heap} {a : Nat} (h : sd_X E ad B0 U H) (ha : 430 ≤ a ∧ a < 439) : va_T .byte (ad a) (sd_slen.getD (a - 430) 0) (fun j => .int ((sd_sbyt.getD (a - 430) []).getD j 0)) (fun q => B0 ≤ q) U H := by
  have h5 := (h.2.2.2.2.1 (a - 430) (by omega)).2.2.2
  have e1 : 430 + (a - 430) = a := by omega
  dsimp only at h5
  rw [e1] at h5
  exact h5
theorem sd_nfw : nativeFrameWords "java/lang/System" "arraycopy" 5 + 11 ≤ 32 := by decide +kernel
theorem sd_wI_row {σ : sd_Mem} {a i : Nat} {v : Int32} : (sd_wI σ a i v).1 a = upd (σ.1 a) i v := by
  funext j
  show (if a = a ∧ j = i then v else σ.1 a j) = _
  by_cases h : j = i
  · rw [if_pos ⟨rfl, h⟩, h, pk_us]
  · rw [if_neg (fun q => h q.2), pk_un h]
theorem sd_wL_row {σ : sd_Mem} {a i : Nat} {v : Int64} : (sd_wL σ a i v).2.1 a = vp_updL (σ.2.1 a) i v := by
  funext j
  show (if a = a ∧ j = i then v else σ.2.1 a j) = _
  by_cases h : j = i
  · rw [if_pos ⟨rfl, h⟩, h, pk_uLs]
  · rw [if_neg (fun q => h q.2), pk_uLn h]
theorem sd_wA_row {σ : sd_Mem} {a : Nat} {f : Nat → Int32} : (sd_wA σ a f).1 a = f := by
  funext j
  exact if_pos rfl
theorem sd_cellI {E : sd_E} {ad : Nat → Nat} {cA : Nat → ClassId} {σ : sd_Mem} {a i j : Nat} {v : Int32} (h : j ≠ a) : sd_cell E ad cA (sd_wI σ a i v) j = sd_cell E ad cA σ j :=
  sd_cell_congr (by funext z; exact if_neg (fun q => h q.1)) rfl rfl
theorem sd_cellL {E : sd_E} {ad : Nat → Nat} {cA : Nat → ClassId} {σ : sd_Mem} {a i j : Nat} {v : Int64} (h : j ≠ a) : sd_cell E ad cA (sd_wL σ a i v) j = sd_cell E ad cA σ j :=
  sd_cell_congr rfl (by funext z; exact if_neg (fun q => h q.1)) rfl
theorem sd_cellR {E : sd_E} {ad : Nat → Nat} {cA : Nat → ClassId} {σ : sd_Mem} {a i j : Nat} {v : Option Nat} (h : j ≠ a) : sd_cell E ad cA (sd_wR σ a i v) j = sd_cell E ad cA σ j :=
  sd_cell_congr rfl rfl (by funext z; exact if_neg (fun q => h q.1))
theorem sd_cellA {E : sd_E} {ad : Nat → Nat} {cA : Nat → ClassId} {σ : sd_Mem} {a j : Nat} {f : Nat → Int32} (h : j ≠ a) : sd_cell E ad cA (sd_wA σ a f) j = sd_cell E ad cA σ j :=
  sd_cell_congr (by funext z; exact if_neg h) rfl rfl
theorem sd_cell_arr {E : sd_E} {ad : Nat → Nat} {cA : Nat → ClassId} {σ : sd_Mem} {a t n : Nat} (h : sd_sh a = .inr (t, n)) (ht : t < 5) : ∃ (ty : FieldType) (x : vp_A), sd_cell E ad cA σ a = .inl (cA t, x) ∧ x.1 = n ∧ (sd_tys cA)[t]? = some (cA t, ty) := by
  unfold sd_cell
  rw [h]
  match t, ht with
  | 0, _ => exact ⟨_, _, rfl, rfl, rfl⟩
  | 1, _ => exact ⟨_, _, rfl, rfl, rfl⟩
  | 2, _ => exact ⟨_, _, rfl, rfl, rfl⟩
  | 3, _ => exact ⟨_, _, rfl, rfl, rfl⟩
  | 4, _ => exact ⟨_, _, rfl, rfl, rfl⟩
  | t + 5, h => exact absurd h (by omega)
theorem sd_put1_ok {E : sd_E} {ad : Nat → Nat} {σ σ' : sd_Mem} {a ci f : Nat} {v : Value} (h : sd_put1 E σ a ci f v = some σ') (hci : ci < 12) (hf : f < (sd_C ci).2.2) :
    narrow (sd_ty ci f) (sd_cv ad v) = sd_cv ad v ∧ fits (sd_ty ci f) (sd_cv ad v) = true ∧ (∀ {cA : Nat → ClassId}, ∀ j, j ≠ a → sd_cell E ad cA σ' j = sd_cell E ad cA σ j) ∧ (f < (sd_C ci).2.2 ∧ sd_cv ad (sd_val E σ' a ci f) = sd_cv ad v ∧ ∀ j, j ≠ f → sd_cv ad (sd_val E σ' a ci j) = sd_cv ad (sd_val E σ a ci j)) := by
  have hk := sd_kdok ci hci f hf
  unfold sd_kdchk at hk
  unfold sd_put1 at h
  split at h
  · rename_i x e1
    cases h
    rw [e1] at hk
    have ht : sd_ty ci f = .int := of_decide_eq_true hk
    rw [ht]
    refine ⟨vp_nar_int x, rfl, fun j hj => sd_cellI hj, hf, ?_, fun j hj => ?_⟩
    · unfold sd_val
      rw [e1]
      show Value.int (if a = a ∧ f = f then x else _) = _
      rw [if_pos ⟨rfl, rfl⟩]
      rfl
    · unfold sd_val sd_gR
      have e : (sd_wI σ a f x).1 a j = σ.1 a j := if_neg (fun q => hj q.2)
      rw [e]
      rfl
  · rename_i x e1
    split at h
    · rename_i hx
      cases h
      rw [e1] at hk
      have ht : sd_ty ci f = .boolean := of_decide_eq_true hk
      rw [ht]
      refine ⟨by rcases hx with rfl | rfl <;> rfl, by rcases hx with rfl | rfl <;> rfl, fun j hj => sd_cellI hj, hf, ?_, fun j hj => ?_⟩
      · unfold sd_val
        rw [e1]
        show Value.int (if a = a ∧ f = f then x else _) = _
        rw [if_pos ⟨rfl, rfl⟩]
        rfl
      · unfold sd_val sd_gR
        have e : (sd_wI σ a f x).1 a j = σ.1 a j := if_neg (fun q => hj q.2)
        rw [e]
        rfl
    · cases h
  · rename_i x e1
    cases h
    rw [e1] at hk
    have ht : sd_ty ci f = .long := of_decide_eq_true hk
    rw [ht]
    refine ⟨rfl, rfl, fun j hj => sd_cellL hj, hf, ?_, fun j hj => ?_⟩
    · unfold sd_val
      rw [e1]
      show Value.long (if a = a ∧ f = f then x else _) = _
      rw [if_pos ⟨rfl, rfl⟩]
      rfl
    · unfold sd_val sd_gR
      have e : (sd_wL σ a f x).2.1 a j = σ.2.1 a j := if_neg (fun q => hj q.2)
      rw [e]
      rfl
  · rename_i b e1
    split at h
    · rename_i hE
      cases h
      rw [e1] at hk
      have hg : ∀ j, j ≠ f → sd_gR E (sd_wR σ a f (some b)) a j = sd_gR E σ a j := by
        intro j hj
        unfold sd_gR
        have e : (sd_wR σ a f (some b)).2.2 a j = σ.2.2 a j := if_neg (fun q => hj q.2)
        rw [e]
      have hg2 : sd_gR E (sd_wR σ a f (some b)) a f = some b := by
        unfold sd_gR
        rw [hE]
        exact if_pos ⟨rfl, rfl⟩
      refine ⟨?_, ?_, fun j hj => sd_cellR hj, hf, ?_, fun j hj => ?_⟩
      · revert hk
        cases sd_ty ci f <;> intro hk <;> first | rfl | cases hk
      · revert hk
        cases sd_ty ci f <;> intro hk <;> first | rfl | cases hk
      · unfold sd_val
        rw [e1]
        show sd_cv ad (va_rf (sd_gR E (sd_wR σ a f (some b)) a f)) = _
        rw [hg2]
        rfl
      · unfold sd_val
        rw [hg j hj]
        rfl
    · cases h
  · cases h
theorem sd_acN : Cond.native arraycopyName ∈ sd_tbl := List.mem_filter.mpr ⟨List.mem_of_getElem? (i := 641) (by decide +kernel), rfl⟩
theorem sd_acS : Cond.static arraycopyName ∈ sd_tbl := List.mem_filter.mpr ⟨List.mem_of_getElem? (i := 640) (by decide +kernel), rfl⟩
theorem sd_acI : Cond.initialized "java/lang/System" ∈ sd_tbl := List.mem_filter.mpr ⟨List.mem_of_getElem? (i := 112) (by decide +kernel), rfl⟩
theorem sd_mI : Cond.initialized "java/lang/Math" ∈ sd_tbl := List.mem_filter.mpr ⟨List.mem_of_getElem? (i := 108) (by decide +kernel), rfl⟩
theorem sd_mS0 : Cond.static Lib.Math.max.name ∈ sd_tbl := List.mem_filter.mpr ⟨List.mem_of_getElem? (i := 574) (by decide +kernel), rfl⟩
theorem sd_mC0 : Cond.code Lib.Math.max.name Lib.Math.max.code 2 (some .int) ∈ sd_tbl := List.mem_filter.mpr ⟨sd_t3 (List.mem_of_getElem? (i := 2) rfl), rfl⟩
theorem sd_mS1 : Cond.static Lib.Math.min.name ∈ sd_tbl := List.mem_filter.mpr ⟨List.mem_of_getElem? (i := 577) (by decide +kernel), rfl⟩
theorem sd_mC1 : Cond.code Lib.Math.min.name Lib.Math.min.code 2 (some .int) ∈ sd_tbl := List.mem_filter.mpr ⟨sd_t3 (List.mem_of_getElem? (i := 5) rfl), rfl⟩
theorem sd_mS2 : Cond.static Lib.Math.abs.name ∈ sd_tbl := List.mem_filter.mpr ⟨List.mem_of_getElem? (i := 1170) (by decide +kernel), rfl⟩
theorem sd_mC2 : Cond.code Lib.Math.abs.name Lib.Math.abs.code 1 (some .int) ∈ sd_tbl := List.mem_filter.mpr ⟨sd_t5 (List.mem_of_getElem? (i := 118) rfl), rfl⟩
theorem sd_mS3 : Cond.static Lib.MathLoose.max_long.x ∈ sd_tbl := List.mem_filter.mpr ⟨List.mem_of_getElem? (i := 1632) (by decide +kernel), rfl⟩
theorem sd_mC3 : Cond.code Lib.MathLoose.max_long.x Lib.MathLoose.max_long.code 4 (some .long) ∈ sd_tbl := List.mem_filter.mpr ⟨sd_t7 (List.mem_of_getElem? (i := 100) rfl), rfl⟩
theorem sd_mS4 : Cond.static Lib.MathLoose.min_long.x ∈ sd_tbl := List.mem_filter.mpr ⟨List.mem_of_getElem? (i := 1629) (by decide +kernel), rfl⟩
theorem sd_mC4 : Cond.code Lib.MathLoose.min_long.x Lib.MathLoose.min_long.code 4 (some .long) ∈ sd_tbl := List.mem_filter.mpr ⟨sd_t7 (List.mem_of_getElem? (i := 97) rfl), rfl⟩
section SDQ
variable {p : Program} {l : Launch} {e : Env} {R : Room} {s : State} {m : MethodId} {args : Array Value} {below : List Frame} {meth : Method} {c : Code} {H : Heap} {locs : List Loc} {cells slots : Nat} {Q : State → Prop}
variable {cc : ByteArray} {pc : Nat} {ls : Array Slot} {rest : List Value} {D : va_G} {cl : List vw_C} {a : Nat} {tys : List (ClassId × FieldType)} {ws : va_W}
theorem sd_aald2 (hexec : p.tables.exec = Jvm.exec) (hb : c.code = cc) (hK : va_K D cl tys s) (hP : va_P D cl ws H) (q0 t0 : Nat) {cA : ClassId} {n : Nat} {f : Nat → Option Nat} (ha : ws[q0]? = some (a, .inl (cA, n, .inr (.inr (.inr (.inr f)))))) (ht : tys[t0]? = some (cA, .array .int)) {i : Int32} (hin : vp_in i n) (hdg : decode cc pc = .ok (.aaload, 1))
    (kk : W p l e R s m args below meth c H locs cells slots Q (F0 m (pc + 1) ls (va_rf (f i.toNatClampNeg) :: rest))) : W p l e R s m args below meth c H locs cells slots Q (F0 m pc ls (.int i :: .ref a :: rest)) := by
  have size : (arrV cA n fun j => va_rf (f j)).slots.size = n := arrV_size ..
  have read := arrV_read cA (fun j => va_rf (f j)) (Nat.lt_of_not_le fun q => hin (.inr q))
  exact W.aald hexec hb (cell := arrV cA n fun j => va_rf (f j)) (hP q0 _ ha) ((hK.2 t0 _ ht).1 n _) rfl (fun q => nomatch q) (by rw [size]; exact hin) read rfl rfl hdg kk
theorem sd_ldcSW (hexec : p.tables.exec = Jvm.exec) (hb : c.code = cc) {own tx : String} {index q : Nat} (hown : s.vm.findClass own = some m.cls) (hZ : vk_R own index tx q s) (hdg : decode cc pc = .ok (.ldc_w index, 3))
    (k : W p l e R s m args below meth c H locs cells slots Q (F0 m (pc + 3) ls (.ref q :: rest))) : W p l e R s m args below meth c H locs cells slots Q (F0 m pc ls rest) := by
  intro T hT X
  obtain ⟨t, a1, b1⟩ := k T hT X
  exact ⟨t, X.ldcStringW hexec hown (text := tx) (a := q) hZ.1 hZ.2 (g := F0 m pc ls rest) rfl (by rw [hb]; exact hdg) t a1, b1⟩
/-- the caller's old cells, where only free ones were changed or made -/
theorem sd_S_after {A : Nat → Prop} {H0 H1 : Heap} {L : List Loc} (hS : va_S A H0 H locs) (grow : H.size ≤ H1.size) (kept : ∀ q : Nat, q < H.size → ¬ A q → H1[q]? = H[q]?) (hL : ∀ z ∈ L, A z.base) : va_S A H0 H1 (locs ++ L) :=
  ⟨Nat.le_trans hS.1 grow, fun q h1 h2 => (kept q (Nat.lt_of_lt_of_le h1 hS.1) h2).trans (hS.2.1 q h1 h2), fun z hz => (List.mem_append.mp hz).elim (hS.2.2 z) (hL z)⟩
/-- behind a call: G, which its end gives, and the old cells -/
theorem sd_goesA {A : Nat → Prop} {Qa : State → Outcome → State → Prop} {G : Option Value → Heap → Prop} {mc ms : Nat} {st0 : List Value} (hr : va_Run p l e R s m args below meth c H locs cells slots mc ms (F0 m pc ls st0) rest Qa A) (hS : va_S A s.heap H locs) (hQ : ∀ st v t, Qa st (.returned v) t → G v t.heap ∧ va_F A st t)
    (kk : ∀ (v : Option Value) (H1 : Heap) (locs1 : List Loc), G v H1 → va_S A s.heap H1 locs1 → W p l e R s m args below meth c H1 locs1 (cells + mc) (slots + ms) Q (F0 m (pc + 3) ls (v.toList ++ rest))) : W p l e R s m args below meth c H locs cells slots Q (F0 m pc ls st0) := by
  intro T hT X
  obtain ⟨v, st, t, T', L, same, X', free, heap, -, fin, on⟩ := hr T hT X
  obtain ⟨g, grow, kept⟩ := hQ _ _ _ fin
  rw [same, ← heap] at grow kept
  rw [← heap] at g
  obtain ⟨u, walk, hu⟩ := kk v T'.heap (locs ++ L) g (sd_S_after hS grow kept free) T' rfl X'
  exact ⟨u, on u walk, hu⟩
/-- one row of ints of the world, put anew -/
theorem sd_swapZ {A : Nat → Prop} {H0 : Heap} {q1 n1 : Nat} {c1 : ClassId} {g : Nat → Int32} (hP : va_P D cl ws H) (hD : va_D A ws) (hS : va_S A H0 H locs) (ha : ws[q1]? = some (a, .inl (c1, n1, .inl g))) (g' : Nat → Int32) :
    va_P D cl (ws.set q1 (a, .inl (c1, n1, .inl g'))) (H.setIfInBounds a (vp_cell c1 (n1, .inl g'))) ∧ ∀ L : List Loc, (∀ z ∈ L, z.base = a) → va_S A H0 (H.setIfInBounds a (vp_cell c1 (n1, .inl g'))) (locs ++ L) := by
  have old : H[a]? = some (vp_cell c1 (n1, .inl g)) := hP q1 _ ha
  have mine : A a := hD.2 q1 _ ha
  have others : ∀ q : Nat, q ≠ a → (H.setIfInBounds a (vp_cell c1 (n1, .inl g')))[q]? = H[q]? := fun q hq => Array.getElem?_setIfInBounds_ne hq.symm
  exact ⟨hP.set hD ha (Array.getElem?_setIfInBounds_self_of_lt (Array.getElem?_eq_some_iff.mp old).1) others, fun L hL => sd_S_after hS (Nat.le_of_eq Array.size_setIfInBounds.symm) (fun q _ no => others q fun h => no (h ▸ mine)) fun z hz => hL z hz ▸ mine⟩
theorem sd_posZ {z : Int32} (h : ¬ z < 0) : z.toInt = (z.toNatClampNeg : Int) := by
  have h0 : (0 : Int) ≤ z.toInt := by simpa using Int32.le_iff_toInt_le.mp (Int32.not_lt.mp h)
  exact (Int.toNat_of_nonneg h0).symm
/-- arraycopy out of a row of ints that lies outside the world -/
theorem sd_copyT {A : Nat → Prop} (hexec : p.tables.exec = Jvm.exec) (hb : c.code = cc) (hml : c.maxLocals = ls.size) {own : String} {index : Nat} (hown : s.vm.findClass own = some m.cls) (w1 : (Cond.methodLink own index arraycopyName).before args s = true) (w2 : (Cond.native arraycopyName).before args s = true) (w3 : (Cond.static arraycopyName).before args s = true) (w4 : (Cond.initialized "java/lang/System").before args s = true)
    (hK : va_K D cl tys s) (hP : va_P D cl ws H) (hD : va_D A ws) (hS : va_S A s.heap H locs) {b0 n0 : Nat} {f : Nat → Int32} (hX : va_T .int b0 n0 (fun j => .int (f j)) A s s.heap) (q1 t1 : Nat) {c1 : ClassId} {n1 : Nat} {g : Nat → Int32} (ha1 : ws[q1]? = some (a, .inl (c1, n1, .inl g))) (ht1 : tys[t1]? = some (c1, .int))
    {sp dp n : Int32} (h1 : ¬ sp < 0) (h2 : ¬ dp < 0) (h3 : ¬ n < 0) (h4 : sp.toNatClampNeg + n.toNatClampNeg ≤ n0) (h5 : dp.toNatClampNeg + n.toNatClampNeg ≤ n1)
    (hfr : 1 ≤ R.frames) (hlo : (rest.map fun v => v.category).sum + (nativeFrameWords "java/lang/System" "arraycopy" 5 + 11) ≤ R.locals) (hdg : decode cc pc = .ok (.invokestatic index, 3))
    (kk : ∀ (H1 : Heap) (locs1 : List Loc), va_P D cl (ws.set q1 (a, .inl (c1, n1, .inl (va_cpy f g sp.toNatClampNeg dp.toNatClampNeg n.toNatClampNeg)))) H1 → va_S A s.heap H1 locs1 → W p l e R s m args below meth c H1 locs1 cells slots Q (F0 m (pc + 3) ls rest)) : W p l e R s m args below meth c H locs cells slots Q (F0 m pc ls (.int n :: .int dp :: .ref a :: .int sp :: .ref b0 :: rest)) := by
  obtain ⟨src, there, ⟨plain, _, k1, _, k2⟩, known, size, -, reads, far⟩ := hX
  obtain ⟨-, _, k3, _, k4⟩ := (hK.2 t1 _ ht1).1 n1 (fun j => .int (g j))
  have from0 : H[b0]? = some src := (hS.2.1 b0 (Array.getElem?_eq_some_iff.mp there).1 far).trans there
  have room : (vp_cell c1 (n1, .inl g)).slots.size = n1 := arrV_size ..
  have gives : ∀ i, i < n.toNatClampNeg → src.slots.getD (sp.toNatClampNeg + i) .null = .int (f (sp.toNatClampNeg + i)) := fun i hi => by
    rw [Array.getD_eq_getD_getElem?, reads _ (Nat.lt_of_lt_of_le (Nat.add_lt_add_left hi _) h4), Option.getD_some]
  intro T hT X
  subst hT
  obtain ⟨vm', X', step⟩ := X.arraycopy hexec hown w1 w2 w3 w4 (cd := vp_cell c1 (n1, .inl g)) (dst := a) from0 (hP q1 _ ha1) plain (fun _ no => nomatch no) known (fun no => nomatch no) k1 k3 k2 k4 (by simp [refKind]) h1 h2 h3 (by rw [sd_posZ h1, sd_posZ h3]; omega) (by rw [sd_posZ h2, sd_posZ h3, room]; omega) (fun _ _ i hi => by rw [gives i hi]; exact ⟨rfl, trivial⟩)
    (g := F0 m pc ls (.int n :: .int dp :: .ref a :: .int sp :: .ref b0 :: rest)) rfl hml.symm rfl (by rw [hb]; exact hdg) hfr (by show 2 * 0 + _ + _ ≤ _; omega)
  have filled : copied src (vp_cell c1 (n1, .inl g)) sp dp n = vp_cell c1 (n1, .inl (va_cpy f g sp.toNatClampNeg dp.toNatClampNeg n.toNatClampNeg)) := va_copiedX (fun z => .int z) src c1 f g reads h4
  rw [filled] at X' step
  obtain ⟨z1, z2⟩ := sd_swapZ hP hD hS ha1 (va_cpy f g sp.toNatClampNeg dp.toNatClampNeg n.toNatClampNeg)
  obtain ⟨u, walk, hu⟩ := kk _ (locs ++ (src.stretch sp.toNatClampNeg n.toNatClampNeg).zipIdx.map fun q => ⟨a, dp.toNatClampNeg + q.2⟩) z1 (z2 _ fun z hz => (List.mem_map.mp hz).elim fun _ h => h.2 ▸ rfl) ((T.setVm vm').setCell a (vp_cell c1 (n1, .inl (va_cpy f g sp.toNatClampNeg dp.toNatClampNeg n.toNatClampNeg)))) rfl X'
  exact ⟨u, step u walk, hu⟩
end SDQ
/-! one instruction that goes on in its frame -/
section SDN
variable {p : Program} {l : Launch} {e : Env} {R : Room} {s : State} {m : MethodId} {args : Array Value} {below : List Frame} {meth : Method} {c : Code} {cells slots : Nat} {Q : State → Prop}
variable {E : sd_E} {ad : Nat → Nat} {B0 : Nat} {D : va_G} {cA : Nat → ClassId} {y : Nat} {pc : Nat} {ls st : List Value} {σ : sd_Mem} {pc' : Nat} {ls' st' : List Value} {σ' : sd_Mem} {len : Nat}
theorem sd_n_iconst {n : Int} (K : sd_Ctx p s m args c E ad B0 D cA y) (hf : 1 ≤ R.frames ∧ 40 ≤ R.locals ∧ cells ≤ R.cells ∧ slots ≤ R.slots) (hd : decode (sd_m y).2.1 pc = .ok (.iconst n, len)) (h : sd_ins E (sd_m y).2.2.2.2.1 (sd_m y).2.2.2.1 (.iconst n) len pc ls st σ = some (.inl (pc', ls', st', σ'))) (k : ∀ (H : Heap) (locs : List Loc) (sl : Array Slot), va_P D sd_cl (sd_wld E ad cA σ') H → va_S (fun q => B0 ≤ q) s.heap H locs → sd_has ad sl (sd_m y).2.2.1 ls' → W p l e R s m args below meth c H locs cells slots Q (F0 m pc' sl (st'.map (sd_cv ad)))) : ∀ (H : Heap) (locs : List Loc) (sl : Array Slot), va_P D sd_cl (sd_wld E ad cA σ) H → va_S (fun q => B0 ≤ q) s.heap H locs → sd_has ad sl (sd_m y).2.2.1 ls → W p l e R s m args below meth c H locs cells slots Q (F0 m pc sl (st.map (sd_cv ad))) := by
  obtain ⟨hx, hb, hml, hown, hts, hK, hX, hnest, hAd⟩ := K
  intro H locs sl hP hS hl
  have h9 := sd_L_ok (r := _) h
  clear h
  obtain ⟨rfl, h⟩ := h9
  cases h
  exact lv_iconst hx hb hd rfl (k H locs sl hP hS hl)
theorem sd_n_bipush {n : Int} (K : sd_Ctx p s m args c E ad B0 D cA y) (hf : 1 ≤ R.frames ∧ 40 ≤ R.locals ∧ cells ≤ R.cells ∧ slots ≤ R.slots) (hd : decode (sd_m y).2.1 pc = .ok (.bipush n, len)) (h : sd_ins E (sd_m y).2.2.2.2.1 (sd_m y).2.2.2.1 (.bipush n) len pc ls st σ = some (.inl (pc', ls', st', σ'))) (k : ∀ (H : Heap) (locs : List Loc) (sl : Array Slot), va_P D sd_cl (sd_wld E ad cA σ') H → va_S (fun q => B0 ≤ q) s.heap H locs → sd_has ad sl (sd_m y).2.2.1 ls' → W p l e R s m args below meth c H locs cells slots Q (F0 m pc' sl (st'.map (sd_cv ad)))) : ∀ (H : Heap) (locs : List Loc) (sl : Array Slot), va_P D sd_cl (sd_wld E ad cA σ) H → va_S (fun q => B0 ≤ q) s.heap H locs → sd_has ad sl (sd_m y).2.2.1 ls → W p l e R s m args below meth c H locs cells slots Q (F0 m pc sl (st.map (sd_cv ad))) := by
  obtain ⟨hx, hb, hml, hown, hts, hK, hX, hnest, hAd⟩ := K
  intro H locs sl hP hS hl
  have h9 := sd_L_ok (r := _) h
  clear h
  obtain ⟨rfl, h⟩ := h9
  cases h
  exact lv_bipush hx hb hd rfl (k H locs sl hP hS hl)
theorem sd_n_sipush {n : Int} (K : sd_Ctx p s m args c E ad B0 D cA y) (hf : 1 ≤ R.frames ∧ 40 ≤ R.locals ∧ cells ≤ R.cells ∧ slots ≤ R.slots) (hd : decode (sd_m y).2.1 pc = .ok (.sipush n, len)) (h : sd_ins E (sd_m y).2.2.2.2.1 (sd_m y).2.2.2.1 (.sipush n) len pc ls st σ = some (.inl (pc', ls', st', σ'))) (k : ∀ (H : Heap) (locs : List Loc) (sl : Array Slot), va_P D sd_cl (sd_wld E ad cA σ') H → va_S (fun q => B0 ≤ q) s.heap H locs → sd_has ad sl (sd_m y).2.2.1 ls' → W p l e R s m args below meth c H locs cells slots Q (F0 m pc' sl (st'.map (sd_cv ad)))) : ∀ (H : Heap) (locs : List Loc) (sl : Array Slot), va_P D sd_cl (sd_wld E ad cA σ) H → va_S (fun q => B0 ≤ q) s.heap H locs → sd_has ad sl (sd_m y).2.2.1 ls → W p l e R s m args below meth c H locs cells slots Q (F0 m pc sl (st.map (sd_cv ad))) := by
  obtain ⟨hx, hb, hml, hown, hts, hK, hX, hnest, hAd⟩ := K
  intro H locs sl hP hS hl
  have h9 := sd_L_ok (r := _) h
  clear h
  obtain ⟨rfl, h⟩ := h9
  cases h
  exact lv_sipush hx hb hd rfl (k H locs sl hP hS hl)
theorem sd_n_lconst {n : Fin 2} (K : sd_Ctx p s m args c E ad B0 D cA y) (hf : 1 ≤ R.frames ∧ 40 ≤ R.locals ∧ cells ≤ R.cells ∧ slots ≤ R.slots) (hd : decode (sd_m y).2.1 pc = .ok (.lconst n, len)) (h : sd_ins E (sd_m y).2.2.2.2.1 (sd_m y).2.2.2.1 (.lconst n) len pc ls st σ = some (.inl (pc', ls', st', σ'))) (k : ∀ (H : Heap) (locs : List Loc) (sl : Array Slot), va_P D sd_cl (sd_wld E ad cA σ') H → va_S (fun q => B0 ≤ q) s.heap H locs → sd_has ad sl (sd_m y).2.2.1 ls' → W p l e R s m args below meth c H locs cells slots Q (F0 m pc' sl (st'.map (sd_cv ad)))) : ∀ (H : Heap) (locs : List Loc) (sl : Array Slot), va_P D sd_cl (sd_wld E ad cA σ) H → va_S (fun q => B0 ≤ q) s.heap H locs → sd_has ad sl (sd_m y).2.2.1 ls → W p l e R s m args below meth c H locs cells slots Q (F0 m pc sl (st.map (sd_cv ad))) := by
  obtain ⟨hx, hb, hml, hown, hts, hK, hX, hnest, hAd⟩ := K
  intro H locs sl hP hS hl
  have h9 := sd_L_ok (r := _) h
  clear h
  obtain ⟨rfl, h⟩ := h9
  cases h
  exact lv_lconst hx hb hd rfl (k H locs sl hP hS hl)
theorem sd_n_ldc {n : Nat} (K : sd_Ctx p s m args c E ad B0 D cA y) (hf : 1 ≤ R.frames ∧ 40 ≤ R.locals ∧ cells ≤ R.cells ∧ slots ≤ R.slots) (hd : decode (sd_m y).2.1 pc = .ok (.ldc n, len)) (h : sd_ins E (sd_m y).2.2.2.2.1 (sd_m y).2.2.2.1 (.ldc n) len pc ls st σ = some (.inl (pc', ls', st', σ'))) (k : ∀ (H : Heap) (locs : List Loc) (sl : Array Slot), va_P D sd_cl (sd_wld E ad cA σ') H → va_S (fun q => B0 ≤ q) s.heap H locs → sd_has ad sl (sd_m y).2.2.1 ls' → W p l e R s m args below meth c H locs cells slots Q (F0 m pc' sl (st'.map (sd_cv ad)))) : ∀ (H : Heap) (locs : List Loc) (sl : Array Slot), va_P D sd_cl (sd_wld E ad cA σ) H → va_S (fun q => B0 ≤ q) s.heap H locs → sd_has ad sl (sd_m y).2.2.1 ls → W p l e R s m args below meth c H locs cells slots Q (F0 m pc sl (st.map (sd_cv ad))) := by
  obtain ⟨hx, hb, hml, hown, hts, hK, hX, hnest, hAd⟩ := K
  intro H locs sl hP hS hl
  have h9 := sd_L_ok (r := _) h
  clear h
  obtain ⟨rfl, h⟩ := h9
  cases hc : sd_cst (sd_m y).2.2.2.2.1 n with
  | none =>
    rw [hc] at h
    cases hq : sd_sc (sd_m y).2.2.2.2.1 n with
    | none => rw [hq] at h; cases h
    | some q =>
      rw [hq] at h
      cases h
      exact va_ldcS hx hb hown (sd_scW hq hnest) hd (k H locs sl hP hS hl)
  | some q =>
    rw [hc] at h
    cases h
    exact lv_ldc hx hb hown (hts _ (sd_cstW hc)) hd (k H locs sl hP hS hl)
theorem sd_n_ldc_w {n : Nat} (K : sd_Ctx p s m args c E ad B0 D cA y) (hf : 1 ≤ R.frames ∧ 40 ≤ R.locals ∧ cells ≤ R.cells ∧ slots ≤ R.slots) (hd : decode (sd_m y).2.1 pc = .ok (.ldc_w n, len)) (h : sd_ins E (sd_m y).2.2.2.2.1 (sd_m y).2.2.2.1 (.ldc_w n) len pc ls st σ = some (.inl (pc', ls', st', σ'))) (k : ∀ (H : Heap) (locs : List Loc) (sl : Array Slot), va_P D sd_cl (sd_wld E ad cA σ') H → va_S (fun q => B0 ≤ q) s.heap H locs → sd_has ad sl (sd_m y).2.2.1 ls' → W p l e R s m args below meth c H locs cells slots Q (F0 m pc' sl (st'.map (sd_cv ad)))) : ∀ (H : Heap) (locs : List Loc) (sl : Array Slot), va_P D sd_cl (sd_wld E ad cA σ) H → va_S (fun q => B0 ≤ q) s.heap H locs → sd_has ad sl (sd_m y).2.2.1 ls → W p l e R s m args below meth c H locs cells slots Q (F0 m pc sl (st.map (sd_cv ad))) := by
  obtain ⟨hx, hb, hml, hown, hts, hK, hX, hnest, hAd⟩ := K
  intro H locs sl hP hS hl
  have h9 := sd_L_ok (r := _) h
  clear h
  obtain ⟨rfl, h⟩ := h9
  cases hc : sd_cst (sd_m y).2.2.2.2.1 n with
  | none =>
    rw [hc] at h
    cases hq : sd_sc (sd_m y).2.2.2.2.1 n with
    | none => rw [hq] at h; cases h
    | some q =>
      rw [hq] at h
      cases h
      exact sd_ldcSW hx hb hown (sd_scW hq hnest) hd (k H locs sl hP hS hl)
  | some q =>
    rw [hc] at h
    cases h
    exact lv_ldcw hx hb hown (hts _ (sd_cstW hc)) hd (k H locs sl hP hS hl)
theorem sd_n_ldc2_w {n : Nat} (K : sd_Ctx p s m args c E ad B0 D cA y) (hf : 1 ≤ R.frames ∧ 40 ≤ R.locals ∧ cells ≤ R.cells ∧ slots ≤ R.slots) (hd : decode (sd_m y).2.1 pc = .ok (.ldc2_w n, len)) (h : sd_ins E (sd_m y).2.2.2.2.1 (sd_m y).2.2.2.1 (.ldc2_w n) len pc ls st σ = some (.inl (pc', ls', st', σ'))) (k : ∀ (H : Heap) (locs : List Loc) (sl : Array Slot), va_P D sd_cl (sd_wld E ad cA σ') H → va_S (fun q => B0 ≤ q) s.heap H locs → sd_has ad sl (sd_m y).2.2.1 ls' → W p l e R s m args below meth c H locs cells slots Q (F0 m pc' sl (st'.map (sd_cv ad)))) : ∀ (H : Heap) (locs : List Loc) (sl : Array Slot), va_P D sd_cl (sd_wld E ad cA σ) H → va_S (fun q => B0 ≤ q) s.heap H locs → sd_has ad sl (sd_m y).2.2.1 ls → W p l e R s m args below meth c H locs cells slots Q (F0 m pc sl (st.map (sd_cv ad))) := by
  obtain ⟨hx, hb, hml, hown, hts, hK, hX, hnest, hAd⟩ := K
  intro H locs sl hP hS hl
  have h9 := sd_L_ok (r := _) h
  clear h
  obtain ⟨rfl, h⟩ := h9
  cases hc : sd_csl (sd_m y).2.2.2.2.1 n with
  | none => rw [hc] at h; cases h
  | some q =>
    rw [hc] at h
    cases h
    exact lv_ldc2 hx hb hown (hts _ (sd_cslW hc)) hd (k H locs sl hP hS hl)
theorem sd_n_iload_n {n : Fin 4} (K : sd_Ctx p s m args c E ad B0 D cA y) (hf : 1 ≤ R.frames ∧ 40 ≤ R.locals ∧ cells ≤ R.cells ∧ slots ≤ R.slots) (hd : decode (sd_m y).2.1 pc = .ok (.iload_n n, len)) (h : sd_ins E (sd_m y).2.2.2.2.1 (sd_m y).2.2.2.1 (.iload_n n) len pc ls st σ = some (.inl (pc', ls', st', σ'))) (k : ∀ (H : Heap) (locs : List Loc) (sl : Array Slot), va_P D sd_cl (sd_wld E ad cA σ') H → va_S (fun q => B0 ≤ q) s.heap H locs → sd_has ad sl (sd_m y).2.2.1 ls' → W p l e R s m args below meth c H locs cells slots Q (F0 m pc' sl (st'.map (sd_cv ad)))) : ∀ (H : Heap) (locs : List Loc) (sl : Array Slot), va_P D sd_cl (sd_wld E ad cA σ) H → va_S (fun q => B0 ≤ q) s.heap H locs → sd_has ad sl (sd_m y).2.2.1 ls → W p l e R s m args below meth c H locs cells slots Q (F0 m pc sl (st.map (sd_cv ad))) := by
  obtain ⟨hx, hb, hml, hown, hts, hK, hX, hnest, hAd⟩ := K
  intro H locs sl hP hS hl
  have h9 := sd_L_ok (r := _) h
  clear h
  obtain ⟨rfl, h⟩ := h9
  unfold sd_ldi at h
  split at h
  · rename_i v hv
    cases h
    exact lv_iload_n hx hb hd rfl (sd_has_get hl hv rfl) (k H locs sl hP hS hl)
  · cases h
theorem sd_n_iload {n : Nat} (K : sd_Ctx p s m args c E ad B0 D cA y) (hf : 1 ≤ R.frames ∧ 40 ≤ R.locals ∧ cells ≤ R.cells ∧ slots ≤ R.slots) (hd : decode (sd_m y).2.1 pc = .ok (.iload n, len)) (h : sd_ins E (sd_m y).2.2.2.2.1 (sd_m y).2.2.2.1 (.iload n) len pc ls st σ = some (.inl (pc', ls', st', σ'))) (k : ∀ (H : Heap) (locs : List Loc) (sl : Array Slot), va_P D sd_cl (sd_wld E ad cA σ') H → va_S (fun q => B0 ≤ q) s.heap H locs → sd_has ad sl (sd_m y).2.2.1 ls' → W p l e R s m args below meth c H locs cells slots Q (F0 m pc' sl (st'.map (sd_cv ad)))) : ∀ (H : Heap) (locs : List Loc) (sl : Array Slot), va_P D sd_cl (sd_wld E ad cA σ) H → va_S (fun q => B0 ≤ q) s.heap H locs → sd_has ad sl (sd_m y).2.2.1 ls → W p l e R s m args below meth c H locs cells slots Q (F0 m pc sl (st.map (sd_cv ad))) := by
  obtain ⟨hx, hb, hml, hown, hts, hK, hX, hnest, hAd⟩ := K
  intro H locs sl hP hS hl
  have h9 := sd_L_ok (r := _) h
  clear h
  obtain ⟨rfl, h⟩ := h9
  unfold sd_ldi at h
  split at h
  · rename_i v hv
    cases h
    exact lv_iload hx hb hd (sd_has_get hl hv rfl) (k H locs sl hP hS hl)
  · cases h
theorem sd_n_lload_n {n : Fin 4} (K : sd_Ctx p s m args c E ad B0 D cA y) (hf : 1 ≤ R.frames ∧ 40 ≤ R.locals ∧ cells ≤ R.cells ∧ slots ≤ R.slots) (hd : decode (sd_m y).2.1 pc = .ok (.lload_n n, len)) (h : sd_ins E (sd_m y).2.2.2.2.1 (sd_m y).2.2.2.1 (.lload_n n) len pc ls st σ = some (.inl (pc', ls', st', σ'))) (k : ∀ (H : Heap) (locs : List Loc) (sl : Array Slot), va_P D sd_cl (sd_wld E ad cA σ') H → va_S (fun q => B0 ≤ q) s.heap H locs → sd_has ad sl (sd_m y).2.2.1 ls' → W p l e R s m args below meth c H locs cells slots Q (F0 m pc' sl (st'.map (sd_cv ad)))) : ∀ (H : Heap) (locs : List Loc) (sl : Array Slot), va_P D sd_cl (sd_wld E ad cA σ) H → va_S (fun q => B0 ≤ q) s.heap H locs → sd_has ad sl (sd_m y).2.2.1 ls → W p l e R s m args below meth c H locs cells slots Q (F0 m pc sl (st.map (sd_cv ad))) := by
  obtain ⟨hx, hb, hml, hown, hts, hK, hX, hnest, hAd⟩ := K
  intro H locs sl hP hS hl
  have h9 := sd_L_ok (r := _) h
  clear h
  obtain ⟨rfl, h⟩ := h9
  unfold sd_ldl at h
  split at h
  · rename_i v hv
    cases h
    exact lv_lload_n hx hb hd rfl (sd_has_get hl hv rfl) (k H locs sl hP hS hl)
  · cases h
theorem sd_n_lload {n : Nat} (K : sd_Ctx p s m args c E ad B0 D cA y) (hf : 1 ≤ R.frames ∧ 40 ≤ R.locals ∧ cells ≤ R.cells ∧ slots ≤ R.slots) (hd : decode (sd_m y).2.1 pc = .ok (.lload n, len)) (h : sd_ins E (sd_m y).2.2.2.2.1 (sd_m y).2.2.2.1 (.lload n) len pc ls st σ = some (.inl (pc', ls', st', σ'))) (k : ∀ (H : Heap) (locs : List Loc) (sl : Array Slot), va_P D sd_cl (sd_wld E ad cA σ') H → va_S (fun q => B0 ≤ q) s.heap H locs → sd_has ad sl (sd_m y).2.2.1 ls' → W p l e R s m args below meth c H locs cells slots Q (F0 m pc' sl (st'.map (sd_cv ad)))) : ∀ (H : Heap) (locs : List Loc) (sl : Array Slot), va_P D sd_cl (sd_wld E ad cA σ) H → va_S (fun q => B0 ≤ q) s.heap H locs → sd_has ad sl (sd_m y).2.2.1 ls → W p l e R s m args below meth c H locs cells slots Q (F0 m pc sl (st.map (sd_cv ad))) := by
  obtain ⟨hx, hb, hml, hown, hts, hK, hX, hnest, hAd⟩ := K
  intro H locs sl hP hS hl
  have h9 := sd_L_ok (r := _) h
  clear h
  obtain ⟨rfl, h⟩ := h9
  unfold sd_ldl at h
  split at h
  · rename_i v hv
    cases h
    exact lv_lload hx hb hd (sd_has_get hl hv rfl) (k H locs sl hP hS hl)
  · cases h
theorem sd_n_aload_n {n : Fin 4} (K : sd_Ctx p s m args c E ad B0 D cA y) (hf : 1 ≤ R.frames ∧ 40 ≤ R.locals ∧ cells ≤ R.cells ∧ slots ≤ R.slots) (hd : decode (sd_m y).2.1 pc = .ok (.aload_n n, len)) (h : sd_ins E (sd_m y).2.2.2.2.1 (sd_m y).2.2.2.1 (.aload_n n) len pc ls st σ = some (.inl (pc', ls', st', σ'))) (k : ∀ (H : Heap) (locs : List Loc) (sl : Array Slot), va_P D sd_cl (sd_wld E ad cA σ') H → va_S (fun q => B0 ≤ q) s.heap H locs → sd_has ad sl (sd_m y).2.2.1 ls' → W p l e R s m args below meth c H locs cells slots Q (F0 m pc' sl (st'.map (sd_cv ad)))) : ∀ (H : Heap) (locs : List Loc) (sl : Array Slot), va_P D sd_cl (sd_wld E ad cA σ) H → va_S (fun q => B0 ≤ q) s.heap H locs → sd_has ad sl (sd_m y).2.2.1 ls → W p l e R s m args below meth c H locs cells slots Q (F0 m pc sl (st.map (sd_cv ad))) := by
  obtain ⟨hx, hb, hml, hown, hts, hK, hX, hnest, hAd⟩ := K
  intro H locs sl hP hS hl
  have h9 := sd_L_ok (r := _) h
  clear h
  obtain ⟨rfl, h⟩ := h9
  unfold sd_lda at h
  split at h
  · rename_i v hv
    cases h
    exact lv_aload_n hx hb hd rfl (sd_has_get hl hv rfl) (k H locs sl hP hS hl)
  · cases h
theorem sd_n_aload {n : Nat} (K : sd_Ctx p s m args c E ad B0 D cA y) (hf : 1 ≤ R.frames ∧ 40 ≤ R.locals ∧ cells ≤ R.cells ∧ slots ≤ R.slots) (hd : decode (sd_m y).2.1 pc = .ok (.aload n, len)) (h : sd_ins E (sd_m y).2.2.2.2.1 (sd_m y).2.2.2.1 (.aload n) len pc ls st σ = some (.inl (pc', ls', st', σ'))) (k : ∀ (H : Heap) (locs : List Loc) (sl : Array Slot), va_P D sd_cl (sd_wld E ad cA σ') H → va_S (fun q => B0 ≤ q) s.heap H locs → sd_has ad sl (sd_m y).2.2.1 ls' → W p l e R s m args below meth c H locs cells slots Q (F0 m pc' sl (st'.map (sd_cv ad)))) : ∀ (H : Heap) (locs : List Loc) (sl : Array Slot), va_P D sd_cl (sd_wld E ad cA σ) H → va_S (fun q => B0 ≤ q) s.heap H locs → sd_has ad sl (sd_m y).2.2.1 ls → W p l e R s m args below meth c H locs cells slots Q (F0 m pc sl (st.map (sd_cv ad))) := by
  obtain ⟨hx, hb, hml, hown, hts, hK, hX, hnest, hAd⟩ := K
  intro H locs sl hP hS hl
  have h9 := sd_L_ok (r := _) h
  clear h
  obtain ⟨rfl, h⟩ := h9
  unfold sd_lda at h
  split at h
  · rename_i v hv
    cases h
    exact lv_aload hx hb hd (sd_has_get hl hv rfl) (k H locs sl hP hS hl)
  · cases h
theorem sd_n_istore_n {n : Fin 4} (K : sd_Ctx p s m args c E ad B0 D cA y) (hf : 1 ≤ R.frames ∧ 40 ≤ R.locals ∧ cells ≤ R.cells ∧ slots ≤ R.slots) (hd : decode (sd_m y).2.1 pc = .ok (.istore_n n, len)) (h : sd_ins E (sd_m y).2.2.2.2.1 (sd_m y).2.2.2.1 (.istore_n n) len pc ls st σ = some (.inl (pc', ls', st', σ'))) (k : ∀ (H : Heap) (locs : List Loc) (sl : Array Slot), va_P D sd_cl (sd_wld E ad cA σ') H → va_S (fun q => B0 ≤ q) s.heap H locs → sd_has ad sl (sd_m y).2.2.1 ls' → W p l e R s m args below meth c H locs cells slots Q (F0 m pc' sl (st'.map (sd_cv ad)))) : ∀ (H : Heap) (locs : List Loc) (sl : Array Slot), va_P D sd_cl (sd_wld E ad cA σ) H → va_S (fun q => B0 ≤ q) s.heap H locs → sd_has ad sl (sd_m y).2.2.1 ls → W p l e R s m args below meth c H locs cells slots Q (F0 m pc sl (st.map (sd_cv ad))) := by
  obtain ⟨hx, hb, hml, hown, hts, hK, hX, hnest, hAd⟩ := K
  intro H locs sl hP hS hl
  have h9 := sd_L_ok (r := _) h
  clear h
  obtain ⟨rfl, h⟩ := h9
  unfold sd_sti at h
  split at h
  · split at h
    · rename_i hn
      cases h
      exact lv_istore_n hx hb hd rfl hl.1 (hl.2 ▸ hn) rfl (fun sl2 hl2 => k H locs sl2 hP hS (sd_has_put1 hl.2 rfl hl2))
    · cases h
  · cases h
theorem sd_n_istore {n : Nat} (K : sd_Ctx p s m args c E ad B0 D cA y) (hf : 1 ≤ R.frames ∧ 40 ≤ R.locals ∧ cells ≤ R.cells ∧ slots ≤ R.slots) (hd : decode (sd_m y).2.1 pc = .ok (.istore n, len)) (h : sd_ins E (sd_m y).2.2.2.2.1 (sd_m y).2.2.2.1 (.istore n) len pc ls st σ = some (.inl (pc', ls', st', σ'))) (k : ∀ (H : Heap) (locs : List Loc) (sl : Array Slot), va_P D sd_cl (sd_wld E ad cA σ') H → va_S (fun q => B0 ≤ q) s.heap H locs → sd_has ad sl (sd_m y).2.2.1 ls' → W p l e R s m args below meth c H locs cells slots Q (F0 m pc' sl (st'.map (sd_cv ad)))) : ∀ (H : Heap) (locs : List Loc) (sl : Array Slot), va_P D sd_cl (sd_wld E ad cA σ) H → va_S (fun q => B0 ≤ q) s.heap H locs → sd_has ad sl (sd_m y).2.2.1 ls → W p l e R s m args below meth c H locs cells slots Q (F0 m pc sl (st.map (sd_cv ad))) := by
  obtain ⟨hx, hb, hml, hown, hts, hK, hX, hnest, hAd⟩ := K
  intro H locs sl hP hS hl
  have h9 := sd_L_ok (r := _) h
  clear h
  obtain ⟨rfl, h⟩ := h9
  unfold sd_sti at h
  split at h
  · split at h
    · rename_i hn
      cases h
      exact lv_istore hx hb hd hl.1 (hl.2 ▸ hn) rfl (fun sl2 hl2 => k H locs sl2 hP hS (sd_has_put1 hl.2 rfl hl2))
    · cases h
  · cases h
theorem sd_n_astore_n {n : Fin 4} (K : sd_Ctx p s m args c E ad B0 D cA y) (hf : 1 ≤ R.frames ∧ 40 ≤ R.locals ∧ cells ≤ R.cells ∧ slots ≤ R.slots) (hd : decode (sd_m y).2.1 pc = .ok (.astore_n n, len)) (h : sd_ins E (sd_m y).2.2.2.2.1 (sd_m y).2.2.2.1 (.astore_n n) len pc ls st σ = some (.inl (pc', ls', st', σ'))) (k : ∀ (H : Heap) (locs : List Loc) (sl : Array Slot), va_P D sd_cl (sd_wld E ad cA σ') H → va_S (fun q => B0 ≤ q) s.heap H locs → sd_has ad sl (sd_m y).2.2.1 ls' → W p l e R s m args below meth c H locs cells slots Q (F0 m pc' sl (st'.map (sd_cv ad)))) : ∀ (H : Heap) (locs : List Loc) (sl : Array Slot), va_P D sd_cl (sd_wld E ad cA σ) H → va_S (fun q => B0 ≤ q) s.heap H locs → sd_has ad sl (sd_m y).2.2.1 ls → W p l e R s m args below meth c H locs cells slots Q (F0 m pc sl (st.map (sd_cv ad))) := by
  obtain ⟨hx, hb, hml, hown, hts, hK, hX, hnest, hAd⟩ := K
  intro H locs sl hP hS hl
  have h9 := sd_L_ok (r := _) h
  clear h
  obtain ⟨rfl, h⟩ := h9
  unfold sd_sta at h
  split at h
  · split at h
    · rename_i hn
      cases h
      exact lv_astore_n hx hb hd rfl hl.1 (hl.2 ▸ hn) rfl (fun sl2 hl2 => k H locs sl2 hP hS (sd_has_put1 hl.2 rfl hl2))
    · cases h
  · cases h
theorem sd_n_astore {n : Nat} (K : sd_Ctx p s m args c E ad B0 D cA y) (hf : 1 ≤ R.frames ∧ 40 ≤ R.locals ∧ cells ≤ R.cells ∧ slots ≤ R.slots) (hd : decode (sd_m y).2.1 pc = .ok (.astore n, len)) (h : sd_ins E (sd_m y).2.2.2.2.1 (sd_m y).2.2.2.1 (.astore n) len pc ls st σ = some (.inl (pc', ls', st', σ'))) (k : ∀ (H : Heap) (locs : List Loc) (sl : Array Slot), va_P D sd_cl (sd_wld E ad cA σ') H → va_S (fun q => B0 ≤ q) s.heap H locs → sd_has ad sl (sd_m y).2.2.1 ls' → W p l e R s m args below meth c H locs cells slots Q (F0 m pc' sl (st'.map (sd_cv ad)))) : ∀ (H : Heap) (locs : List Loc) (sl : Array Slot), va_P D sd_cl (sd_wld E ad cA σ) H → va_S (fun q => B0 ≤ q) s.heap H locs → sd_has ad sl (sd_m y).2.2.1 ls → W p l e R s m args below meth c H locs cells slots Q (F0 m pc sl (st.map (sd_cv ad))) := by
  obtain ⟨hx, hb, hml, hown, hts, hK, hX, hnest, hAd⟩ := K
  intro H locs sl hP hS hl
  have h9 := sd_L_ok (r := _) h
  clear h
  obtain ⟨rfl, h⟩ := h9
  unfold sd_sta at h
  split at h
  · split at h
    · rename_i hn
      cases h
      exact lv_astore hx hb hd hl.1 (hl.2 ▸ hn) rfl (fun sl2 hl2 => k H locs sl2 hP hS (sd_has_put1 hl.2 rfl hl2))
    · cases h
  · cases h
theorem sd_n_lstore_n {n : Fin 4} (K : sd_Ctx p s m args c E ad B0 D cA y) (hf : 1 ≤ R.frames ∧ 40 ≤ R.locals ∧ cells ≤ R.cells ∧ slots ≤ R.slots) (hd : decode (sd_m y).2.1 pc = .ok (.lstore_n n, len)) (h : sd_ins E (sd_m y).2.2.2.2.1 (sd_m y).2.2.2.1 (.lstore_n n) len pc ls st σ = some (.inl (pc', ls', st', σ'))) (k : ∀ (H : Heap) (locs : List Loc) (sl : Array Slot), va_P D sd_cl (sd_wld E ad cA σ') H → va_S (fun q => B0 ≤ q) s.heap H locs → sd_has ad sl (sd_m y).2.2.1 ls' → W p l e R s m args below meth c H locs cells slots Q (F0 m pc' sl (st'.map (sd_cv ad)))) : ∀ (H : Heap) (locs : List Loc) (sl : Array Slot), va_P D sd_cl (sd_wld E ad cA σ) H → va_S (fun q => B0 ≤ q) s.heap H locs → sd_has ad sl (sd_m y).2.2.1 ls → W p l e R s m args below meth c H locs cells slots Q (F0 m pc sl (st.map (sd_cv ad))) := by
  obtain ⟨hx, hb, hml, hown, hts, hK, hX, hnest, hAd⟩ := K
  intro H locs sl hP hS hl
  have h9 := sd_L_ok (r := _) h
  clear h
  obtain ⟨rfl, h⟩ := h9
  unfold sd_stl at h
  split at h
  · split at h
    · rename_i hn
      cases h
      exact lv_lstore_n hx hb hd rfl hl.1 (hl.2 ▸ hn) rfl (fun sl2 hl2 => k H locs sl2 hP hS (sd_has_put2 hl.2 rfl rfl hl2))
    · cases h
  · cases h
theorem sd_n_lstore {n : Nat} (K : sd_Ctx p s m args c E ad B0 D cA y) (hf : 1 ≤ R.frames ∧ 40 ≤ R.locals ∧ cells ≤ R.cells ∧ slots ≤ R.slots) (hd : decode (sd_m y).2.1 pc = .ok (.lstore n, len)) (h : sd_ins E (sd_m y).2.2.2.2.1 (sd_m y).2.2.2.1 (.lstore n) len pc ls st σ = some (.inl (pc', ls', st', σ'))) (k : ∀ (H : Heap) (locs : List Loc) (sl : Array Slot), va_P D sd_cl (sd_wld E ad cA σ') H → va_S (fun q => B0 ≤ q) s.heap H locs → sd_has ad sl (sd_m y).2.2.1 ls' → W p l e R s m args below meth c H locs cells slots Q (F0 m pc' sl (st'.map (sd_cv ad)))) : ∀ (H : Heap) (locs : List Loc) (sl : Array Slot), va_P D sd_cl (sd_wld E ad cA σ) H → va_S (fun q => B0 ≤ q) s.heap H locs → sd_has ad sl (sd_m y).2.2.1 ls → W p l e R s m args below meth c H locs cells slots Q (F0 m pc sl (st.map (sd_cv ad))) := by
  obtain ⟨hx, hb, hml, hown, hts, hK, hX, hnest, hAd⟩ := K
  intro H locs sl hP hS hl
  have h9 := sd_L_ok (r := _) h
  clear h
  obtain ⟨rfl, h⟩ := h9
  unfold sd_stl at h
  split at h
  · split at h
    · rename_i hn
      cases h
      exact lv_lstore hx hb hd hl.1 (hl.2 ▸ hn) rfl (fun sl2 hl2 => k H locs sl2 hP hS (sd_has_put2 hl.2 rfl rfl hl2))
    · cases h
  · cases h
theorem sd_n_iinc {n : Nat} {t : Int} (K : sd_Ctx p s m args c E ad B0 D cA y) (hf : 1 ≤ R.frames ∧ 40 ≤ R.locals ∧ cells ≤ R.cells ∧ slots ≤ R.slots) (hd : decode (sd_m y).2.1 pc = .ok (.iinc n t, len)) (h : sd_ins E (sd_m y).2.2.2.2.1 (sd_m y).2.2.2.1 (.iinc n t) len pc ls st σ = some (.inl (pc', ls', st', σ'))) (k : ∀ (H : Heap) (locs : List Loc) (sl : Array Slot), va_P D sd_cl (sd_wld E ad cA σ') H → va_S (fun q => B0 ≤ q) s.heap H locs → sd_has ad sl (sd_m y).2.2.1 ls' → W p l e R s m args below meth c H locs cells slots Q (F0 m pc' sl (st'.map (sd_cv ad)))) : ∀ (H : Heap) (locs : List Loc) (sl : Array Slot), va_P D sd_cl (sd_wld E ad cA σ) H → va_S (fun q => B0 ≤ q) s.heap H locs → sd_has ad sl (sd_m y).2.2.1 ls → W p l e R s m args below meth c H locs cells slots Q (F0 m pc sl (st.map (sd_cv ad))) := by
  obtain ⟨hx, hb, hml, hown, hts, hK, hX, hnest, hAd⟩ := K
  intro H locs sl hP hS hl
  have h9 := sd_L_ok (r := _) h
  clear h
  obtain ⟨rfl, h⟩ := h9
  split at h
  · rename_i x hv
    split at h
    · rename_i hn
      cases h
      obtain ⟨i, hi⟩ := List.getElem?_of_mem (sd_lv_get (ad := ad) (j := 0) (show sd_ok (.int x) = true from rfl) hv)
      rw [Nat.zero_add] at hi
      exact lv_iinc hx hb hd hl.1 hi rfl (hl.2 ▸ hn) rfl (fun sl2 hl2 => k H locs sl2 hP hS (sd_has_put1 hl.2 rfl hl2))
    · cases h
  · cases h
theorem sd_n_iadd (K : sd_Ctx p s m args c E ad B0 D cA y) (hf : 1 ≤ R.frames ∧ 40 ≤ R.locals ∧ cells ≤ R.cells ∧ slots ≤ R.slots) (hd : decode (sd_m y).2.1 pc = .ok (.iadd, len)) (h : sd_ins E (sd_m y).2.2.2.2.1 (sd_m y).2.2.2.1 (.iadd) len pc ls st σ = some (.inl (pc', ls', st', σ'))) (k : ∀ (H : Heap) (locs : List Loc) (sl : Array Slot), va_P D sd_cl (sd_wld E ad cA σ') H → va_S (fun q => B0 ≤ q) s.heap H locs → sd_has ad sl (sd_m y).2.2.1 ls' → W p l e R s m args below meth c H locs cells slots Q (F0 m pc' sl (st'.map (sd_cv ad)))) : ∀ (H : Heap) (locs : List Loc) (sl : Array Slot), va_P D sd_cl (sd_wld E ad cA σ) H → va_S (fun q => B0 ≤ q) s.heap H locs → sd_has ad sl (sd_m y).2.2.1 ls → W p l e R s m args below meth c H locs cells slots Q (F0 m pc sl (st.map (sd_cv ad))) := by
  obtain ⟨hx, hb, hml, hown, hts, hK, hX, hnest, hAd⟩ := K
  intro H locs sl hP hS hl
  have h9 := sd_L_ok (r := _) h
  clear h
  obtain ⟨rfl, h⟩ := h9
  have h9 := sd_2_ok h
  clear h
  obtain ⟨x, z, r, rfl, h⟩ := h9
  cases h
  exact lv_iadd hx hb hd (k H locs sl hP hS hl)
theorem sd_n_isub (K : sd_Ctx p s m args c E ad B0 D cA y) (hf : 1 ≤ R.frames ∧ 40 ≤ R.locals ∧ cells ≤ R.cells ∧ slots ≤ R.slots) (hd : decode (sd_m y).2.1 pc = .ok (.isub, len)) (h : sd_ins E (sd_m y).2.2.2.2.1 (sd_m y).2.2.2.1 (.isub) len pc ls st σ = some (.inl (pc', ls', st', σ'))) (k : ∀ (H : Heap) (locs : List Loc) (sl : Array Slot), va_P D sd_cl (sd_wld E ad cA σ') H → va_S (fun q => B0 ≤ q) s.heap H locs → sd_has ad sl (sd_m y).2.2.1 ls' → W p l e R s m args below meth c H locs cells slots Q (F0 m pc' sl (st'.map (sd_cv ad)))) : ∀ (H : Heap) (locs : List Loc) (sl : Array Slot), va_P D sd_cl (sd_wld E ad cA σ) H → va_S (fun q => B0 ≤ q) s.heap H locs → sd_has ad sl (sd_m y).2.2.1 ls → W p l e R s m args below meth c H locs cells slots Q (F0 m pc sl (st.map (sd_cv ad))) := by
  obtain ⟨hx, hb, hml, hown, hts, hK, hX, hnest, hAd⟩ := K
  intro H locs sl hP hS hl
  have h9 := sd_L_ok (r := _) h
  clear h
  obtain ⟨rfl, h⟩ := h9
  have h9 := sd_2_ok h
  clear h
  obtain ⟨x, z, r, rfl, h⟩ := h9
  cases h
  exact lv_isub hx hb hd (k H locs sl hP hS hl)
theorem sd_n_imul (K : sd_Ctx p s m args c E ad B0 D cA y) (hf : 1 ≤ R.frames ∧ 40 ≤ R.locals ∧ cells ≤ R.cells ∧ slots ≤ R.slots) (hd : decode (sd_m y).2.1 pc = .ok (.imul, len)) (h : sd_ins E (sd_m y).2.2.2.2.1 (sd_m y).2.2.2.1 (.imul) len pc ls st σ = some (.inl (pc', ls', st', σ'))) (k : ∀ (H : Heap) (locs : List Loc) (sl : Array Slot), va_P D sd_cl (sd_wld E ad cA σ') H → va_S (fun q => B0 ≤ q) s.heap H locs → sd_has ad sl (sd_m y).2.2.1 ls' → W p l e R s m args below meth c H locs cells slots Q (F0 m pc' sl (st'.map (sd_cv ad)))) : ∀ (H : Heap) (locs : List Loc) (sl : Array Slot), va_P D sd_cl (sd_wld E ad cA σ) H → va_S (fun q => B0 ≤ q) s.heap H locs → sd_has ad sl (sd_m y).2.2.1 ls → W p l e R s m args below meth c H locs cells slots Q (F0 m pc sl (st.map (sd_cv ad))) := by
  obtain ⟨hx, hb, hml, hown, hts, hK, hX, hnest, hAd⟩ := K
  intro H locs sl hP hS hl
  have h9 := sd_L_ok (r := _) h
  clear h
  obtain ⟨rfl, h⟩ := h9
  have h9 := sd_2_ok h
  clear h
  obtain ⟨x, z, r, rfl, h⟩ := h9
  cases h
  exact lv_imul hx hb hd (k H locs sl hP hS hl)
theorem sd_n_iand (K : sd_Ctx p s m args c E ad B0 D cA y) (hf : 1 ≤ R.frames ∧ 40 ≤ R.locals ∧ cells ≤ R.cells ∧ slots ≤ R.slots) (hd : decode (sd_m y).2.1 pc = .ok (.iand, len)) (h : sd_ins E (sd_m y).2.2.2.2.1 (sd_m y).2.2.2.1 (.iand) len pc ls st σ = some (.inl (pc', ls', st', σ'))) (k : ∀ (H : Heap) (locs : List Loc) (sl : Array Slot), va_P D sd_cl (sd_wld E ad cA σ') H → va_S (fun q => B0 ≤ q) s.heap H locs → sd_has ad sl (sd_m y).2.2.1 ls' → W p l e R s m args below meth c H locs cells slots Q (F0 m pc' sl (st'.map (sd_cv ad)))) : ∀ (H : Heap) (locs : List Loc) (sl : Array Slot), va_P D sd_cl (sd_wld E ad cA σ) H → va_S (fun q => B0 ≤ q) s.heap H locs → sd_has ad sl (sd_m y).2.2.1 ls → W p l e R s m args below meth c H locs cells slots Q (F0 m pc sl (st.map (sd_cv ad))) := by
  obtain ⟨hx, hb, hml, hown, hts, hK, hX, hnest, hAd⟩ := K
  intro H locs sl hP hS hl
  have h9 := sd_L_ok (r := _) h
  clear h
  obtain ⟨rfl, h⟩ := h9
  have h9 := sd_2_ok h
  clear h
  obtain ⟨x, z, r, rfl, h⟩ := h9
  cases h
  exact lv_iand hx hb hd (k H locs sl hP hS hl)
theorem sd_n_ior (K : sd_Ctx p s m args c E ad B0 D cA y) (hf : 1 ≤ R.frames ∧ 40 ≤ R.locals ∧ cells ≤ R.cells ∧ slots ≤ R.slots) (hd : decode (sd_m y).2.1 pc = .ok (.ior, len)) (h : sd_ins E (sd_m y).2.2.2.2.1 (sd_m y).2.2.2.1 (.ior) len pc ls st σ = some (.inl (pc', ls', st', σ'))) (k : ∀ (H : Heap) (locs : List Loc) (sl : Array Slot), va_P D sd_cl (sd_wld E ad cA σ') H → va_S (fun q => B0 ≤ q) s.heap H locs → sd_has ad sl (sd_m y).2.2.1 ls' → W p l e R s m args below meth c H locs cells slots Q (F0 m pc' sl (st'.map (sd_cv ad)))) : ∀ (H : Heap) (locs : List Loc) (sl : Array Slot), va_P D sd_cl (sd_wld E ad cA σ) H → va_S (fun q => B0 ≤ q) s.heap H locs → sd_has ad sl (sd_m y).2.2.1 ls → W p l e R s m args below meth c H locs cells slots Q (F0 m pc sl (st.map (sd_cv ad))) := by
  obtain ⟨hx, hb, hml, hown, hts, hK, hX, hnest, hAd⟩ := K
  intro H locs sl hP hS hl
  have h9 := sd_L_ok (r := _) h
  clear h
  obtain ⟨rfl, h⟩ := h9
  have h9 := sd_2_ok h
  clear h
  obtain ⟨x, z, r, rfl, h⟩ := h9
  cases h
  exact lv_ior hx hb hd (k H locs sl hP hS hl)
theorem sd_n_ixor (K : sd_Ctx p s m args c E ad B0 D cA y) (hf : 1 ≤ R.frames ∧ 40 ≤ R.locals ∧ cells ≤ R.cells ∧ slots ≤ R.slots) (hd : decode (sd_m y).2.1 pc = .ok (.ixor, len)) (h : sd_ins E (sd_m y).2.2.2.2.1 (sd_m y).2.2.2.1 (.ixor) len pc ls st σ = some (.inl (pc', ls', st', σ'))) (k : ∀ (H : Heap) (locs : List Loc) (sl : Array Slot), va_P D sd_cl (sd_wld E ad cA σ') H → va_S (fun q => B0 ≤ q) s.heap H locs → sd_has ad sl (sd_m y).2.2.1 ls' → W p l e R s m args below meth c H locs cells slots Q (F0 m pc' sl (st'.map (sd_cv ad)))) : ∀ (H : Heap) (locs : List Loc) (sl : Array Slot), va_P D sd_cl (sd_wld E ad cA σ) H → va_S (fun q => B0 ≤ q) s.heap H locs → sd_has ad sl (sd_m y).2.2.1 ls → W p l e R s m args below meth c H locs cells slots Q (F0 m pc sl (st.map (sd_cv ad))) := by
  obtain ⟨hx, hb, hml, hown, hts, hK, hX, hnest, hAd⟩ := K
  intro H locs sl hP hS hl
  have h9 := sd_L_ok (r := _) h
  clear h
  obtain ⟨rfl, h⟩ := h9
  have h9 := sd_2_ok h
  clear h
  obtain ⟨x, z, r, rfl, h⟩ := h9
  cases h
  exact lv_ixor hx hb hd (k H locs sl hP hS hl)
theorem sd_n_ishl (K : sd_Ctx p s m args c E ad B0 D cA y) (hf : 1 ≤ R.frames ∧ 40 ≤ R.locals ∧ cells ≤ R.cells ∧ slots ≤ R.slots) (hd : decode (sd_m y).2.1 pc = .ok (.ishl, len)) (h : sd_ins E (sd_m y).2.2.2.2.1 (sd_m y).2.2.2.1 (.ishl) len pc ls st σ = some (.inl (pc', ls', st', σ'))) (k : ∀ (H : Heap) (locs : List Loc) (sl : Array Slot), va_P D sd_cl (sd_wld E ad cA σ') H → va_S (fun q => B0 ≤ q) s.heap H locs → sd_has ad sl (sd_m y).2.2.1 ls' → W p l e R s m args below meth c H locs cells slots Q (F0 m pc' sl (st'.map (sd_cv ad)))) : ∀ (H : Heap) (locs : List Loc) (sl : Array Slot), va_P D sd_cl (sd_wld E ad cA σ) H → va_S (fun q => B0 ≤ q) s.heap H locs → sd_has ad sl (sd_m y).2.2.1 ls → W p l e R s m args below meth c H locs cells slots Q (F0 m pc sl (st.map (sd_cv ad))) := by
  obtain ⟨hx, hb, hml, hown, hts, hK, hX, hnest, hAd⟩ := K
  intro H locs sl hP hS hl
  have h9 := sd_L_ok (r := _) h
  clear h
  obtain ⟨rfl, h⟩ := h9
  have h9 := sd_2_ok h
  clear h
  obtain ⟨x, z, r, rfl, h⟩ := h9
  cases h
  exact lv_ishl hx hb hd (k H locs sl hP hS hl)
theorem sd_n_ishr (K : sd_Ctx p s m args c E ad B0 D cA y) (hf : 1 ≤ R.frames ∧ 40 ≤ R.locals ∧ cells ≤ R.cells ∧ slots ≤ R.slots) (hd : decode (sd_m y).2.1 pc = .ok (.ishr, len)) (h : sd_ins E (sd_m y).2.2.2.2.1 (sd_m y).2.2.2.1 (.ishr) len pc ls st σ = some (.inl (pc', ls', st', σ'))) (k : ∀ (H : Heap) (locs : List Loc) (sl : Array Slot), va_P D sd_cl (sd_wld E ad cA σ') H → va_S (fun q => B0 ≤ q) s.heap H locs → sd_has ad sl (sd_m y).2.2.1 ls' → W p l e R s m args below meth c H locs cells slots Q (F0 m pc' sl (st'.map (sd_cv ad)))) : ∀ (H : Heap) (locs : List Loc) (sl : Array Slot), va_P D sd_cl (sd_wld E ad cA σ) H → va_S (fun q => B0 ≤ q) s.heap H locs → sd_has ad sl (sd_m y).2.2.1 ls → W p l e R s m args below meth c H locs cells slots Q (F0 m pc sl (st.map (sd_cv ad))) := by
  obtain ⟨hx, hb, hml, hown, hts, hK, hX, hnest, hAd⟩ := K
  intro H locs sl hP hS hl
  have h9 := sd_L_ok (r := _) h
  clear h
  obtain ⟨rfl, h⟩ := h9
  have h9 := sd_2_ok h
  clear h
  obtain ⟨x, z, r, rfl, h⟩ := h9
  cases h
  exact lv_ishr hx hb hd (k H locs sl hP hS hl)
theorem sd_n_iushr (K : sd_Ctx p s m args c E ad B0 D cA y) (hf : 1 ≤ R.frames ∧ 40 ≤ R.locals ∧ cells ≤ R.cells ∧ slots ≤ R.slots) (hd : decode (sd_m y).2.1 pc = .ok (.iushr, len)) (h : sd_ins E (sd_m y).2.2.2.2.1 (sd_m y).2.2.2.1 (.iushr) len pc ls st σ = some (.inl (pc', ls', st', σ'))) (k : ∀ (H : Heap) (locs : List Loc) (sl : Array Slot), va_P D sd_cl (sd_wld E ad cA σ') H → va_S (fun q => B0 ≤ q) s.heap H locs → sd_has ad sl (sd_m y).2.2.1 ls' → W p l e R s m args below meth c H locs cells slots Q (F0 m pc' sl (st'.map (sd_cv ad)))) : ∀ (H : Heap) (locs : List Loc) (sl : Array Slot), va_P D sd_cl (sd_wld E ad cA σ) H → va_S (fun q => B0 ≤ q) s.heap H locs → sd_has ad sl (sd_m y).2.2.1 ls → W p l e R s m args below meth c H locs cells slots Q (F0 m pc sl (st.map (sd_cv ad))) := by
  obtain ⟨hx, hb, hml, hown, hts, hK, hX, hnest, hAd⟩ := K
  intro H locs sl hP hS hl
  have h9 := sd_L_ok (r := _) h
  clear h
  obtain ⟨rfl, h⟩ := h9
  have h9 := sd_2_ok h
  clear h
  obtain ⟨x, z, r, rfl, h⟩ := h9
  cases h
  exact lv_iushr hx hb hd rfl (k H locs sl hP hS hl)
theorem sd_n_idiv (K : sd_Ctx p s m args c E ad B0 D cA y) (hf : 1 ≤ R.frames ∧ 40 ≤ R.locals ∧ cells ≤ R.cells ∧ slots ≤ R.slots) (hd : decode (sd_m y).2.1 pc = .ok (.idiv, len)) (h : sd_ins E (sd_m y).2.2.2.2.1 (sd_m y).2.2.2.1 (.idiv) len pc ls st σ = some (.inl (pc', ls', st', σ'))) (k : ∀ (H : Heap) (locs : List Loc) (sl : Array Slot), va_P D sd_cl (sd_wld E ad cA σ') H → va_S (fun q => B0 ≤ q) s.heap H locs → sd_has ad sl (sd_m y).2.2.1 ls' → W p l e R s m args below meth c H locs cells slots Q (F0 m pc' sl (st'.map (sd_cv ad)))) : ∀ (H : Heap) (locs : List Loc) (sl : Array Slot), va_P D sd_cl (sd_wld E ad cA σ) H → va_S (fun q => B0 ≤ q) s.heap H locs → sd_has ad sl (sd_m y).2.2.1 ls → W p l e R s m args below meth c H locs cells slots Q (F0 m pc sl (st.map (sd_cv ad))) := by
  obtain ⟨hx, hb, hml, hown, hts, hK, hX, hnest, hAd⟩ := K
  intro H locs sl hP hS hl
  have h9 := sd_L_ok (r := _) h
  clear h
  obtain ⟨rfl, h⟩ := h9
  have h9 := sd_2_ok h
  clear h
  obtain ⟨x, z, r, rfl, h⟩ := h9
  split at h
  · rename_i hn
    cases h
    exact lv_idiv hx hb hd hn (k H locs sl hP hS hl)
  · cases h
theorem sd_n_irem (K : sd_Ctx p s m args c E ad B0 D cA y) (hf : 1 ≤ R.frames ∧ 40 ≤ R.locals ∧ cells ≤ R.cells ∧ slots ≤ R.slots) (hd : decode (sd_m y).2.1 pc = .ok (.irem, len)) (h : sd_ins E (sd_m y).2.2.2.2.1 (sd_m y).2.2.2.1 (.irem) len pc ls st σ = some (.inl (pc', ls', st', σ'))) (k : ∀ (H : Heap) (locs : List Loc) (sl : Array Slot), va_P D sd_cl (sd_wld E ad cA σ') H → va_S (fun q => B0 ≤ q) s.heap H locs → sd_has ad sl (sd_m y).2.2.1 ls' → W p l e R s m args below meth c H locs cells slots Q (F0 m pc' sl (st'.map (sd_cv ad)))) : ∀ (H : Heap) (locs : List Loc) (sl : Array Slot), va_P D sd_cl (sd_wld E ad cA σ) H → va_S (fun q => B0 ≤ q) s.heap H locs → sd_has ad sl (sd_m y).2.2.1 ls → W p l e R s m args below meth c H locs cells slots Q (F0 m pc sl (st.map (sd_cv ad))) := by
  obtain ⟨hx, hb, hml, hown, hts, hK, hX, hnest, hAd⟩ := K
  intro H locs sl hP hS hl
  have h9 := sd_L_ok (r := _) h
  clear h
  obtain ⟨rfl, h⟩ := h9
  have h9 := sd_2_ok h
  clear h
  obtain ⟨x, z, r, rfl, h⟩ := h9
  split at h
  · rename_i hn
    cases h
    exact lv_irem hx hb hd hn (k H locs sl hP hS hl)
  · cases h
theorem sd_n_ldiv (K : sd_Ctx p s m args c E ad B0 D cA y) (hf : 1 ≤ R.frames ∧ 40 ≤ R.locals ∧ cells ≤ R.cells ∧ slots ≤ R.slots) (hd : decode (sd_m y).2.1 pc = .ok (.ldiv, len)) (h : sd_ins E (sd_m y).2.2.2.2.1 (sd_m y).2.2.2.1 (.ldiv) len pc ls st σ = some (.inl (pc', ls', st', σ'))) (k : ∀ (H : Heap) (locs : List Loc) (sl : Array Slot), va_P D sd_cl (sd_wld E ad cA σ') H → va_S (fun q => B0 ≤ q) s.heap H locs → sd_has ad sl (sd_m y).2.2.1 ls' → W p l e R s m args below meth c H locs cells slots Q (F0 m pc' sl (st'.map (sd_cv ad)))) : ∀ (H : Heap) (locs : List Loc) (sl : Array Slot), va_P D sd_cl (sd_wld E ad cA σ) H → va_S (fun q => B0 ≤ q) s.heap H locs → sd_has ad sl (sd_m y).2.2.1 ls → W p l e R s m args below meth c H locs cells slots Q (F0 m pc sl (st.map (sd_cv ad))) := by
  obtain ⟨hx, hb, hml, hown, hts, hK, hX, hnest, hAd⟩ := K
  intro H locs sl hP hS hl
  have h9 := sd_L_ok (r := _) h
  clear h
  obtain ⟨rfl, h⟩ := h9
  have h9 := sd_l2_ok h
  clear h
  obtain ⟨x, z, r, rfl, h⟩ := h9
  split at h
  · rename_i hn
    cases h
    exact lv_ldiv hx hb hd hn (k H locs sl hP hS hl)
  · cases h
theorem sd_n_lrem (K : sd_Ctx p s m args c E ad B0 D cA y) (hf : 1 ≤ R.frames ∧ 40 ≤ R.locals ∧ cells ≤ R.cells ∧ slots ≤ R.slots) (hd : decode (sd_m y).2.1 pc = .ok (.lrem, len)) (h : sd_ins E (sd_m y).2.2.2.2.1 (sd_m y).2.2.2.1 (.lrem) len pc ls st σ = some (.inl (pc', ls', st', σ'))) (k : ∀ (H : Heap) (locs : List Loc) (sl : Array Slot), va_P D sd_cl (sd_wld E ad cA σ') H → va_S (fun q => B0 ≤ q) s.heap H locs → sd_has ad sl (sd_m y).2.2.1 ls' → W p l e R s m args below meth c H locs cells slots Q (F0 m pc' sl (st'.map (sd_cv ad)))) : ∀ (H : Heap) (locs : List Loc) (sl : Array Slot), va_P D sd_cl (sd_wld E ad cA σ) H → va_S (fun q => B0 ≤ q) s.heap H locs → sd_has ad sl (sd_m y).2.2.1 ls → W p l e R s m args below meth c H locs cells slots Q (F0 m pc sl (st.map (sd_cv ad))) := by
  obtain ⟨hx, hb, hml, hown, hts, hK, hX, hnest, hAd⟩ := K
  intro H locs sl hP hS hl
  have h9 := sd_L_ok (r := _) h
  clear h
  obtain ⟨rfl, h⟩ := h9
  have h9 := sd_l2_ok h
  clear h
  obtain ⟨x, z, r, rfl, h⟩ := h9
  split at h
  · rename_i hn
    cases h
    exact lv_lrem hx hb hd hn (k H locs sl hP hS hl)
  · cases h
theorem sd_n_ladd (K : sd_Ctx p s m args c E ad B0 D cA y) (hf : 1 ≤ R.frames ∧ 40 ≤ R.locals ∧ cells ≤ R.cells ∧ slots ≤ R.slots) (hd : decode (sd_m y).2.1 pc = .ok (.ladd, len)) (h : sd_ins E (sd_m y).2.2.2.2.1 (sd_m y).2.2.2.1 (.ladd) len pc ls st σ = some (.inl (pc', ls', st', σ'))) (k : ∀ (H : Heap) (locs : List Loc) (sl : Array Slot), va_P D sd_cl (sd_wld E ad cA σ') H → va_S (fun q => B0 ≤ q) s.heap H locs → sd_has ad sl (sd_m y).2.2.1 ls' → W p l e R s m args below meth c H locs cells slots Q (F0 m pc' sl (st'.map (sd_cv ad)))) : ∀ (H : Heap) (locs : List Loc) (sl : Array Slot), va_P D sd_cl (sd_wld E ad cA σ) H → va_S (fun q => B0 ≤ q) s.heap H locs → sd_has ad sl (sd_m y).2.2.1 ls → W p l e R s m args below meth c H locs cells slots Q (F0 m pc sl (st.map (sd_cv ad))) := by
  obtain ⟨hx, hb, hml, hown, hts, hK, hX, hnest, hAd⟩ := K
  intro H locs sl hP hS hl
  have h9 := sd_L_ok (r := _) h
  clear h
  obtain ⟨rfl, h⟩ := h9
  have h9 := sd_l2_ok h
  clear h
  obtain ⟨x, z, r, rfl, h⟩ := h9
  cases h
  exact lv_ladd hx hb hd (k H locs sl hP hS hl)
theorem sd_n_lsub (K : sd_Ctx p s m args c E ad B0 D cA y) (hf : 1 ≤ R.frames ∧ 40 ≤ R.locals ∧ cells ≤ R.cells ∧ slots ≤ R.slots) (hd : decode (sd_m y).2.1 pc = .ok (.lsub, len)) (h : sd_ins E (sd_m y).2.2.2.2.1 (sd_m y).2.2.2.1 (.lsub) len pc ls st σ = some (.inl (pc', ls', st', σ'))) (k : ∀ (H : Heap) (locs : List Loc) (sl : Array Slot), va_P D sd_cl (sd_wld E ad cA σ') H → va_S (fun q => B0 ≤ q) s.heap H locs → sd_has ad sl (sd_m y).2.2.1 ls' → W p l e R s m args below meth c H locs cells slots Q (F0 m pc' sl (st'.map (sd_cv ad)))) : ∀ (H : Heap) (locs : List Loc) (sl : Array Slot), va_P D sd_cl (sd_wld E ad cA σ) H → va_S (fun q => B0 ≤ q) s.heap H locs → sd_has ad sl (sd_m y).2.2.1 ls → W p l e R s m args below meth c H locs cells slots Q (F0 m pc sl (st.map (sd_cv ad))) := by
  obtain ⟨hx, hb, hml, hown, hts, hK, hX, hnest, hAd⟩ := K
  intro H locs sl hP hS hl
  have h9 := sd_L_ok (r := _) h
  clear h
  obtain ⟨rfl, h⟩ := h9
  have h9 := sd_l2_ok h
  clear h
  obtain ⟨x, z, r, rfl, h⟩ := h9
  cases h
  exact lv_lsub hx hb hd (k H locs sl hP hS hl)
theorem sd_n_lmul (K : sd_Ctx p s m args c E ad B0 D cA y) (hf : 1 ≤ R.frames ∧ 40 ≤ R.locals ∧ cells ≤ R.cells ∧ slots ≤ R.slots) (hd : decode (sd_m y).2.1 pc = .ok (.lmul, len)) (h : sd_ins E (sd_m y).2.2.2.2.1 (sd_m y).2.2.2.1 (.lmul) len pc ls st σ = some (.inl (pc', ls', st', σ'))) (k : ∀ (H : Heap) (locs : List Loc) (sl : Array Slot), va_P D sd_cl (sd_wld E ad cA σ') H → va_S (fun q => B0 ≤ q) s.heap H locs → sd_has ad sl (sd_m y).2.2.1 ls' → W p l e R s m args below meth c H locs cells slots Q (F0 m pc' sl (st'.map (sd_cv ad)))) : ∀ (H : Heap) (locs : List Loc) (sl : Array Slot), va_P D sd_cl (sd_wld E ad cA σ) H → va_S (fun q => B0 ≤ q) s.heap H locs → sd_has ad sl (sd_m y).2.2.1 ls → W p l e R s m args below meth c H locs cells slots Q (F0 m pc sl (st.map (sd_cv ad))) := by
  obtain ⟨hx, hb, hml, hown, hts, hK, hX, hnest, hAd⟩ := K
  intro H locs sl hP hS hl
  have h9 := sd_L_ok (r := _) h
  clear h
  obtain ⟨rfl, h⟩ := h9
  have h9 := sd_l2_ok h
  clear h
  obtain ⟨x, z, r, rfl, h⟩ := h9
  cases h
  exact lv_lmul hx hb hd (k H locs sl hP hS hl)
theorem sd_n_land (K : sd_Ctx p s m args c E ad B0 D cA y) (hf : 1 ≤ R.frames ∧ 40 ≤ R.locals ∧ cells ≤ R.cells ∧ slots ≤ R.slots) (hd : decode (sd_m y).2.1 pc = .ok (.land, len)) (h : sd_ins E (sd_m y).2.2.2.2.1 (sd_m y).2.2.2.1 (.land) len pc ls st σ = some (.inl (pc', ls', st', σ'))) (k : ∀ (H : Heap) (locs : List Loc) (sl : Array Slot), va_P D sd_cl (sd_wld E ad cA σ') H → va_S (fun q => B0 ≤ q) s.heap H locs → sd_has ad sl (sd_m y).2.2.1 ls' → W p l e R s m args below meth c H locs cells slots Q (F0 m pc' sl (st'.map (sd_cv ad)))) : ∀ (H : Heap) (locs : List Loc) (sl : Array Slot), va_P D sd_cl (sd_wld E ad cA σ) H → va_S (fun q => B0 ≤ q) s.heap H locs → sd_has ad sl (sd_m y).2.2.1 ls → W p l e R s m args below meth c H locs cells slots Q (F0 m pc sl (st.map (sd_cv ad))) := by
  obtain ⟨hx, hb, hml, hown, hts, hK, hX, hnest, hAd⟩ := K
  intro H locs sl hP hS hl
  have h9 := sd_L_ok (r := _) h
  clear h
  obtain ⟨rfl, h⟩ := h9
  have h9 := sd_l2_ok h
  clear h
  obtain ⟨x, z, r, rfl, h⟩ := h9
  cases h
  exact lv_land hx hb hd (k H locs sl hP hS hl)
theorem sd_n_lor (K : sd_Ctx p s m args c E ad B0 D cA y) (hf : 1 ≤ R.frames ∧ 40 ≤ R.locals ∧ cells ≤ R.cells ∧ slots ≤ R.slots) (hd : decode (sd_m y).2.1 pc = .ok (.lor, len)) (h : sd_ins E (sd_m y).2.2.2.2.1 (sd_m y).2.2.2.1 (.lor) len pc ls st σ = some (.inl (pc', ls', st', σ'))) (k : ∀ (H : Heap) (locs : List Loc) (sl : Array Slot), va_P D sd_cl (sd_wld E ad cA σ') H → va_S (fun q => B0 ≤ q) s.heap H locs → sd_has ad sl (sd_m y).2.2.1 ls' → W p l e R s m args below meth c H locs cells slots Q (F0 m pc' sl (st'.map (sd_cv ad)))) : ∀ (H : Heap) (locs : List Loc) (sl : Array Slot), va_P D sd_cl (sd_wld E ad cA σ) H → va_S (fun q => B0 ≤ q) s.heap H locs → sd_has ad sl (sd_m y).2.2.1 ls → W p l e R s m args below meth c H locs cells slots Q (F0 m pc sl (st.map (sd_cv ad))) := by
  obtain ⟨hx, hb, hml, hown, hts, hK, hX, hnest, hAd⟩ := K
  intro H locs sl hP hS hl
  have h9 := sd_L_ok (r := _) h
  clear h
  obtain ⟨rfl, h⟩ := h9
  have h9 := sd_l2_ok h
  clear h
  obtain ⟨x, z, r, rfl, h⟩ := h9
  cases h
  exact lv_lor hx hb hd (k H locs sl hP hS hl)
theorem sd_n_lcmp (K : sd_Ctx p s m args c E ad B0 D cA y) (hf : 1 ≤ R.frames ∧ 40 ≤ R.locals ∧ cells ≤ R.cells ∧ slots ≤ R.slots) (hd : decode (sd_m y).2.1 pc = .ok (.lcmp, len)) (h : sd_ins E (sd_m y).2.2.2.2.1 (sd_m y).2.2.2.1 (.lcmp) len pc ls st σ = some (.inl (pc', ls', st', σ'))) (k : ∀ (H : Heap) (locs : List Loc) (sl : Array Slot), va_P D sd_cl (sd_wld E ad cA σ') H → va_S (fun q => B0 ≤ q) s.heap H locs → sd_has ad sl (sd_m y).2.2.1 ls' → W p l e R s m args below meth c H locs cells slots Q (F0 m pc' sl (st'.map (sd_cv ad)))) : ∀ (H : Heap) (locs : List Loc) (sl : Array Slot), va_P D sd_cl (sd_wld E ad cA σ) H → va_S (fun q => B0 ≤ q) s.heap H locs → sd_has ad sl (sd_m y).2.2.1 ls → W p l e R s m args below meth c H locs cells slots Q (F0 m pc sl (st.map (sd_cv ad))) := by
  obtain ⟨hx, hb, hml, hown, hts, hK, hX, hnest, hAd⟩ := K
  intro H locs sl hP hS hl
  have h9 := sd_L_ok (r := _) h
  clear h
  obtain ⟨rfl, h⟩ := h9
  have h9 := sd_l2_ok h
  clear h
  obtain ⟨x, z, r, rfl, h⟩ := h9
  cases h
  exact W.lcmp hx hb hd (k H locs sl hP hS hl)
theorem sd_n_lushr (K : sd_Ctx p s m args c E ad B0 D cA y) (hf : 1 ≤ R.frames ∧ 40 ≤ R.locals ∧ cells ≤ R.cells ∧ slots ≤ R.slots) (hd : decode (sd_m y).2.1 pc = .ok (.lushr, len)) (h : sd_ins E (sd_m y).2.2.2.2.1 (sd_m y).2.2.2.1 (.lushr) len pc ls st σ = some (.inl (pc', ls', st', σ'))) (k : ∀ (H : Heap) (locs : List Loc) (sl : Array Slot), va_P D sd_cl (sd_wld E ad cA σ') H → va_S (fun q => B0 ≤ q) s.heap H locs → sd_has ad sl (sd_m y).2.2.1 ls' → W p l e R s m args below meth c H locs cells slots Q (F0 m pc' sl (st'.map (sd_cv ad)))) : ∀ (H : Heap) (locs : List Loc) (sl : Array Slot), va_P D sd_cl (sd_wld E ad cA σ) H → va_S (fun q => B0 ≤ q) s.heap H locs → sd_has ad sl (sd_m y).2.2.1 ls → W p l e R s m args below meth c H locs cells slots Q (F0 m pc sl (st.map (sd_cv ad))) := by
  obtain ⟨hx, hb, hml, hown, hts, hK, hX, hnest, hAd⟩ := K
  intro H locs sl hP hS hl
  have h9 := sd_L_ok (r := _) h
  clear h
  obtain ⟨rfl, h⟩ := h9
  have h9 := sd_li_ok h
  clear h
  obtain ⟨x, z, r, rfl, h⟩ := h9
  cases h
  exact lv_lushr hx hb hd rfl (k H locs sl hP hS hl)
theorem sd_n_lshl (K : sd_Ctx p s m args c E ad B0 D cA y) (hf : 1 ≤ R.frames ∧ 40 ≤ R.locals ∧ cells ≤ R.cells ∧ slots ≤ R.slots) (hd : decode (sd_m y).2.1 pc = .ok (.lshl, len)) (h : sd_ins E (sd_m y).2.2.2.2.1 (sd_m y).2.2.2.1 (.lshl) len pc ls st σ = some (.inl (pc', ls', st', σ'))) (k : ∀ (H : Heap) (locs : List Loc) (sl : Array Slot), va_P D sd_cl (sd_wld E ad cA σ') H → va_S (fun q => B0 ≤ q) s.heap H locs → sd_has ad sl (sd_m y).2.2.1 ls' → W p l e R s m args below meth c H locs cells slots Q (F0 m pc' sl (st'.map (sd_cv ad)))) : ∀ (H : Heap) (locs : List Loc) (sl : Array Slot), va_P D sd_cl (sd_wld E ad cA σ) H → va_S (fun q => B0 ≤ q) s.heap H locs → sd_has ad sl (sd_m y).2.2.1 ls → W p l e R s m args below meth c H locs cells slots Q (F0 m pc sl (st.map (sd_cv ad))) := by
  obtain ⟨hx, hb, hml, hown, hts, hK, hX, hnest, hAd⟩ := K
  intro H locs sl hP hS hl
  have h9 := sd_L_ok (r := _) h
  clear h
  obtain ⟨rfl, h⟩ := h9
  have h9 := sd_li_ok h
  clear h
  obtain ⟨x, z, r, rfl, h⟩ := h9
  cases h
  exact lv_lshl hx hb hd rfl (k H locs sl hP hS hl)
theorem sd_n_ineg (K : sd_Ctx p s m args c E ad B0 D cA y) (hf : 1 ≤ R.frames ∧ 40 ≤ R.locals ∧ cells ≤ R.cells ∧ slots ≤ R.slots) (hd : decode (sd_m y).2.1 pc = .ok (.ineg, len)) (h : sd_ins E (sd_m y).2.2.2.2.1 (sd_m y).2.2.2.1 (.ineg) len pc ls st σ = some (.inl (pc', ls', st', σ'))) (k : ∀ (H : Heap) (locs : List Loc) (sl : Array Slot), va_P D sd_cl (sd_wld E ad cA σ') H → va_S (fun q => B0 ≤ q) s.heap H locs → sd_has ad sl (sd_m y).2.2.1 ls' → W p l e R s m args below meth c H locs cells slots Q (F0 m pc' sl (st'.map (sd_cv ad)))) : ∀ (H : Heap) (locs : List Loc) (sl : Array Slot), va_P D sd_cl (sd_wld E ad cA σ) H → va_S (fun q => B0 ≤ q) s.heap H locs → sd_has ad sl (sd_m y).2.2.1 ls → W p l e R s m args below meth c H locs cells slots Q (F0 m pc sl (st.map (sd_cv ad))) := by
  obtain ⟨hx, hb, hml, hown, hts, hK, hX, hnest, hAd⟩ := K
  intro H locs sl hP hS hl
  have h9 := sd_L_ok (r := _) h
  clear h
  obtain ⟨rfl, h⟩ := h9
  have h9 := sd_1_ok h
  clear h
  obtain ⟨x, r, rfl, h⟩ := h9
  cases h
  exact lv_ineg hx hb hd (k H locs sl hP hS hl)
theorem sd_n_i2l (K : sd_Ctx p s m args c E ad B0 D cA y) (hf : 1 ≤ R.frames ∧ 40 ≤ R.locals ∧ cells ≤ R.cells ∧ slots ≤ R.slots) (hd : decode (sd_m y).2.1 pc = .ok (.i2l, len)) (h : sd_ins E (sd_m y).2.2.2.2.1 (sd_m y).2.2.2.1 (.i2l) len pc ls st σ = some (.inl (pc', ls', st', σ'))) (k : ∀ (H : Heap) (locs : List Loc) (sl : Array Slot), va_P D sd_cl (sd_wld E ad cA σ') H → va_S (fun q => B0 ≤ q) s.heap H locs → sd_has ad sl (sd_m y).2.2.1 ls' → W p l e R s m args below meth c H locs cells slots Q (F0 m pc' sl (st'.map (sd_cv ad)))) : ∀ (H : Heap) (locs : List Loc) (sl : Array Slot), va_P D sd_cl (sd_wld E ad cA σ) H → va_S (fun q => B0 ≤ q) s.heap H locs → sd_has ad sl (sd_m y).2.2.1 ls → W p l e R s m args below meth c H locs cells slots Q (F0 m pc sl (st.map (sd_cv ad))) := by
  obtain ⟨hx, hb, hml, hown, hts, hK, hX, hnest, hAd⟩ := K
  intro H locs sl hP hS hl
  have h9 := sd_L_ok (r := _) h
  clear h
  obtain ⟨rfl, h⟩ := h9
  have h9 := sd_1_ok h
  clear h
  obtain ⟨x, r, rfl, h⟩ := h9
  cases h
  exact lv_i2l hx hb hd rfl (k H locs sl hP hS hl)
theorem sd_n_i2b (K : sd_Ctx p s m args c E ad B0 D cA y) (hf : 1 ≤ R.frames ∧ 40 ≤ R.locals ∧ cells ≤ R.cells ∧ slots ≤ R.slots) (hd : decode (sd_m y).2.1 pc = .ok (.i2b, len)) (h : sd_ins E (sd_m y).2.2.2.2.1 (sd_m y).2.2.2.1 (.i2b) len pc ls st σ = some (.inl (pc', ls', st', σ'))) (k : ∀ (H : Heap) (locs : List Loc) (sl : Array Slot), va_P D sd_cl (sd_wld E ad cA σ') H → va_S (fun q => B0 ≤ q) s.heap H locs → sd_has ad sl (sd_m y).2.2.1 ls' → W p l e R s m args below meth c H locs cells slots Q (F0 m pc' sl (st'.map (sd_cv ad)))) : ∀ (H : Heap) (locs : List Loc) (sl : Array Slot), va_P D sd_cl (sd_wld E ad cA σ) H → va_S (fun q => B0 ≤ q) s.heap H locs → sd_has ad sl (sd_m y).2.2.1 ls → W p l e R s m args below meth c H locs cells slots Q (F0 m pc sl (st.map (sd_cv ad))) := by
  obtain ⟨hx, hb, hml, hown, hts, hK, hX, hnest, hAd⟩ := K
  intro H locs sl hP hS hl
  have h9 := sd_L_ok (r := _) h
  clear h
  obtain ⟨rfl, h⟩ := h9
  have h9 := sd_1_ok h
  clear h
  obtain ⟨x, r, rfl, h⟩ := h9
  cases h
  exact lv_i2b hx hb hd rfl (k H locs sl hP hS hl)
theorem sd_n_i2c (K : sd_Ctx p s m args c E ad B0 D cA y) (hf : 1 ≤ R.frames ∧ 40 ≤ R.locals ∧ cells ≤ R.cells ∧ slots ≤ R.slots) (hd : decode (sd_m y).2.1 pc = .ok (.i2c, len)) (h : sd_ins E (sd_m y).2.2.2.2.1 (sd_m y).2.2.2.1 (.i2c) len pc ls st σ = some (.inl (pc', ls', st', σ'))) (k : ∀ (H : Heap) (locs : List Loc) (sl : Array Slot), va_P D sd_cl (sd_wld E ad cA σ') H → va_S (fun q => B0 ≤ q) s.heap H locs → sd_has ad sl (sd_m y).2.2.1 ls' → W p l e R s m args below meth c H locs cells slots Q (F0 m pc' sl (st'.map (sd_cv ad)))) : ∀ (H : Heap) (locs : List Loc) (sl : Array Slot), va_P D sd_cl (sd_wld E ad cA σ) H → va_S (fun q => B0 ≤ q) s.heap H locs → sd_has ad sl (sd_m y).2.2.1 ls → W p l e R s m args below meth c H locs cells slots Q (F0 m pc sl (st.map (sd_cv ad))) := by
  obtain ⟨hx, hb, hml, hown, hts, hK, hX, hnest, hAd⟩ := K
  intro H locs sl hP hS hl
  have h9 := sd_L_ok (r := _) h
  clear h
  obtain ⟨rfl, h⟩ := h9
  have h9 := sd_1_ok h
  clear h
  obtain ⟨x, r, rfl, h⟩ := h9
  cases h
  exact lv_i2c hx hb hd rfl (k H locs sl hP hS hl)
theorem sd_n_l2i (K : sd_Ctx p s m args c E ad B0 D cA y) (hf : 1 ≤ R.frames ∧ 40 ≤ R.locals ∧ cells ≤ R.cells ∧ slots ≤ R.slots) (hd : decode (sd_m y).2.1 pc = .ok (.l2i, len)) (h : sd_ins E (sd_m y).2.2.2.2.1 (sd_m y).2.2.2.1 (.l2i) len pc ls st σ = some (.inl (pc', ls', st', σ'))) (k : ∀ (H : Heap) (locs : List Loc) (sl : Array Slot), va_P D sd_cl (sd_wld E ad cA σ') H → va_S (fun q => B0 ≤ q) s.heap H locs → sd_has ad sl (sd_m y).2.2.1 ls' → W p l e R s m args below meth c H locs cells slots Q (F0 m pc' sl (st'.map (sd_cv ad)))) : ∀ (H : Heap) (locs : List Loc) (sl : Array Slot), va_P D sd_cl (sd_wld E ad cA σ) H → va_S (fun q => B0 ≤ q) s.heap H locs → sd_has ad sl (sd_m y).2.2.1 ls → W p l e R s m args below meth c H locs cells slots Q (F0 m pc sl (st.map (sd_cv ad))) := by
  obtain ⟨hx, hb, hml, hown, hts, hK, hX, hnest, hAd⟩ := K
  intro H locs sl hP hS hl
  have h9 := sd_L_ok (r := _) h
  clear h
  obtain ⟨rfl, h⟩ := h9
  have h9 := sd_l1_ok h
  clear h
  obtain ⟨x, r, rfl, h⟩ := h9
  cases h
  exact lv_l2i hx hb hd rfl (k H locs sl hP hS hl)
theorem sd_n_dup (K : sd_Ctx p s m args c E ad B0 D cA y) (hf : 1 ≤ R.frames ∧ 40 ≤ R.locals ∧ cells ≤ R.cells ∧ slots ≤ R.slots) (hd : decode (sd_m y).2.1 pc = .ok (.dup, len)) (h : sd_ins E (sd_m y).2.2.2.2.1 (sd_m y).2.2.2.1 (.dup) len pc ls st σ = some (.inl (pc', ls', st', σ'))) (k : ∀ (H : Heap) (locs : List Loc) (sl : Array Slot), va_P D sd_cl (sd_wld E ad cA σ') H → va_S (fun q => B0 ≤ q) s.heap H locs → sd_has ad sl (sd_m y).2.2.1 ls' → W p l e R s m args below meth c H locs cells slots Q (F0 m pc' sl (st'.map (sd_cv ad)))) : ∀ (H : Heap) (locs : List Loc) (sl : Array Slot), va_P D sd_cl (sd_wld E ad cA σ) H → va_S (fun q => B0 ≤ q) s.heap H locs → sd_has ad sl (sd_m y).2.2.1 ls → W p l e R s m args below meth c H locs cells slots Q (F0 m pc sl (st.map (sd_cv ad))) := by
  obtain ⟨hx, hb, hml, hown, hts, hK, hX, hnest, hAd⟩ := K
  intro H locs sl hP hS hl
  have h9 := sd_L_ok (r := _) h
  clear h
  obtain ⟨rfl, h⟩ := h9
  split at h
  · rename_i v r
    split at h
    · rename_i hc
      cases h
      exact lv_dup hx hb hd (by rw [sd_cv_cat]; exact hc) (k H locs sl hP hS hl)
    · cases h
  · cases h
theorem sd_n_pop (K : sd_Ctx p s m args c E ad B0 D cA y) (hf : 1 ≤ R.frames ∧ 40 ≤ R.locals ∧ cells ≤ R.cells ∧ slots ≤ R.slots) (hd : decode (sd_m y).2.1 pc = .ok (.pop, len)) (h : sd_ins E (sd_m y).2.2.2.2.1 (sd_m y).2.2.2.1 (.pop) len pc ls st σ = some (.inl (pc', ls', st', σ'))) (k : ∀ (H : Heap) (locs : List Loc) (sl : Array Slot), va_P D sd_cl (sd_wld E ad cA σ') H → va_S (fun q => B0 ≤ q) s.heap H locs → sd_has ad sl (sd_m y).2.2.1 ls' → W p l e R s m args below meth c H locs cells slots Q (F0 m pc' sl (st'.map (sd_cv ad)))) : ∀ (H : Heap) (locs : List Loc) (sl : Array Slot), va_P D sd_cl (sd_wld E ad cA σ) H → va_S (fun q => B0 ≤ q) s.heap H locs → sd_has ad sl (sd_m y).2.2.1 ls → W p l e R s m args below meth c H locs cells slots Q (F0 m pc sl (st.map (sd_cv ad))) := by
  obtain ⟨hx, hb, hml, hown, hts, hK, hX, hnest, hAd⟩ := K
  intro H locs sl hP hS hl
  have h9 := sd_L_ok (r := _) h
  clear h
  obtain ⟨rfl, h⟩ := h9
  split at h
  · rename_i v r
    split at h
    · rename_i hc
      cases h
      exact lv_pop hx hb hd (by rw [sd_cv_cat]; exact hc) (k H locs sl hP hS hl)
    · cases h
  · cases h
theorem sd_n_dup2 (K : sd_Ctx p s m args c E ad B0 D cA y) (hf : 1 ≤ R.frames ∧ 40 ≤ R.locals ∧ cells ≤ R.cells ∧ slots ≤ R.slots) (hd : decode (sd_m y).2.1 pc = .ok (.dup2, len)) (h : sd_ins E (sd_m y).2.2.2.2.1 (sd_m y).2.2.2.1 (.dup2) len pc ls st σ = some (.inl (pc', ls', st', σ'))) (k : ∀ (H : Heap) (locs : List Loc) (sl : Array Slot), va_P D sd_cl (sd_wld E ad cA σ') H → va_S (fun q => B0 ≤ q) s.heap H locs → sd_has ad sl (sd_m y).2.2.1 ls' → W p l e R s m args below meth c H locs cells slots Q (F0 m pc' sl (st'.map (sd_cv ad)))) : ∀ (H : Heap) (locs : List Loc) (sl : Array Slot), va_P D sd_cl (sd_wld E ad cA σ) H → va_S (fun q => B0 ≤ q) s.heap H locs → sd_has ad sl (sd_m y).2.2.1 ls → W p l e R s m args below meth c H locs cells slots Q (F0 m pc sl (st.map (sd_cv ad))) := by
  obtain ⟨hx, hb, hml, hown, hts, hK, hX, hnest, hAd⟩ := K
  intro H locs sl hP hS hl
  have h9 := sd_L_ok (r := _) h
  clear h
  obtain ⟨rfl, h⟩ := h9
  split at h
  · rename_i v w r
    split at h
    · rename_i hc
      cases h
      exact lv_dup2_11 hx hb hd (by rw [sd_cv_cat]; exact hc.1) (by rw [sd_cv_cat]; exact hc.2) (k H locs sl hP hS hl)
    · cases h
  · cases h
theorem sd_n_goto {off : Int} (K : sd_Ctx p s m args c E ad B0 D cA y) (hf : 1 ≤ R.frames ∧ 40 ≤ R.locals ∧ cells ≤ R.cells ∧ slots ≤ R.slots) (hd : decode (sd_m y).2.1 pc = .ok (.goto off, len)) (h : sd_ins E (sd_m y).2.2.2.2.1 (sd_m y).2.2.2.1 (.goto off) len pc ls st σ = some (.inl (pc', ls', st', σ'))) (k : ∀ (H : Heap) (locs : List Loc) (sl : Array Slot), va_P D sd_cl (sd_wld E ad cA σ') H → va_S (fun q => B0 ≤ q) s.heap H locs → sd_has ad sl (sd_m y).2.2.1 ls' → W p l e R s m args below meth c H locs cells slots Q (F0 m pc' sl (st'.map (sd_cv ad)))) : ∀ (H : Heap) (locs : List Loc) (sl : Array Slot), va_P D sd_cl (sd_wld E ad cA σ) H → va_S (fun q => B0 ≤ q) s.heap H locs → sd_has ad sl (sd_m y).2.2.1 ls → W p l e R s m args below meth c H locs cells slots Q (F0 m pc sl (st.map (sd_cv ad))) := by
  obtain ⟨hx, hb, hml, hown, hts, hK, hX, hnest, hAd⟩ := K
  intro H locs sl hP hS hl
  have h9 := sd_L_ok (r := _) h
  clear h
  obtain ⟨rfl, h⟩ := h9
  have h9 := sd_jmp_ok h
  clear h
  obtain ⟨ht, rfl, rfl, rfl⟩ := h9
  exact lv_goto hx hb hd ht (k H locs sl hP hS hl)
theorem sd_n_if_eq {off : Int} (K : sd_Ctx p s m args c E ad B0 D cA y) (hf : 1 ≤ R.frames ∧ 40 ≤ R.locals ∧ cells ≤ R.cells ∧ slots ≤ R.slots) (hd : decode (sd_m y).2.1 pc = .ok (.ifCond .eq off, len)) (h : sd_ins E (sd_m y).2.2.2.2.1 (sd_m y).2.2.2.1 (.ifCond .eq off) len pc ls st σ = some (.inl (pc', ls', st', σ'))) (k : ∀ (H : Heap) (locs : List Loc) (sl : Array Slot), va_P D sd_cl (sd_wld E ad cA σ') H → va_S (fun q => B0 ≤ q) s.heap H locs → sd_has ad sl (sd_m y).2.2.1 ls' → W p l e R s m args below meth c H locs cells slots Q (F0 m pc' sl (st'.map (sd_cv ad)))) : ∀ (H : Heap) (locs : List Loc) (sl : Array Slot), va_P D sd_cl (sd_wld E ad cA σ) H → va_S (fun q => B0 ≤ q) s.heap H locs → sd_has ad sl (sd_m y).2.2.1 ls → W p l e R s m args below meth c H locs cells slots Q (F0 m pc sl (st.map (sd_cv ad))) := by
  obtain ⟨hx, hb, hml, hown, hts, hK, hX, hnest, hAd⟩ := K
  intro H locs sl hP hS hl
  have h9 := sd_L_ok (r := _) h
  clear h
  obtain ⟨rfl, h⟩ := h9
  have h9 := sd_1_ok h
  clear h
  obtain ⟨x, r, rfl, h⟩ := h9
  have h9 := sd_if_ok h
  clear h
  obtain ⟨tgt, ht, rfl, rfl, rfl, ⟨hc, rfl⟩ | ⟨hc, rfl⟩⟩ := h9
  · exact lv_if_eq hx hb hd ht (fun _ => k H locs sl hP hS hl) (fun q => absurd hc q)
  · exact lv_if_eq hx hb hd ht (fun q => absurd q hc) (fun _ => k H locs sl hP hS hl)
theorem sd_n_icmp_eq {off : Int} (K : sd_Ctx p s m args c E ad B0 D cA y) (hf : 1 ≤ R.frames ∧ 40 ≤ R.locals ∧ cells ≤ R.cells ∧ slots ≤ R.slots) (hd : decode (sd_m y).2.1 pc = .ok (.if_icmp .eq off, len)) (h : sd_ins E (sd_m y).2.2.2.2.1 (sd_m y).2.2.2.1 (.if_icmp .eq off) len pc ls st σ = some (.inl (pc', ls', st', σ'))) (k : ∀ (H : Heap) (locs : List Loc) (sl : Array Slot), va_P D sd_cl (sd_wld E ad cA σ') H → va_S (fun q => B0 ≤ q) s.heap H locs → sd_has ad sl (sd_m y).2.2.1 ls' → W p l e R s m args below meth c H locs cells slots Q (F0 m pc' sl (st'.map (sd_cv ad)))) : ∀ (H : Heap) (locs : List Loc) (sl : Array Slot), va_P D sd_cl (sd_wld E ad cA σ) H → va_S (fun q => B0 ≤ q) s.heap H locs → sd_has ad sl (sd_m y).2.2.1 ls → W p l e R s m args below meth c H locs cells slots Q (F0 m pc sl (st.map (sd_cv ad))) := by
  obtain ⟨hx, hb, hml, hown, hts, hK, hX, hnest, hAd⟩ := K
  intro H locs sl hP hS hl
  have h9 := sd_L_ok (r := _) h
  clear h
  obtain ⟨rfl, h⟩ := h9
  have h9 := sd_2_ok h
  clear h
  obtain ⟨x, z, r, rfl, h⟩ := h9
  have h9 := sd_if_ok h
  clear h
  obtain ⟨tgt, ht, rfl, rfl, rfl, ⟨hc, rfl⟩ | ⟨hc, rfl⟩⟩ := h9
  · exact lv_icmp_eq hx hb hd ht (fun _ => k H locs sl hP hS hl) (fun q => absurd hc q)
  · exact lv_icmp_eq hx hb hd ht (fun q => absurd q hc) (fun _ => k H locs sl hP hS hl)
theorem sd_n_if_ne {off : Int} (K : sd_Ctx p s m args c E ad B0 D cA y) (hf : 1 ≤ R.frames ∧ 40 ≤ R.locals ∧ cells ≤ R.cells ∧ slots ≤ R.slots) (hd : decode (sd_m y).2.1 pc = .ok (.ifCond .ne off, len)) (h : sd_ins E (sd_m y).2.2.2.2.1 (sd_m y).2.2.2.1 (.ifCond .ne off) len pc ls st σ = some (.inl (pc', ls', st', σ'))) (k : ∀ (H : Heap) (locs : List Loc) (sl : Array Slot), va_P D sd_cl (sd_wld E ad cA σ') H → va_S (fun q => B0 ≤ q) s.heap H locs → sd_has ad sl (sd_m y).2.2.1 ls' → W p l e R s m args below meth c H locs cells slots Q (F0 m pc' sl (st'.map (sd_cv ad)))) : ∀ (H : Heap) (locs : List Loc) (sl : Array Slot), va_P D sd_cl (sd_wld E ad cA σ) H → va_S (fun q => B0 ≤ q) s.heap H locs → sd_has ad sl (sd_m y).2.2.1 ls → W p l e R s m args below meth c H locs cells slots Q (F0 m pc sl (st.map (sd_cv ad))) := by
  obtain ⟨hx, hb, hml, hown, hts, hK, hX, hnest, hAd⟩ := K
  intro H locs sl hP hS hl
  have h9 := sd_L_ok (r := _) h
  clear h
  obtain ⟨rfl, h⟩ := h9
  have h9 := sd_1_ok h
  clear h
  obtain ⟨x, r, rfl, h⟩ := h9
  have h9 := sd_if_ok h
  clear h
  obtain ⟨tgt, ht, rfl, rfl, rfl, ⟨hc, rfl⟩ | ⟨hc, rfl⟩⟩ := h9
  · exact lv_if_ne hx hb hd ht (fun _ => k H locs sl hP hS hl) (fun q => absurd q hc)
  · exact lv_if_ne hx hb hd ht (fun q => absurd q hc) (fun _ => k H locs sl hP hS hl)
theorem sd_n_icmp_ne {off : Int} (K : sd_Ctx p s m args c E ad B0 D cA y) (hf : 1 ≤ R.frames ∧ 40 ≤ R.locals ∧ cells ≤ R.cells ∧ slots ≤ R.slots) (hd : decode (sd_m y).2.1 pc = .ok (.if_icmp .ne off, len)) (h : sd_ins E (sd_m y).2.2.2.2.1 (sd_m y).2.2.2.1 (.if_icmp .ne off) len pc ls st σ = some (.inl (pc', ls', st', σ'))) (k : ∀ (H : Heap) (locs : List Loc) (sl : Array Slot), va_P D sd_cl (sd_wld E ad cA σ') H → va_S (fun q => B0 ≤ q) s.heap H locs → sd_has ad sl (sd_m y).2.2.1 ls' → W p l e R s m args below meth c H locs cells slots Q (F0 m pc' sl (st'.map (sd_cv ad)))) : ∀ (H : Heap) (locs : List Loc) (sl : Array Slot), va_P D sd_cl (sd_wld E ad cA σ) H → va_S (fun q => B0 ≤ q) s.heap H locs → sd_has ad sl (sd_m y).2.2.1 ls → W p l e R s m args below meth c H locs cells slots Q (F0 m pc sl (st.map (sd_cv ad))) := by
  obtain ⟨hx, hb, hml, hown, hts, hK, hX, hnest, hAd⟩ := K
  intro H locs sl hP hS hl
  have h9 := sd_L_ok (r := _) h
  clear h
  obtain ⟨rfl, h⟩ := h9
  have h9 := sd_2_ok h
  clear h
  obtain ⟨x, z, r, rfl, h⟩ := h9
  have h9 := sd_if_ok h
  clear h
  obtain ⟨tgt, ht, rfl, rfl, rfl, ⟨hc, rfl⟩ | ⟨hc, rfl⟩⟩ := h9
  · exact lv_icmp_ne hx hb hd ht (fun _ => k H locs sl hP hS hl) (fun q => absurd q hc)
  · exact lv_icmp_ne hx hb hd ht (fun q => absurd q hc) (fun _ => k H locs sl hP hS hl)
theorem sd_n_if_lt {off : Int} (K : sd_Ctx p s m args c E ad B0 D cA y) (hf : 1 ≤ R.frames ∧ 40 ≤ R.locals ∧ cells ≤ R.cells ∧ slots ≤ R.slots) (hd : decode (sd_m y).2.1 pc = .ok (.ifCond .lt off, len)) (h : sd_ins E (sd_m y).2.2.2.2.1 (sd_m y).2.2.2.1 (.ifCond .lt off) len pc ls st σ = some (.inl (pc', ls', st', σ'))) (k : ∀ (H : Heap) (locs : List Loc) (sl : Array Slot), va_P D sd_cl (sd_wld E ad cA σ') H → va_S (fun q => B0 ≤ q) s.heap H locs → sd_has ad sl (sd_m y).2.2.1 ls' → W p l e R s m args below meth c H locs cells slots Q (F0 m pc' sl (st'.map (sd_cv ad)))) : ∀ (H : Heap) (locs : List Loc) (sl : Array Slot), va_P D sd_cl (sd_wld E ad cA σ) H → va_S (fun q => B0 ≤ q) s.heap H locs → sd_has ad sl (sd_m y).2.2.1 ls → W p l e R s m args below meth c H locs cells slots Q (F0 m pc sl (st.map (sd_cv ad))) := by
  obtain ⟨hx, hb, hml, hown, hts, hK, hX, hnest, hAd⟩ := K
  intro H locs sl hP hS hl
  have h9 := sd_L_ok (r := _) h
  clear h
  obtain ⟨rfl, h⟩ := h9
  have h9 := sd_1_ok h
  clear h
  obtain ⟨x, r, rfl, h⟩ := h9
  have h9 := sd_if_ok h
  clear h
  obtain ⟨tgt, ht, rfl, rfl, rfl, ⟨hc, rfl⟩ | ⟨hc, rfl⟩⟩ := h9
  · exact lv_if_lt hx hb hd ht (fun _ => k H locs sl hP hS hl) (fun q => absurd hc q)
  · exact lv_if_lt hx hb hd ht (fun q => absurd q hc) (fun _ => k H locs sl hP hS hl)
theorem sd_n_icmp_lt {off : Int} (K : sd_Ctx p s m args c E ad B0 D cA y) (hf : 1 ≤ R.frames ∧ 40 ≤ R.locals ∧ cells ≤ R.cells ∧ slots ≤ R.slots) (hd : decode (sd_m y).2.1 pc = .ok (.if_icmp .lt off, len)) (h : sd_ins E (sd_m y).2.2.2.2.1 (sd_m y).2.2.2.1 (.if_icmp .lt off) len pc ls st σ = some (.inl (pc', ls', st', σ'))) (k : ∀ (H : Heap) (locs : List Loc) (sl : Array Slot), va_P D sd_cl (sd_wld E ad cA σ') H → va_S (fun q => B0 ≤ q) s.heap H locs → sd_has ad sl (sd_m y).2.2.1 ls' → W p l e R s m args below meth c H locs cells slots Q (F0 m pc' sl (st'.map (sd_cv ad)))) : ∀ (H : Heap) (locs : List Loc) (sl : Array Slot), va_P D sd_cl (sd_wld E ad cA σ) H → va_S (fun q => B0 ≤ q) s.heap H locs → sd_has ad sl (sd_m y).2.2.1 ls → W p l e R s m args below meth c H locs cells slots Q (F0 m pc sl (st.map (sd_cv ad))) := by
  obtain ⟨hx, hb, hml, hown, hts, hK, hX, hnest, hAd⟩ := K
  intro H locs sl hP hS hl
  have h9 := sd_L_ok (r := _) h
  clear h
  obtain ⟨rfl, h⟩ := h9
  have h9 := sd_2_ok h
  clear h
  obtain ⟨x, z, r, rfl, h⟩ := h9
  have h9 := sd_if_ok h
  clear h
  obtain ⟨tgt, ht, rfl, rfl, rfl, ⟨hc, rfl⟩ | ⟨hc, rfl⟩⟩ := h9
  · exact lv_icmp_lt hx hb hd ht (fun _ => k H locs sl hP hS hl) (fun q => absurd hc q)
  · exact lv_icmp_lt hx hb hd ht (fun q => absurd q hc) (fun _ => k H locs sl hP hS hl)
theorem sd_n_if_ge {off : Int} (K : sd_Ctx p s m args c E ad B0 D cA y) (hf : 1 ≤ R.frames ∧ 40 ≤ R.locals ∧ cells ≤ R.cells ∧ slots ≤ R.slots) (hd : decode (sd_m y).2.1 pc = .ok (.ifCond .ge off, len)) (h : sd_ins E (sd_m y).2.2.2.2.1 (sd_m y).2.2.2.1 (.ifCond .ge off) len pc ls st σ = some (.inl (pc', ls', st', σ'))) (k : ∀ (H : Heap) (locs : List Loc) (sl : Array Slot), va_P D sd_cl (sd_wld E ad cA σ') H → va_S (fun q => B0 ≤ q) s.heap H locs → sd_has ad sl (sd_m y).2.2.1 ls' → W p l e R s m args below meth c H locs cells slots Q (F0 m pc' sl (st'.map (sd_cv ad)))) : ∀ (H : Heap) (locs : List Loc) (sl : Array Slot), va_P D sd_cl (sd_wld E ad cA σ) H → va_S (fun q => B0 ≤ q) s.heap H locs → sd_has ad sl (sd_m y).2.2.1 ls → W p l e R s m args below meth c H locs cells slots Q (F0 m pc sl (st.map (sd_cv ad))) := by
  obtain ⟨hx, hb, hml, hown, hts, hK, hX, hnest, hAd⟩ := K
  intro H locs sl hP hS hl
  have h9 := sd_L_ok (r := _) h
  clear h
  obtain ⟨rfl, h⟩ := h9
  have h9 := sd_1_ok h
  clear h
  obtain ⟨x, r, rfl, h⟩ := h9
  have h9 := sd_if_ok h
  clear h
  obtain ⟨tgt, ht, rfl, rfl, rfl, ⟨hc, rfl⟩ | ⟨hc, rfl⟩⟩ := h9
  · exact lv_if_ge hx hb hd ht (fun _ => k H locs sl hP hS hl) (fun q => absurd hc q)
  · exact lv_if_ge hx hb hd ht (fun q => absurd q hc) (fun _ => k H locs sl hP hS hl)
theorem sd_n_icmp_ge {off : Int} (K : sd_Ctx p s m args c E ad B0 D cA y) (hf : 1 ≤ R.frames ∧ 40 ≤ R.locals ∧ cells ≤ R.cells ∧ slots ≤ R.slots) (hd : decode (sd_m y).2.1 pc = .ok (.if_icmp .ge off, len)) (h : sd_ins E (sd_m y).2.2.2.2.1 (sd_m y).2.2.2.1 (.if_icmp .ge off) len pc ls st σ = some (.inl (pc', ls', st', σ'))) (k : ∀ (H : Heap) (locs : List Loc) (sl : Array Slot), va_P D sd_cl (sd_wld E ad cA σ') H → va_S (fun q => B0 ≤ q) s.heap H locs → sd_has ad sl (sd_m y).2.2.1 ls' → W p l e R s m args below meth c H locs cells slots Q (F0 m pc' sl (st'.map (sd_cv ad)))) : ∀ (H : Heap) (locs : List Loc) (sl : Array Slot), va_P D sd_cl (sd_wld E ad cA σ) H → va_S (fun q => B0 ≤ q) s.heap H locs → sd_has ad sl (sd_m y).2.2.1 ls → W p l e R s m args below meth c H locs cells slots Q (F0 m pc sl (st.map (sd_cv ad))) := by
  obtain ⟨hx, hb, hml, hown, hts, hK, hX, hnest, hAd⟩ := K
  intro H locs sl hP hS hl
  have h9 := sd_L_ok (r := _) h
  clear h
  obtain ⟨rfl, h⟩ := h9
  have h9 := sd_2_ok h
  clear h
  obtain ⟨x, z, r, rfl, h⟩ := h9
  have h9 := sd_if_ok h
  clear h
  obtain ⟨tgt, ht, rfl, rfl, rfl, ⟨hc, rfl⟩ | ⟨hc, rfl⟩⟩ := h9
  · exact lv_icmp_ge hx hb hd ht (fun _ => k H locs sl hP hS hl) (fun q => absurd hc q)
  · exact lv_icmp_ge hx hb hd ht (fun q => absurd q hc) (fun _ => k H locs sl hP hS hl)
theorem sd_n_if_gt {off : Int} (K : sd_Ctx p s m args c E ad B0 D cA y) (hf : 1 ≤ R.frames ∧ 40 ≤ R.locals ∧ cells ≤ R.cells ∧ slots ≤ R.slots) (hd : decode (sd_m y).2.1 pc = .ok (.ifCond .gt off, len)) (h : sd_ins E (sd_m y).2.2.2.2.1 (sd_m y).2.2.2.1 (.ifCond .gt off) len pc ls st σ = some (.inl (pc', ls', st', σ'))) (k : ∀ (H : Heap) (locs : List Loc) (sl : Array Slot), va_P D sd_cl (sd_wld E ad cA σ') H → va_S (fun q => B0 ≤ q) s.heap H locs → sd_has ad sl (sd_m y).2.2.1 ls' → W p l e R s m args below meth c H locs cells slots Q (F0 m pc' sl (st'.map (sd_cv ad)))) : ∀ (H : Heap) (locs : List Loc) (sl : Array Slot), va_P D sd_cl (sd_wld E ad cA σ) H → va_S (fun q => B0 ≤ q) s.heap H locs → sd_has ad sl (sd_m y).2.2.1 ls → W p l e R s m args below meth c H locs cells slots Q (F0 m pc sl (st.map (sd_cv ad))) := by
  obtain ⟨hx, hb, hml, hown, hts, hK, hX, hnest, hAd⟩ := K
  intro H locs sl hP hS hl
  have h9 := sd_L_ok (r := _) h
  clear h
  obtain ⟨rfl, h⟩ := h9
  have h9 := sd_1_ok h
  clear h
  obtain ⟨x, r, rfl, h⟩ := h9
  have h9 := sd_if_ok h
  clear h
  obtain ⟨tgt, ht, rfl, rfl, rfl, ⟨hc, rfl⟩ | ⟨hc, rfl⟩⟩ := h9
  · exact lv_if_gt hx hb hd ht (fun _ => k H locs sl hP hS hl) (fun q => absurd hc q)
  · exact lv_if_gt hx hb hd ht (fun q => absurd q hc) (fun _ => k H locs sl hP hS hl)
theorem sd_n_icmp_gt {off : Int} (K : sd_Ctx p s m args c E ad B0 D cA y) (hf : 1 ≤ R.frames ∧ 40 ≤ R.locals ∧ cells ≤ R.cells ∧ slots ≤ R.slots) (hd : decode (sd_m y).2.1 pc = .ok (.if_icmp .gt off, len)) (h : sd_ins E (sd_m y).2.2.2.2.1 (sd_m y).2.2.2.1 (.if_icmp .gt off) len pc ls st σ = some (.inl (pc', ls', st', σ'))) (k : ∀ (H : Heap) (locs : List Loc) (sl : Array Slot), va_P D sd_cl (sd_wld E ad cA σ') H → va_S (fun q => B0 ≤ q) s.heap H locs → sd_has ad sl (sd_m y).2.2.1 ls' → W p l e R s m args below meth c H locs cells slots Q (F0 m pc' sl (st'.map (sd_cv ad)))) : ∀ (H : Heap) (locs : List Loc) (sl : Array Slot), va_P D sd_cl (sd_wld E ad cA σ) H → va_S (fun q => B0 ≤ q) s.heap H locs → sd_has ad sl (sd_m y).2.2.1 ls → W p l e R s m args below meth c H locs cells slots Q (F0 m pc sl (st.map (sd_cv ad))) := by
  obtain ⟨hx, hb, hml, hown, hts, hK, hX, hnest, hAd⟩ := K
  intro H locs sl hP hS hl
  have h9 := sd_L_ok (r := _) h
  clear h
  obtain ⟨rfl, h⟩ := h9
  have h9 := sd_2_ok h
  clear h
  obtain ⟨x, z, r, rfl, h⟩ := h9
  have h9 := sd_if_ok h
  clear h
  obtain ⟨tgt, ht, rfl, rfl, rfl, ⟨hc, rfl⟩ | ⟨hc, rfl⟩⟩ := h9
  · exact lv_icmp_gt hx hb hd ht (fun _ => k H locs sl hP hS hl) (fun q => absurd hc q)
  · exact lv_icmp_gt hx hb hd ht (fun q => absurd q hc) (fun _ => k H locs sl hP hS hl)
theorem sd_n_if_le {off : Int} (K : sd_Ctx p s m args c E ad B0 D cA y) (hf : 1 ≤ R.frames ∧ 40 ≤ R.locals ∧ cells ≤ R.cells ∧ slots ≤ R.slots) (hd : decode (sd_m y).2.1 pc = .ok (.ifCond .le off, len)) (h : sd_ins E (sd_m y).2.2.2.2.1 (sd_m y).2.2.2.1 (.ifCond .le off) len pc ls st σ = some (.inl (pc', ls', st', σ'))) (k : ∀ (H : Heap) (locs : List Loc) (sl : Array Slot), va_P D sd_cl (sd_wld E ad cA σ') H → va_S (fun q => B0 ≤ q) s.heap H locs → sd_has ad sl (sd_m y).2.2.1 ls' → W p l e R s m args below meth c H locs cells slots Q (F0 m pc' sl (st'.map (sd_cv ad)))) : ∀ (H : Heap) (locs : List Loc) (sl : Array Slot), va_P D sd_cl (sd_wld E ad cA σ) H → va_S (fun q => B0 ≤ q) s.heap H locs → sd_has ad sl (sd_m y).2.2.1 ls → W p l e R s m args below meth c H locs cells slots Q (F0 m pc sl (st.map (sd_cv ad))) := by
  obtain ⟨hx, hb, hml, hown, hts, hK, hX, hnest, hAd⟩ := K
  intro H locs sl hP hS hl
  have h9 := sd_L_ok (r := _) h
  clear h
  obtain ⟨rfl, h⟩ := h9
  have h9 := sd_1_ok h
  clear h
  obtain ⟨x, r, rfl, h⟩ := h9
  have h9 := sd_if_ok h
  clear h
  obtain ⟨tgt, ht, rfl, rfl, rfl, ⟨hc, rfl⟩ | ⟨hc, rfl⟩⟩ := h9
  · exact lv_if_le hx hb hd ht (fun _ => k H locs sl hP hS hl) (fun q => absurd hc q)
  · exact lv_if_le hx hb hd ht (fun q => absurd q hc) (fun _ => k H locs sl hP hS hl)
theorem sd_n_icmp_le {off : Int} (K : sd_Ctx p s m args c E ad B0 D cA y) (hf : 1 ≤ R.frames ∧ 40 ≤ R.locals ∧ cells ≤ R.cells ∧ slots ≤ R.slots) (hd : decode (sd_m y).2.1 pc = .ok (.if_icmp .le off, len)) (h : sd_ins E (sd_m y).2.2.2.2.1 (sd_m y).2.2.2.1 (.if_icmp .le off) len pc ls st σ = some (.inl (pc', ls', st', σ'))) (k : ∀ (H : Heap) (locs : List Loc) (sl : Array Slot), va_P D sd_cl (sd_wld E ad cA σ') H → va_S (fun q => B0 ≤ q) s.heap H locs → sd_has ad sl (sd_m y).2.2.1 ls' → W p l e R s m args below meth c H locs cells slots Q (F0 m pc' sl (st'.map (sd_cv ad)))) : ∀ (H : Heap) (locs : List Loc) (sl : Array Slot), va_P D sd_cl (sd_wld E ad cA σ) H → va_S (fun q => B0 ≤ q) s.heap H locs → sd_has ad sl (sd_m y).2.2.1 ls → W p l e R s m args below meth c H locs cells slots Q (F0 m pc sl (st.map (sd_cv ad))) := by
  obtain ⟨hx, hb, hml, hown, hts, hK, hX, hnest, hAd⟩ := K
  intro H locs sl hP hS hl
  have h9 := sd_L_ok (r := _) h
  clear h
  obtain ⟨rfl, h⟩ := h9
  have h9 := sd_2_ok h
  clear h
  obtain ⟨x, z, r, rfl, h⟩ := h9
  have h9 := sd_if_ok h
  clear h
  obtain ⟨tgt, ht, rfl, rfl, rfl, ⟨hc, rfl⟩ | ⟨hc, rfl⟩⟩ := h9
  · exact lv_icmp_le hx hb hd ht (fun _ => k H locs sl hP hS hl) (fun q => absurd hc q)
  · exact lv_icmp_le hx hb hd ht (fun q => absurd q hc) (fun _ => k H locs sl hP hS hl)
theorem sd_n_tableswitch {dflt lo hi : Int} {offs : Array Int} (K : sd_Ctx p s m args c E ad B0 D cA y) (hf : 1 ≤ R.frames ∧ 40 ≤ R.locals ∧ cells ≤ R.cells ∧ slots ≤ R.slots) (hd : decode (sd_m y).2.1 pc = .ok (.tableswitch dflt lo hi offs, len)) (h : sd_ins E (sd_m y).2.2.2.2.1 (sd_m y).2.2.2.1 (.tableswitch dflt lo hi offs) len pc ls st σ = some (.inl (pc', ls', st', σ'))) (k : ∀ (H : Heap) (locs : List Loc) (sl : Array Slot), va_P D sd_cl (sd_wld E ad cA σ') H → va_S (fun q => B0 ≤ q) s.heap H locs → sd_has ad sl (sd_m y).2.2.1 ls' → W p l e R s m args below meth c H locs cells slots Q (F0 m pc' sl (st'.map (sd_cv ad)))) : ∀ (H : Heap) (locs : List Loc) (sl : Array Slot), va_P D sd_cl (sd_wld E ad cA σ) H → va_S (fun q => B0 ≤ q) s.heap H locs → sd_has ad sl (sd_m y).2.2.1 ls → W p l e R s m args below meth c H locs cells slots Q (F0 m pc sl (st.map (sd_cv ad))) := by
  obtain ⟨hx, hb, hml, hown, hts, hK, hX, hnest, hAd⟩ := K
  intro H locs sl hP hS hl
  have h9 := sd_1_ok (st := st) h
  clear h
  obtain ⟨x, r, rfl, h⟩ := h9
  split at h
  · rename_i hc
    have h9 := sd_jmp_ok h
    clear h
    obtain ⟨ht, rfl, rfl, rfl⟩ := h9
    exact lv_tableOut hx hb hd hc ht (k H locs sl hP hS hl)
  · rename_i hc
    split at h
    · rename_i off ho
      have h9 := sd_jmp_ok h
      clear h
      obtain ⟨ht, rfl, rfl, rfl⟩ := h9
      exact lv_tableIn hx hb hd (fun q => hc (Or.inl q)) (fun q => hc (Or.inr q)) ho ht (k H locs sl hP hS hl)
    · cases h
theorem sd_n_getfield {n : Nat} (K : sd_Ctx p s m args c E ad B0 D cA y) (hf : 1 ≤ R.frames ∧ 40 ≤ R.locals ∧ cells ≤ R.cells ∧ slots ≤ R.slots) (hd : decode (sd_m y).2.1 pc = .ok (.getfield n, len)) (h : sd_ins E (sd_m y).2.2.2.2.1 (sd_m y).2.2.2.1 (.getfield n) len pc ls st σ = some (.inl (pc', ls', st', σ'))) (k : ∀ (H : Heap) (locs : List Loc) (sl : Array Slot), va_P D sd_cl (sd_wld E ad cA σ') H → va_S (fun q => B0 ≤ q) s.heap H locs → sd_has ad sl (sd_m y).2.2.1 ls' → W p l e R s m args below meth c H locs cells slots Q (F0 m pc' sl (st'.map (sd_cv ad)))) : ∀ (H : Heap) (locs : List Loc) (sl : Array Slot), va_P D sd_cl (sd_wld E ad cA σ) H → va_S (fun q => B0 ≤ q) s.heap H locs → sd_has ad sl (sd_m y).2.2.1 ls → W p l e R s m args below meth c H locs cells slots Q (F0 m pc sl (st.map (sd_cv ad))) := by
  obtain ⟨hx, hb, hml, hown, hts, hK, hX, hnest, hAd⟩ := K
  intro H locs sl hP hS hl
  have h9 := sd_L_ok (r := _) h
  clear h
  obtain ⟨rfl, h⟩ := h9
  have h9 := sd_r1_ok h
  clear h
  obtain ⟨a, r, rfl, h⟩ := h9
  cases hc : sd_fl (sd_m y).2.2.2.2.1 n with
  | none =>
    rw [hc] at h
    cases hq : sd_sf (sd_m y).2.2.2.2.1 n with
    | none => rw [hq] at h; cases h
    | some q =>
      obtain ⟨t, z⟩ := q
      rw [hq] at h
      replace h : (if 410 ≤ a ∧ a < 419 then sd_nx (pc + 3) ls ((if t = 0 then .ref (a + 20) else .int 0) :: r) σ else none) = some (.inl (pc', ls', st', σ')) := h
      by_cases ha : 410 ≤ a ∧ a < 419
      · rw [if_pos ha] at h
        cases h
        have h5 := sd_X5 hX ha
        rcases sd_sfW hq with ⟨rfl, hw⟩ | ⟨rfl, hw⟩
        · exact vk_getf hx hb h5.2 hS hown (hts _ hw) (fun _ q => q) hd (k H locs sl hP hS hl)
        · exact vk_getf hx hb h5.1 hS hown (hts _ hw) (fun _ q => q) hd (k H locs sl hP hS hl)
      · rw [if_neg ha] at h
        cases h
  | some q =>
    obtain ⟨ci, f, z⟩ := q
    rw [hc] at h
    replace h : (if sd_sh a = .inl ci then sd_nx (pc + 3) ls (sd_val E σ a ci f :: r) σ else none) = some (.inl (pc', ls', st', σ')) := h
    split at h
    · rename_i hsh
      cases h
      obtain ⟨h1, h2, h3⟩ := sd_flW hc
      have hlt := sd_sh_lt hsh (fun q => by cases q)
      have he := sd_wld_get (E := E) (ad := ad) (cA := cA) (σ := σ) hlt
      rw [show sd_cell E ad cA σ a = .inr (ci, (List.range (sd_C ci).2.2).map (fun i => sd_cv ad (sd_val E σ a ci i))) by unfold sd_cell; rw [hsh] <;> rfl] at he
      exact va_get hx hb hts (fun w hw => sd_inCl h1 w hw) hown hK hP a he (sd_clok ci h1) f h2 (hts _ h3) (fun _ q => q) (by rw [List.getElem?_map, List.getElem?_range h2]; rfl) hd (k H locs sl hP hS hl)
    · cases h
theorem sd_n_getstatic {n : Nat} (K : sd_Ctx p s m args c E ad B0 D cA y) (hf : 1 ≤ R.frames ∧ 40 ≤ R.locals ∧ cells ≤ R.cells ∧ slots ≤ R.slots) (hd : decode (sd_m y).2.1 pc = .ok (.getstatic n, len)) (h : sd_ins E (sd_m y).2.2.2.2.1 (sd_m y).2.2.2.1 (.getstatic n) len pc ls st σ = some (.inl (pc', ls', st', σ'))) (k : ∀ (H : Heap) (locs : List Loc) (sl : Array Slot), va_P D sd_cl (sd_wld E ad cA σ') H → va_S (fun q => B0 ≤ q) s.heap H locs → sd_has ad sl (sd_m y).2.2.1 ls' → W p l e R s m args below meth c H locs cells slots Q (F0 m pc' sl (st'.map (sd_cv ad)))) : ∀ (H : Heap) (locs : List Loc) (sl : Array Slot), va_P D sd_cl (sd_wld E ad cA σ) H → va_S (fun q => B0 ≤ q) s.heap H locs → sd_has ad sl (sd_m y).2.2.1 ls → W p l e R s m args below meth c H locs cells slots Q (F0 m pc sl (st.map (sd_cv ad))) := by
  obtain ⟨hx, hb, hml, hown, hts, hK, hX, hnest, hAd⟩ := K
  intro H locs sl hP hS hl
  have h9 := sd_L_ok (r := _) h
  clear h
  obtain ⟨rfl, h⟩ := h9
  cases hc : sd_gs (sd_m y).2.2.2.2.1 n with
  | none => rw [hc] at h; cases h
  | some q =>
    obtain ⟨t, z⟩ := q
    rw [hc] at h
    cases h
    have hw := hts _ (sd_gsW hc)
    have hk := k H locs sl hP hS hl
    by_cases h4 : t < 4
    · rw [if_pos h4] at hk
      exact va_gets hx hb (hX.2.1 t h4) hS hown hw (fun _ q => q) hd hk
    · rw [if_neg h4] at hk
      by_cases h5 : t = 4
      · subst h5
        rw [if_pos rfl] at hk
        exact va_gets hx hb hX.2.2.1 hS hown hw (fun _ q => q) hd hk
      · rw [if_neg h5] at hk
        rw [List.map_cons, sd_cv_rf] at hk
        have e : sd_gsN t = sd_gsN 5 := by
          rcases t with _ | _ | _ | _ | _ | t
          · exact absurd (by omega) h4
          · exact absurd (by omega) h4
          · exact absurd (by omega) h4
          · exact absurd (by omega) h4
          · exact absurd rfl h5
          · rfl
        rw [e] at hw
        exact va_gets hx hb hX.2.2.2.1 hS hown hw (fun _ q => q) hd hk
theorem sd_n_putfield {n : Nat} (K : sd_Ctx p s m args c E ad B0 D cA y) (hf : 1 ≤ R.frames ∧ 40 ≤ R.locals ∧ cells ≤ R.cells ∧ slots ≤ R.slots) (hd : decode (sd_m y).2.1 pc = .ok (.putfield n, len)) (h : sd_ins E (sd_m y).2.2.2.2.1 (sd_m y).2.2.2.1 (.putfield n) len pc ls st σ = some (.inl (pc', ls', st', σ'))) (k : ∀ (H : Heap) (locs : List Loc) (sl : Array Slot), va_P D sd_cl (sd_wld E ad cA σ') H → va_S (fun q => B0 ≤ q) s.heap H locs → sd_has ad sl (sd_m y).2.2.1 ls' → W p l e R s m args below meth c H locs cells slots Q (F0 m pc' sl (st'.map (sd_cv ad)))) : ∀ (H : Heap) (locs : List Loc) (sl : Array Slot), va_P D sd_cl (sd_wld E ad cA σ) H → va_S (fun q => B0 ≤ q) s.heap H locs → sd_has ad sl (sd_m y).2.2.1 ls → W p l e R s m args below meth c H locs cells slots Q (F0 m pc sl (st.map (sd_cv ad))) := by
  obtain ⟨hx, hb, hml, hown, hts, hK, hX, hnest, hAd⟩ := K
  intro H locs sl hP hS hl
  have h9 := sd_L_ok (r := _) h
  clear h
  obtain ⟨rfl, h⟩ := h9
  split at h
  · rename_i v a r
    cases hc : sd_fl (sd_m y).2.2.2.2.1 n with
    | none => rw [hc] at h; cases h
    | some q =>
      obtain ⟨ci, f, z⟩ := q
      rw [hc] at h
      replace h : (if sd_sh a = .inl ci ∧ ((sd_C ci).2.1 f).2.2.2 = false then (match sd_put1 E σ a ci f v with | some σ' => sd_nx (pc + 3) ls r σ' | none => none) else none) = some (.inl (pc', ls', st', σ')) := h
      split at h
      · rename_i hsh
        obtain ⟨hsh, hfin⟩ := hsh
        cases hp : sd_put1 E σ a ci f v with
        | none => rw [hp] at h; cases h
        | some σ2 =>
          rw [hp] at h
          cases h
          obtain ⟨h1, h2, h3⟩ := sd_flW hc
          have hlt := sd_sh_lt hsh (fun q => by cases q)
          have he := sd_wld_get (E := E) (ad := ad) (cA := cA) (σ := σ) hlt
          rw [show sd_cell E ad cA σ a = .inr (ci, (List.range (sd_C ci).2.2).map (fun i => sd_cv ad (sd_val E σ a ci i))) by unfold sd_cell; rw [hsh] <;> rfl] at he
          obtain ⟨g1, g2, g3, g4⟩ := sd_put1_ok (ad := ad) hp h1 h2
          refine va_put hx hb hts (fun w hw => sd_inCl h1 w hw) (sd_ty ci) (sd_tyok ci h1) (sd_nm ci h1) hown hK hP (sd_D hAd) hS a he (sd_clok ci h1) f h2 (hts _ h3) (fun _ q => q) hfin (sd_tyok ci h1 f h2) g1 g2 (by simpa using h2) hd (fun H1 locs1 p1 _ p3 => ?_)
          refine k H1 locs1 sl ?_ p3 hl
          rw [← sd_wld_set (k := a) g3 (e := .inr (ci, ((List.range (sd_C ci).2.2).map (fun i => sd_cv ad (sd_val E σ a ci i))).set f (sd_cv ad v))) (by
            unfold sd_cell
            rw [hsh]
            exact congrArg (fun l => Sum.inr (ci, l)) (sd_range_set (g := fun i => sd_cv ad (sd_val E σ a ci i)) (g' := fun i => sd_cv ad (sd_val E σ' a ci i)) g4))]
          exact p1
      · cases h
  · cases h
theorem sd_n_iaload (K : sd_Ctx p s m args c E ad B0 D cA y) (hf : 1 ≤ R.frames ∧ 40 ≤ R.locals ∧ cells ≤ R.cells ∧ slots ≤ R.slots) (hd : decode (sd_m y).2.1 pc = .ok (.iaload, len)) (h : sd_ins E (sd_m y).2.2.2.2.1 (sd_m y).2.2.2.1 (.iaload) len pc ls st σ = some (.inl (pc', ls', st', σ'))) (k : ∀ (H : Heap) (locs : List Loc) (sl : Array Slot), va_P D sd_cl (sd_wld E ad cA σ') H → va_S (fun q => B0 ≤ q) s.heap H locs → sd_has ad sl (sd_m y).2.2.1 ls' → W p l e R s m args below meth c H locs cells slots Q (F0 m pc' sl (st'.map (sd_cv ad)))) : ∀ (H : Heap) (locs : List Loc) (sl : Array Slot), va_P D sd_cl (sd_wld E ad cA σ) H → va_S (fun q => B0 ≤ q) s.heap H locs → sd_has ad sl (sd_m y).2.2.1 ls → W p l e R s m args below meth c H locs cells slots Q (F0 m pc sl (st.map (sd_cv ad))) := by
  obtain ⟨hx, hb, hml, hown, hts, hK, hX, hnest, hAd⟩ := K
  intro H locs sl hP hS hl
  have h9 := sd_L_ok (r := _) h
  clear h
  obtain ⟨rfl, h⟩ := h9
  have h9 := sd_ix_ok h
  clear h
  obtain ⟨a, i, r, rfl, h⟩ := h9
  unfold sd_ld at h
  split at h
  · rename_i n hsh
    split at h
    · rename_i hin
      cases h
      have he := sd_wld_get (E := E) (ad := ad) (cA := cA) (σ := σ) (sd_sh_lt hsh (fun q => by cases q))
      rw [show sd_cell E ad cA σ a = .inl (cA 0, n, .inl (σ.1 a)) by unfold sd_cell; rw [hsh] <;> rfl] at he
      exact va_iald hx hb hK hP a 0 he rfl hin hd (k H locs sl hP hS hl)
    · cases h
  · split at h
    · rename_i n f hE
      split at h
      · rename_i hin
        cases h
        obtain ⟨cell, t1, t2, t3, t4, t5, t6, t7⟩ := hX.1 a n f hE
        have hlt : i.toNatClampNeg < n := Nat.not_le.mp fun q => hin (Or.inr q)
        exact W.iald (v := .int (f i.toNatClampNeg)) hx hb (by rw [hS.2.1 _ (Array.getElem?_eq_some_iff.mp t1).1 t7]; exact t1) t2 t3 (fun q => q.elim (fun z => hin (Or.inl z)) (fun z => absurd (Nat.le_trans t4 z) (Nat.not_le.mpr hlt))) (t6 _ hlt) rfl rfl hd (k H locs sl hP hS hl)
      · cases h
    · cases h
theorem sd_n_baload (K : sd_Ctx p s m args c E ad B0 D cA y) (hf : 1 ≤ R.frames ∧ 40 ≤ R.locals ∧ cells ≤ R.cells ∧ slots ≤ R.slots) (hd : decode (sd_m y).2.1 pc = .ok (.baload, len)) (h : sd_ins E (sd_m y).2.2.2.2.1 (sd_m y).2.2.2.1 (.baload) len pc ls st σ = some (.inl (pc', ls', st', σ'))) (k : ∀ (H : Heap) (locs : List Loc) (sl : Array Slot), va_P D sd_cl (sd_wld E ad cA σ') H → va_S (fun q => B0 ≤ q) s.heap H locs → sd_has ad sl (sd_m y).2.2.1 ls' → W p l e R s m args below meth c H locs cells slots Q (F0 m pc' sl (st'.map (sd_cv ad)))) : ∀ (H : Heap) (locs : List Loc) (sl : Array Slot), va_P D sd_cl (sd_wld E ad cA σ) H → va_S (fun q => B0 ≤ q) s.heap H locs → sd_has ad sl (sd_m y).2.2.1 ls → W p l e R s m args below meth c H locs cells slots Q (F0 m pc sl (st.map (sd_cv ad))) := by
  obtain ⟨hx, hb, hml, hown, hts, hK, hX, hnest, hAd⟩ := K
  intro H locs sl hP hS hl
  have h9 := sd_L_ok (r := _) h
  clear h
  obtain ⟨rfl, h⟩ := h9
  have h9 := sd_ix_ok h
  clear h
  obtain ⟨a, i, r, rfl, h⟩ := h9
  split at h
  · rename_i n hsh
    split at h
    · rename_i hin
      cases h
      have he := sd_wld_get (E := E) (ad := ad) (cA := cA) (σ := σ) (sd_sh_lt hsh (fun q => by cases q))
      rw [show sd_cell E ad cA σ a = .inl (cA 1, n, .inl (σ.1 a)) by unfold sd_cell; rw [hsh] <;> rfl] at he
      exact va_bald hx hb hK hP a 1 he rfl hin hd (k H locs sl hP hS hl)
    · cases h
  · split at h
    · rename_i hin
      obtain ⟨ha, hin⟩ := hin
      cases h
      have h5 := sd_X6 hX ha
      exact va_tb hx hb h5 hS hin rfl hd (k H locs sl hP hS hl)
    · cases h
theorem sd_n_laload (K : sd_Ctx p s m args c E ad B0 D cA y) (hf : 1 ≤ R.frames ∧ 40 ≤ R.locals ∧ cells ≤ R.cells ∧ slots ≤ R.slots) (hd : decode (sd_m y).2.1 pc = .ok (.laload, len)) (h : sd_ins E (sd_m y).2.2.2.2.1 (sd_m y).2.2.2.1 (.laload) len pc ls st σ = some (.inl (pc', ls', st', σ'))) (k : ∀ (H : Heap) (locs : List Loc) (sl : Array Slot), va_P D sd_cl (sd_wld E ad cA σ') H → va_S (fun q => B0 ≤ q) s.heap H locs → sd_has ad sl (sd_m y).2.2.1 ls' → W p l e R s m args below meth c H locs cells slots Q (F0 m pc' sl (st'.map (sd_cv ad)))) : ∀ (H : Heap) (locs : List Loc) (sl : Array Slot), va_P D sd_cl (sd_wld E ad cA σ) H → va_S (fun q => B0 ≤ q) s.heap H locs → sd_has ad sl (sd_m y).2.2.1 ls → W p l e R s m args below meth c H locs cells slots Q (F0 m pc sl (st.map (sd_cv ad))) := by
  obtain ⟨hx, hb, hml, hown, hts, hK, hX, hnest, hAd⟩ := K
  intro H locs sl hP hS hl
  have h9 := sd_L_ok (r := _) h
  clear h
  obtain ⟨rfl, h⟩ := h9
  have h9 := sd_ix_ok h
  clear h
  obtain ⟨a, i, r, rfl, h⟩ := h9
  split at h
  · rename_i n hsh
    split at h
    · rename_i hin
      cases h
      have he := sd_wld_get (E := E) (ad := ad) (cA := cA) (σ := σ) (sd_sh_lt hsh (fun q => by cases q))
      rw [show sd_cell E ad cA σ a = .inl (cA 2, n, .inr (.inl (σ.2.1 a))) by unfold sd_cell; rw [hsh] <;> rfl] at he
      exact va_lald hx hb hK hP a 2 he rfl hin hd (k H locs sl hP hS hl)
    · cases h
  · cases h
theorem sd_n_aaload (K : sd_Ctx p s m args c E ad B0 D cA y) (hf : 1 ≤ R.frames ∧ 40 ≤ R.locals ∧ cells ≤ R.cells ∧ slots ≤ R.slots) (hd : decode (sd_m y).2.1 pc = .ok (.aaload, len)) (h : sd_ins E (sd_m y).2.2.2.2.1 (sd_m y).2.2.2.1 (.aaload) len pc ls st σ = some (.inl (pc', ls', st', σ'))) (k : ∀ (H : Heap) (locs : List Loc) (sl : Array Slot), va_P D sd_cl (sd_wld E ad cA σ') H → va_S (fun q => B0 ≤ q) s.heap H locs → sd_has ad sl (sd_m y).2.2.1 ls' → W p l e R s m args below meth c H locs cells slots Q (F0 m pc' sl (st'.map (sd_cv ad)))) : ∀ (H : Heap) (locs : List Loc) (sl : Array Slot), va_P D sd_cl (sd_wld E ad cA σ) H → va_S (fun q => B0 ≤ q) s.heap H locs → sd_has ad sl (sd_m y).2.2.1 ls → W p l e R s m args below meth c H locs cells slots Q (F0 m pc sl (st.map (sd_cv ad))) := by
  obtain ⟨hx, hb, hml, hown, hts, hK, hX, hnest, hAd⟩ := K
  intro H locs sl hP hS hl
  have h9 := sd_L_ok (r := _) h
  clear h
  obtain ⟨rfl, h⟩ := h9
  have h9 := sd_ix_ok h
  clear h
  obtain ⟨a, i, r, rfl, h⟩ := h9
  split at h
  · rename_i n hsh
    split at h
    · rename_i hin
      cases h
      have he := sd_wld_get (E := E) (ad := ad) (cA := cA) (σ := σ) (sd_sh_lt hsh (fun q => by cases q))
      rw [show sd_cell E ad cA σ a = .inl (cA 3, n, .inr (.inr (.inr (.inr (fun i => (sd_gR E σ a i).map ad))))) by unfold sd_cell; rw [hsh] <;> rfl] at he
      have hk := k H locs sl hP hS hl
      rw [List.map_cons, sd_cv_rf] at hk
      exact va_aldq hx hb hK hP a 3 he rfl hin hd hk
    · cases h
  · rename_i n hsh
    split at h
    · rename_i hin
      cases h
      have he := sd_wld_get (E := E) (ad := ad) (cA := cA) (σ := σ) (sd_sh_lt hsh (fun q => by cases q))
      rw [show sd_cell E ad cA σ a = .inl (cA 4, n, .inr (.inr (.inr (.inr (fun i => (sd_gR E σ a i).map ad))))) by unfold sd_cell; rw [hsh] <;> rfl] at he
      have hk := k H locs sl hP hS hl
      rw [List.map_cons, sd_cv_rf] at hk
      exact sd_aald2 hx hb hK hP a 4 he rfl hin hd hk
    · cases h
  · cases h
theorem sd_n_iastore (K : sd_Ctx p s m args c E ad B0 D cA y) (hf : 1 ≤ R.frames ∧ 40 ≤ R.locals ∧ cells ≤ R.cells ∧ slots ≤ R.slots) (hd : decode (sd_m y).2.1 pc = .ok (.iastore, len)) (h : sd_ins E (sd_m y).2.2.2.2.1 (sd_m y).2.2.2.1 (.iastore) len pc ls st σ = some (.inl (pc', ls', st', σ'))) (k : ∀ (H : Heap) (locs : List Loc) (sl : Array Slot), va_P D sd_cl (sd_wld E ad cA σ') H → va_S (fun q => B0 ≤ q) s.heap H locs → sd_has ad sl (sd_m y).2.2.1 ls' → W p l e R s m args below meth c H locs cells slots Q (F0 m pc' sl (st'.map (sd_cv ad)))) : ∀ (H : Heap) (locs : List Loc) (sl : Array Slot), va_P D sd_cl (sd_wld E ad cA σ) H → va_S (fun q => B0 ≤ q) s.heap H locs → sd_has ad sl (sd_m y).2.2.1 ls → W p l e R s m args below meth c H locs cells slots Q (F0 m pc sl (st.map (sd_cv ad))) := by
  obtain ⟨hx, hb, hml, hown, hts, hK, hX, hnest, hAd⟩ := K
  intro H locs sl hP hS hl
  have h9 := sd_L_ok (r := _) h
  clear h
  obtain ⟨rfl, h⟩ := h9
  have h9 := sd_1_ok h
  clear h
  obtain ⟨v, r0, rfl, h⟩ := h9
  have h9 := sd_ix_ok h
  clear h
  obtain ⟨a, i, r, rfl, h⟩ := h9
  split at h
  · rename_i n hsh
    split at h
    · rename_i hin
      cases h
      have he := sd_wld_get (E := E) (ad := ad) (cA := cA) (σ := σ) (sd_sh_lt hsh (fun q => by cases q))
      rw [show sd_cell E ad cA σ a = .inl (cA 0, n, .inl (σ.1 a)) by unfold sd_cell; rw [hsh] <;> rfl] at he
      refine va_iast hx hb hK hP (sd_D hAd) hS a 0 he rfl hin hd (fun H1 locs1 p1 _ p3 => k H1 locs1 sl ?_ p3 hl)
      rw [← sd_wld_set (k := a) (fun j hj => sd_cellI hj) (e := .inl (cA 0, n, .inl (upd (σ.1 a) i.toNatClampNeg v))) (by unfold sd_cell; rw [hsh]; exact congrArg (fun g => Sum.inl (cA 0, n, Sum.inl g)) sd_wI_row)]
      exact p1
    · cases h
  · cases h
theorem sd_n_bastore (K : sd_Ctx p s m args c E ad B0 D cA y) (hf : 1 ≤ R.frames ∧ 40 ≤ R.locals ∧ cells ≤ R.cells ∧ slots ≤ R.slots) (hd : decode (sd_m y).2.1 pc = .ok (.bastore, len)) (h : sd_ins E (sd_m y).2.2.2.2.1 (sd_m y).2.2.2.1 (.bastore) len pc ls st σ = some (.inl (pc', ls', st', σ'))) (k : ∀ (H : Heap) (locs : List Loc) (sl : Array Slot), va_P D sd_cl (sd_wld E ad cA σ') H → va_S (fun q => B0 ≤ q) s.heap H locs → sd_has ad sl (sd_m y).2.2.1 ls' → W p l e R s m args below meth c H locs cells slots Q (F0 m pc' sl (st'.map (sd_cv ad)))) : ∀ (H : Heap) (locs : List Loc) (sl : Array Slot), va_P D sd_cl (sd_wld E ad cA σ) H → va_S (fun q => B0 ≤ q) s.heap H locs → sd_has ad sl (sd_m y).2.2.1 ls → W p l e R s m args below meth c H locs cells slots Q (F0 m pc sl (st.map (sd_cv ad))) := by
  obtain ⟨hx, hb, hml, hown, hts, hK, hX, hnest, hAd⟩ := K
  intro H locs sl hP hS hl
  have h9 := sd_L_ok (r := _) h
  clear h
  obtain ⟨rfl, h⟩ := h9
  have h9 := sd_1_ok h
  clear h
  obtain ⟨v, r0, rfl, h⟩ := h9
  have h9 := sd_ix_ok h
  clear h
  obtain ⟨a, i, r, rfl, h⟩ := h9
  split at h
  · rename_i n hsh
    split at h
    · rename_i hin
      cases h
      have he := sd_wld_get (E := E) (ad := ad) (cA := cA) (σ := σ) (sd_sh_lt hsh (fun q => by cases q))
      rw [show sd_cell E ad cA σ a = .inl (cA 1, n, .inl (σ.1 a)) by unfold sd_cell; rw [hsh] <;> rfl] at he
      refine va_bast hx hb hK hP (sd_D hAd) hS a 1 he rfl hin hd (fun H1 locs1 p1 _ p3 => k H1 locs1 sl ?_ p3 hl)
      rw [← sd_wld_set (k := a) (fun j hj => sd_cellI hj) (e := .inl (cA 1, n, .inl (upd (σ.1 a) i.toNatClampNeg (vp_nar .byte v)))) (by unfold sd_cell; rw [hsh]; exact congrArg (fun g => Sum.inl (cA 1, n, Sum.inl g)) sd_wI_row)]
      exact p1
    · cases h
  · cases h
theorem sd_n_lastore (K : sd_Ctx p s m args c E ad B0 D cA y) (hf : 1 ≤ R.frames ∧ 40 ≤ R.locals ∧ cells ≤ R.cells ∧ slots ≤ R.slots) (hd : decode (sd_m y).2.1 pc = .ok (.lastore, len)) (h : sd_ins E (sd_m y).2.2.2.2.1 (sd_m y).2.2.2.1 (.lastore) len pc ls st σ = some (.inl (pc', ls', st', σ'))) (k : ∀ (H : Heap) (locs : List Loc) (sl : Array Slot), va_P D sd_cl (sd_wld E ad cA σ') H → va_S (fun q => B0 ≤ q) s.heap H locs → sd_has ad sl (sd_m y).2.2.1 ls' → W p l e R s m args below meth c H locs cells slots Q (F0 m pc' sl (st'.map (sd_cv ad)))) : ∀ (H : Heap) (locs : List Loc) (sl : Array Slot), va_P D sd_cl (sd_wld E ad cA σ) H → va_S (fun q => B0 ≤ q) s.heap H locs → sd_has ad sl (sd_m y).2.2.1 ls → W p l e R s m args below meth c H locs cells slots Q (F0 m pc sl (st.map (sd_cv ad))) := by
  obtain ⟨hx, hb, hml, hown, hts, hK, hX, hnest, hAd⟩ := K
  intro H locs sl hP hS hl
  have h9 := sd_L_ok (r := _) h
  clear h
  obtain ⟨rfl, h⟩ := h9
  have h9 := sd_l1_ok h
  clear h
  obtain ⟨v, r0, rfl, h⟩ := h9
  have h9 := sd_ix_ok h
  clear h
  obtain ⟨a, i, r, rfl, h⟩ := h9
  split at h
  · rename_i n hsh
    split at h
    · rename_i hin
      cases h
      have he := sd_wld_get (E := E) (ad := ad) (cA := cA) (σ := σ) (sd_sh_lt hsh (fun q => by cases q))
      rw [show sd_cell E ad cA σ a = .inl (cA 2, n, .inr (.inl (σ.2.1 a))) by unfold sd_cell; rw [hsh] <;> rfl] at he
      refine va_last hx hb hK hP (sd_D hAd) hS a 2 he rfl hin hd (fun H1 locs1 p1 _ p3 => k H1 locs1 sl ?_ p3 hl)
      rw [← sd_wld_set (k := a) (fun j hj => sd_cellL hj) (e := .inl (cA 2, n, .inr (.inl (vp_updL (σ.2.1 a) i.toNatClampNeg v)))) (by unfold sd_cell; rw [hsh]; exact congrArg (fun g => Sum.inl (cA 2, n, Sum.inr (Sum.inl g))) sd_wL_row)]
      exact p1
    · cases h
  · cases h
theorem sd_n_arraylength (K : sd_Ctx p s m args c E ad B0 D cA y) (hf : 1 ≤ R.frames ∧ 40 ≤ R.locals ∧ cells ≤ R.cells ∧ slots ≤ R.slots) (hd : decode (sd_m y).2.1 pc = .ok (.arraylength, len)) (h : sd_ins E (sd_m y).2.2.2.2.1 (sd_m y).2.2.2.1 (.arraylength) len pc ls st σ = some (.inl (pc', ls', st', σ'))) (k : ∀ (H : Heap) (locs : List Loc) (sl : Array Slot), va_P D sd_cl (sd_wld E ad cA σ') H → va_S (fun q => B0 ≤ q) s.heap H locs → sd_has ad sl (sd_m y).2.2.1 ls' → W p l e R s m args below meth c H locs cells slots Q (F0 m pc' sl (st'.map (sd_cv ad)))) : ∀ (H : Heap) (locs : List Loc) (sl : Array Slot), va_P D sd_cl (sd_wld E ad cA σ) H → va_S (fun q => B0 ≤ q) s.heap H locs → sd_has ad sl (sd_m y).2.2.1 ls → W p l e R s m args below meth c H locs cells slots Q (F0 m pc sl (st.map (sd_cv ad))) := by
  obtain ⟨hx, hb, hml, hown, hts, hK, hX, hnest, hAd⟩ := K
  intro H locs sl hP hS hl
  have h9 := sd_L_ok (r := _) h
  clear h
  obtain ⟨rfl, h⟩ := h9
  have h9 := sd_r1_ok h
  clear h
  obtain ⟨a, r, rfl, h⟩ := h9
  split at h
  · rename_i n hsh
    cases h
    have he := sd_wld_get (E := E) (ad := ad) (cA := cA) (σ := σ) (sd_sh_lt hsh (fun q => by cases q))
    rw [show sd_cell E ad cA σ a = .inl (cA 0, n, .inl (σ.1 a)) by unfold sd_cell; rw [hsh] <;> rfl] at he
    exact va_alen hx hb hK hP a 0 he rfl rfl hd (k H locs sl hP hS hl)
  · split at h
    · rename_i n f hE
      cases h
      obtain ⟨cell, t1, t2, t3, t4, t5, t6, t7⟩ := hX.1 a n f hE
      exact W.alen (n := Int32.ofNat n) hx hb (by rw [hS.2.1 _ (Array.getElem?_eq_some_iff.mp t1).1 t7]; exact t1) t2 t5 rfl rfl hd (k H locs sl hP hS hl)
    · split at h
      · rename_i ha
        cases h
        have h5 := sd_X6 hX ha
        obtain ⟨cell, t1, t2, t3, t4, t5, t6, t7⟩ := h5
        exact W.alen (n := Int32.ofNat (sd_slen.getD (a - 430) 0)) hx hb (by rw [hS.2.1 _ (Array.getElem?_eq_some_iff.mp t1).1 t7]; exact t1) t2 t5 rfl rfl hd (k H locs sl hP hS hl)
      · cases h
theorem sd_n_invokestatic {n : Nat} (K : sd_Ctx p s m args c E ad B0 D cA y) (hf : 1 ≤ R.frames ∧ 40 ≤ R.locals ∧ cells ≤ R.cells ∧ slots ≤ R.slots) (hd : decode (sd_m y).2.1 pc = .ok (.invokestatic n, len)) (h : sd_ins E (sd_m y).2.2.2.2.1 (sd_m y).2.2.2.1 (.invokestatic n) len pc ls st σ = some (.inl (pc', ls', st', σ'))) (k : ∀ (H : Heap) (locs : List Loc) (sl : Array Slot), va_P D sd_cl (sd_wld E ad cA σ') H → va_S (fun q => B0 ≤ q) s.heap H locs → sd_has ad sl (sd_m y).2.2.1 ls' → W p l e R s m args below meth c H locs cells slots Q (F0 m pc' sl (st'.map (sd_cv ad)))) : ∀ (H : Heap) (locs : List Loc) (sl : Array Slot), va_P D sd_cl (sd_wld E ad cA σ) H → va_S (fun q => B0 ≤ q) s.heap H locs → sd_has ad sl (sd_m y).2.2.1 ls → W p l e R s m args below meth c H locs cells slots Q (F0 m pc sl (st.map (sd_cv ad))) := by
  obtain ⟨hx, hb, hml, hown, hts, hK, hX, hnest, hAd⟩ := K
  intro H locs sl hP hS hl
  have h9 := sd_L_ok (r := _) h
  clear h
  obtain ⟨rfl, h⟩ := h9
  cases hc : sd_ac (sd_m y).2.2.2.2.1 n with
  | some q =>
    rw [hc] at h
    replace h : sd_cpy E σ (pc + 3) ls st = some (.inl (pc', ls', st', σ')) := h
    unfold sd_cpy at h
    split at h
    · rename_i n9 dp a sp a0 r
      split at h
      · rename_i n0 n1 hs0 hs1
        split at h
        · rename_i hh
          obtain ⟨g1, g2, g3, g4, g5, g6⟩ := hh
          cases h
          have he0 := sd_wld_get (E := E) (ad := ad) (cA := cA) (σ := σ) (sd_sh_lt hs0 (fun q => by cases q))
          have he1 := sd_wld_get (E := E) (ad := ad) (cA := cA) (σ := σ) (sd_sh_lt hs1 (fun q => by cases q))
          rw [show sd_cell E ad cA σ a0 = .inl (cA 0, n0, .inl (σ.1 a0)) by unfold sd_cell; rw [hs0] <;> rfl] at he0
          rw [show sd_cell E ad cA σ a = .inl (cA 0, n1, .inl (σ.1 a)) by unfold sd_cell; rw [hs1] <;> rfl] at he1
          refine va_copyi hx hb (hml.trans hl.1.1.symm) hown (hts _ (sd_acW hc)) (hts _ sd_acN) (hts _ sd_acS) (hts _ sd_acI) hK hP (sd_D hAd) hS a0 a 0 0 he0 he1 rfl rfl rfl g1 g2 g3 g4 g5 (fun _ _ => rfl) hf.1 (by rw [sd_cv_sum]; have := sd_nfw; omega) hd (fun H1 locs1 p1 _ p3 => k H1 locs1 sl ?_ p3 hl)
          rw [← sd_wld_set (k := a) (fun j hj => sd_cellA hj) (e := .inl (cA 0, n1, .inl (va_cpy (σ.1 a0) (σ.1 a) sp.toNatClampNeg dp.toNatClampNeg n9.toNatClampNeg))) (by unfold sd_cell; rw [hs1]; exact congrArg (fun g => Sum.inl (cA 0, n1, Sum.inl g)) sd_wA_row)]
          exact p1
        · cases h
      · rename_i n1 hs1 hs0
        split at h
        · rename_i n0 f hE
          split at h
          · rename_i hh
            obtain ⟨g1, g2, g3, g4, g5, g6⟩ := hh
            cases h
            have he1 := sd_wld_get (E := E) (ad := ad) (cA := cA) (σ := σ) (sd_sh_lt hs1 (fun q => by cases q))
            rw [show sd_cell E ad cA σ a = .inl (cA 0, n1, .inl (σ.1 a)) by unfold sd_cell; rw [hs1] <;> rfl] at he1
            refine sd_copyT hx hb (hml.trans hl.1.1.symm) hown (hts _ (sd_acW hc)) (hts _ sd_acN) (hts _ sd_acS) (hts _ sd_acI) hK hP (sd_D hAd) hS (hX.1 a0 n0 f hE) a 0 he1 rfl g1 g2 g3 g4 g5 hf.1 (by rw [sd_cv_sum]; have := sd_nfw; omega) hd (fun H1 locs1 p1 p3 => k H1 locs1 sl ?_ p3 hl)
            rw [← sd_wld_set (k := a) (fun j hj => sd_cellA hj) (e := .inl (cA 0, n1, .inl (va_cpy f (σ.1 a) sp.toNatClampNeg dp.toNatClampNeg n9.toNatClampNeg))) (by unfold sd_cell; rw [hs1]; exact congrArg (fun g => Sum.inl (cA 0, n1, Sum.inl g)) sd_wA_row)]
            exact p1
          · cases h
        · cases h
      · cases h
    · cases h
  | none =>
    rw [hc] at h
    cases hm : sd_mt (sd_m y).2.2.2.2.1 n with
    | some q =>
      obtain ⟨t, z⟩ := q
      rw [hm] at h
      replace h : sd_mth t (pc + 3) ls st σ = some (.inl (pc', ls', st', σ')) := h
      have hw := hts _ (sd_mtW hm)
      unfold sd_mth at h
      split at h
      · have h9 := sd_2_ok h
        clear h
        obtain ⟨x, z, r, rfl, h⟩ := h9
        split at h
        · rename_i hr
          cases h
          exact va_mmax hx hb (hml.trans hl.1.1.symm) hown hw (hts _ sd_mS0) (hts _ sd_mI) (hts _ sd_mC0) hf.1 (by rw [sd_cv_sum]; omega) hf.2.2.1 hf.2.2.2 hd (k H locs sl hP hS hl)
        · cases h
      · have h9 := sd_2_ok h
        clear h
        obtain ⟨x, z, r, rfl, h⟩ := h9
        split at h
        · rename_i hr
          cases h
          exact va_mmin hx hb (hml.trans hl.1.1.symm) hown hw (hts _ sd_mS1) (hts _ sd_mI) (hts _ sd_mC1) hf.1 (by rw [sd_cv_sum]; omega) hf.2.2.1 hf.2.2.2 hd (k H locs sl hP hS hl)
        · cases h
      · have h9 := sd_1_ok h
        clear h
        obtain ⟨x, r, rfl, h⟩ := h9
        split at h
        · rename_i hr
          cases h
          exact va_mabs hx hb (hml.trans hl.1.1.symm) hown hw (hts _ sd_mS2) (hts _ sd_mI) (hts _ sd_mC2) hf.1 (by rw [sd_cv_sum]; omega) hf.2.2.1 hf.2.2.2 hd (k H locs sl hP hS hl)
        · cases h
      · have h9 := sd_l2_ok h
        clear h
        obtain ⟨x, z, r, rfl, h⟩ := h9
        split at h
        · rename_i hr
          cases h
          exact va_mmax_long hx hb (hml.trans hl.1.1.symm) hown hw (hts _ sd_mS3) (hts _ sd_mI) (hts _ sd_mC3) hf.1 (by rw [sd_cv_sum]; omega) hf.2.2.1 hf.2.2.2 hd (k H locs sl hP hS hl)
        · cases h
      · have h9 := sd_l2_ok h
        clear h
        obtain ⟨x, z, r, rfl, h⟩ := h9
        split at h
        · rename_i hr
          cases h
          exact va_mmin_long hx hb (hml.trans hl.1.1.symm) hown hw (hts _ sd_mS4) (hts _ sd_mI) (hts _ sd_mC4) hf.1 (by rw [sd_cv_sum]; omega) hf.2.2.1 hf.2.2.2 hd (k H locs sl hP hS hl)
        · cases h
      · cases h
    | none =>
      rw [hm] at h
      exfalso
      revert h
      cases sd_lk (sd_m y).2.2.2.2.1 n with
      | none => intro h; cases h
      | some q =>
        obtain ⟨y2, t, z⟩ := q
        match t with
        | 0 => intro h; cases h
        | 1 =>
          intro h
          replace h : (if (sd_m y2).2.2.2.2.2.1 ≤ st.length ∧ sd_cat (st.drop (sd_m y2).2.2.2.2.2.1) ≤ 8 then some (.inr (.inl (y2, (st.take (sd_m y2).2.2.2.2.2.1).reverse, st.drop (sd_m y2).2.2.2.2.2.1))) else none : sd_O) = some (.inl (pc', ls', st', σ')) := h
          split at h
          · cases h
          · cases h
        | t + 2 => intro h; cases h
end SDN
