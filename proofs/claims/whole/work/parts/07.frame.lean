/-! a frame, a call, a method: the pure machine is sound -/
section SDM
variable {p : Program} {l : Launch} {e : Env} {R : Room} {s : State} {m : MethodId} {args : Array Value} {below : List Frame} {meth : Method} {c : Code} {cells slots : Nat} {Q : State → Prop}
variable {E : sd_E} {ad : Nat → Nat} {B0 : Nat} {D : va_G} {cA : Nat → ClassId} {y : Nat} {pc : Nat} {ls st : List Value} {σ : sd_Mem} {pc' : Nat} {ls' st' : List Value} {σ' : sd_Mem} {len : Nat}
theorem sd_no_iv {n : Nat} {z : sd_St} (h : sd_ins E (sd_m y).2.2.2.2.1 (sd_m y).2.2.2.1 (.invokevirtual n) len pc ls st σ = some (.inl z)) : False := by
  have h9 := sd_L_ok (r := _) h
  clear h
  obtain ⟨-, h⟩ := h9
  split at h
  · split at h
    · split at h <;> cases h
    · cases h
  · cases h
theorem sd_no_ret {z : sd_St} (h : sd_ins E (sd_m y).2.2.2.2.1 (sd_m y).2.2.2.1 .ireturn len pc ls st σ = some (.inl z)) : False := by
  have h9 := sd_L_ok (r := _) h
  clear h
  obtain ⟨-, h⟩ := h9
  split at h
  · cases h
  · split at h <;> cases h
  · split at h <;> cases h
  · split at h <;> cases h
  · cases h
theorem sd_no_aret {z : sd_St} (h : sd_ins E (sd_m y).2.2.2.2.1 (sd_m y).2.2.2.1 .areturn len pc ls st σ = some (.inl z)) : False := by
  have h9 := sd_L_ok (r := _) h
  clear h
  obtain ⟨-, h⟩ := h9
  split at h <;> cases h
theorem sd_no_lret {z : sd_St} (h : sd_ins E (sd_m y).2.2.2.2.1 (sd_m y).2.2.2.1 .lreturn len pc ls st σ = some (.inl z)) : False := by
  have h9 := sd_L_ok (r := _) h
  clear h
  obtain ⟨-, h⟩ := h9
  split at h <;> cases h
theorem sd_no_vret {z : sd_St} (h : sd_ins E (sd_m y).2.2.2.2.1 (sd_m y).2.2.2.1 .return_ len pc ls st σ = some (.inl z)) : False := by
  have h9 := sd_L_ok (r := _) h
  clear h
  obtain ⟨-, h⟩ := h9
  split at h <;> cases h
set_option maxHeartbeats 4000000 in
theorem sd_next (K : sd_Ctx p s m args c E ad B0 D cA y) (hf : 1 ≤ R.frames ∧ 40 ≤ R.locals ∧ cells ≤ R.cells ∧ slots ≤ R.slots) (h : sd_step E y pc ls st σ = some (.inl (pc', ls', st', σ'))) (k : ∀ (H : Heap) (locs : List Loc) (sl : Array Slot), va_P D sd_cl (sd_wld E ad cA σ') H → va_S (fun q => B0 ≤ q) s.heap H locs → sd_has ad sl (sd_m y).2.2.1 ls' → W p l e R s m args below meth c H locs cells slots Q (F0 m pc' sl (st'.map (sd_cv ad)))) : ∀ (H : Heap) (locs : List Loc) (sl : Array Slot), va_P D sd_cl (sd_wld E ad cA σ) H → va_S (fun q => B0 ≤ q) s.heap H locs → sd_has ad sl (sd_m y).2.2.1 ls → W p l e R s m args below meth c H locs cells slots Q (F0 m pc sl (st.map (sd_cv ad))) := by
  unfold sd_step at h
  cases hd : decode (sd_m y).2.1 pc with
  | error z => rw [hd] at h; cases h
  | ok q =>
    obtain ⟨i, len⟩ := q
    rw [hd] at h
    replace h : sd_ins E (sd_m y).2.2.2.2.1 (sd_m y).2.2.2.1 i len pc ls st σ = some (.inl (pc', ls', st', σ')) := h
    cases i
    case iconst => exact sd_n_iconst K hf hd h k
    case bipush => exact sd_n_bipush K hf hd h k
    case sipush => exact sd_n_sipush K hf hd h k
    case lconst => exact sd_n_lconst K hf hd h k
    case ldc => exact sd_n_ldc K hf hd h k
    case ldc_w => exact sd_n_ldc_w K hf hd h k
    case ldc2_w => exact sd_n_ldc2_w K hf hd h k
    case iload_n => exact sd_n_iload_n K hf hd h k
    case iload => exact sd_n_iload K hf hd h k
    case lload_n => exact sd_n_lload_n K hf hd h k
    case lload => exact sd_n_lload K hf hd h k
    case aload_n => exact sd_n_aload_n K hf hd h k
    case aload => exact sd_n_aload K hf hd h k
    case istore_n => exact sd_n_istore_n K hf hd h k
    case istore => exact sd_n_istore K hf hd h k
    case astore_n => exact sd_n_astore_n K hf hd h k
    case astore => exact sd_n_astore K hf hd h k
    case lstore_n => exact sd_n_lstore_n K hf hd h k
    case lstore => exact sd_n_lstore K hf hd h k
    case iinc => exact sd_n_iinc K hf hd h k
    case iadd => exact sd_n_iadd K hf hd h k
    case isub => exact sd_n_isub K hf hd h k
    case imul => exact sd_n_imul K hf hd h k
    case iand => exact sd_n_iand K hf hd h k
    case ior => exact sd_n_ior K hf hd h k
    case ixor => exact sd_n_ixor K hf hd h k
    case ishl => exact sd_n_ishl K hf hd h k
    case ishr => exact sd_n_ishr K hf hd h k
    case iushr => exact sd_n_iushr K hf hd h k
    case idiv => exact sd_n_idiv K hf hd h k
    case irem => exact sd_n_irem K hf hd h k
    case ldiv => exact sd_n_ldiv K hf hd h k
    case lrem => exact sd_n_lrem K hf hd h k
    case ladd => exact sd_n_ladd K hf hd h k
    case lsub => exact sd_n_lsub K hf hd h k
    case lmul => exact sd_n_lmul K hf hd h k
    case land => exact sd_n_land K hf hd h k
    case lor => exact sd_n_lor K hf hd h k
    case lcmp => exact sd_n_lcmp K hf hd h k
    case lushr => exact sd_n_lushr K hf hd h k
    case lshl => exact sd_n_lshl K hf hd h k
    case ineg => exact sd_n_ineg K hf hd h k
    case i2l => exact sd_n_i2l K hf hd h k
    case i2b => exact sd_n_i2b K hf hd h k
    case i2c => exact sd_n_i2c K hf hd h k
    case l2i => exact sd_n_l2i K hf hd h k
    case dup => exact sd_n_dup K hf hd h k
    case pop => exact sd_n_pop K hf hd h k
    case dup2 => exact sd_n_dup2 K hf hd h k
    case goto => exact sd_n_goto K hf hd h k
    case tableswitch => exact sd_n_tableswitch K hf hd h k
    case getfield => exact sd_n_getfield K hf hd h k
    case getstatic => exact sd_n_getstatic K hf hd h k
    case putfield => exact sd_n_putfield K hf hd h k
    case iaload => exact sd_n_iaload K hf hd h k
    case baload => exact sd_n_baload K hf hd h k
    case laload => exact sd_n_laload K hf hd h k
    case aaload => exact sd_n_aaload K hf hd h k
    case iastore => exact sd_n_iastore K hf hd h k
    case bastore => exact sd_n_bastore K hf hd h k
    case lastore => exact sd_n_lastore K hf hd h k
    case arraylength => exact sd_n_arraylength K hf hd h k
    case invokestatic => exact sd_n_invokestatic K hf hd h k
    case ifCond cnd off =>
      cases cnd
      case eq => exact sd_n_if_eq K hf hd h k
      case ne => exact sd_n_if_ne K hf hd h k
      case lt => exact sd_n_if_lt K hf hd h k
      case ge => exact sd_n_if_ge K hf hd h k
      case gt => exact sd_n_if_gt K hf hd h k
      case le => exact sd_n_if_le K hf hd h k
    case if_icmp cnd off =>
      cases cnd
      case eq => exact sd_n_icmp_eq K hf hd h k
      case ne => exact sd_n_icmp_ne K hf hd h k
      case lt => exact sd_n_icmp_lt K hf hd h k
      case ge => exact sd_n_icmp_ge K hf hd h k
      case gt => exact sd_n_icmp_gt K hf hd h k
      case le => exact sd_n_icmp_le K hf hd h k
    case invokevirtual => exact (sd_no_iv h).elim
    case ireturn => exact (sd_no_ret h).elim
    case lreturn => exact (sd_no_lret h).elim
    case areturn => exact (sd_no_aret h).elim
    case return_ => exact (sd_no_vret h).elim
    all_goals exact absurd (show (none : sd_O) = some _ from h) (fun q => by cases q)
theorem sd_no_cpy {pc0 : Nat} {q : (Nat × List Value × List Value) ⊕ Option Value} (h : sd_cpy E σ pc0 ls st = some (.inr q)) : False := by
  unfold sd_cpy at h
  split at h
  · split at h
    · split at h <;> cases h
    · split at h
      · split at h <;> cases h
      · cases h
    · cases h
  · cases h
theorem sd_no_mth {t pc0 : Nat} {q : (Nat × List Value × List Value) ⊕ Option Value} (h : sd_mth t pc0 ls st σ = some (.inr q)) : False := by
  unfold sd_mth at h
  split at h
  · obtain ⟨x, z, r, rfl, h2⟩ := sd_2_ok h
    split at h2 <;> cases h2
  · obtain ⟨x, z, r, rfl, h2⟩ := sd_2_ok h
    split at h2 <;> cases h2
  · obtain ⟨x, r, rfl, h2⟩ := sd_1_ok h
    split at h2 <;> cases h2
  · obtain ⟨x, z, r, rfl, h2⟩ := sd_l2_ok h
    split at h2 <;> cases h2
  · obtain ⟨x, z, r, rfl, h2⟩ := sd_l2_ok h
    split at h2 <;> cases h2
  · cases h
/-- an answer that isn't the next instruction comes of five instructions alone -/
def sd_isN (o : sd_O) : Bool := match o with
  | some (.inr _) => false
  | _ => true
theorem sd_N_L {len n : Nat} {r : sd_O} (h : sd_isN r = true) : sd_isN (sd_L len n r) = true := by
  unfold sd_L
  split
  · exact h
  · rfl
theorem sd_N_1 {f : Int32 → List Value → sd_O} (h : ∀ x r, sd_isN (f x r) = true) : sd_isN (sd_1 st f) = true := by
  unfold sd_1
  split
  · exact h _ _
  · rfl
theorem sd_N_2 {f : Int32 → Int32 → List Value → sd_O} (h : ∀ x y r, sd_isN (f x y r) = true) : sd_isN (sd_2 st f) = true := by
  unfold sd_2
  split
  · exact h _ _ _
  · rfl
theorem sd_N_l1 {f : Int64 → List Value → sd_O} (h : ∀ x r, sd_isN (f x r) = true) : sd_isN (sd_l1 st f) = true := by
  unfold sd_l1
  split
  · exact h _ _
  · rfl
theorem sd_N_l2 {f : Int64 → Int64 → List Value → sd_O} (h : ∀ x y r, sd_isN (f x y r) = true) : sd_isN (sd_l2 st f) = true := by
  unfold sd_l2
  split
  · exact h _ _ _
  · rfl
theorem sd_N_li {f : Int64 → Int32 → List Value → sd_O} (h : ∀ x y r, sd_isN (f x y r) = true) : sd_isN (sd_li st f) = true := by
  unfold sd_li
  split
  · exact h _ _ _
  · rfl
theorem sd_N_r1 {f : Nat → List Value → sd_O} (h : ∀ x r, sd_isN (f x r) = true) : sd_isN (sd_r1 st f) = true := by
  unfold sd_r1
  split
  · exact h _ _
  · rfl
theorem sd_N_ix {f : Nat → Int32 → List Value → sd_O} (h : ∀ a i r, sd_isN (f a i r) = true) : sd_isN (sd_ix st f) = true := by
  unfold sd_ix
  split
  · exact h _ _ _
  · rfl
theorem sd_N_if {cnd : Prop} [Decidable cnd] {a b : sd_O} (ha : sd_isN a = true) (hb : sd_isN b = true) : sd_isN (if cnd then a else b) = true := by
  split
  · exact ha
  · exact hb
theorem sd_N_jmp {off : Int} : sd_isN (sd_jmp pc off ls st σ) = true := by
  unfold sd_jmp
  exact sd_N_if rfl rfl
theorem sd_N_br {cnd : Prop} [Decidable cnd] {off : Int} : sd_isN (sd_if cnd pc off ls st σ) = true := by
  unfold sd_if
  exact sd_N_if (sd_N_if rfl rfl) rfl
theorem sd_ins_N {o : Nat} {rt : Option FieldType} (i : Instr) (h1 : ∀ n, i ≠ .invokevirtual n) (h2 : ∀ n, i ≠ .invokestatic n) (h3 : i ≠ .ireturn) (h4 : i ≠ .lreturn) (h5 : i ≠ .return_) (h6 : i ≠ .areturn) : sd_isN (sd_ins E o rt i len pc ls st σ) = true := by
  cases i
  case iconst => exact sd_N_L rfl
  case bipush => exact sd_N_L rfl
  case sipush => exact sd_N_L rfl
  case lconst => exact sd_N_L rfl
  case ldc => exact sd_N_L (by split <;> first | rfl | (split <;> rfl))
  case ldc_w => exact sd_N_L (by split <;> first | rfl | (split <;> rfl))
  case ldc2_w => exact sd_N_L (by split <;> rfl)
  case iload_n => exact sd_N_L (by unfold sd_ldi; split <;> rfl)
  case iload => exact sd_N_L (by unfold sd_ldi; split <;> rfl)
  case lload_n => exact sd_N_L (by unfold sd_ldl; split <;> rfl)
  case lload => exact sd_N_L (by unfold sd_ldl; split <;> rfl)
  case aload_n => exact sd_N_L (by unfold sd_lda; split <;> rfl)
  case aload => exact sd_N_L (by unfold sd_lda; split <;> rfl)
  case istore_n => exact sd_N_L (by unfold sd_sti; split <;> first | exact sd_N_if rfl rfl | rfl)
  case istore => exact sd_N_L (by unfold sd_sti; split <;> first | exact sd_N_if rfl rfl | rfl)
  case astore_n => exact sd_N_L (by unfold sd_sta; split <;> first | exact sd_N_if rfl rfl | rfl)
  case astore => exact sd_N_L (by unfold sd_sta; split <;> first | exact sd_N_if rfl rfl | rfl)
  case lstore_n => exact sd_N_L (by unfold sd_stl; split <;> first | exact sd_N_if rfl rfl | rfl)
  case lstore => exact sd_N_L (by unfold sd_stl; split <;> first | exact sd_N_if rfl rfl | rfl)
  case iinc => exact sd_N_L (by split <;> first | exact sd_N_if rfl rfl | rfl)
  case iadd => exact sd_N_L (sd_N_2 fun _ _ _ => rfl)
  case isub => exact sd_N_L (sd_N_2 fun _ _ _ => rfl)
  case imul => exact sd_N_L (sd_N_2 fun _ _ _ => rfl)
  case iand => exact sd_N_L (sd_N_2 fun _ _ _ => rfl)
  case ior => exact sd_N_L (sd_N_2 fun _ _ _ => rfl)
  case ixor => exact sd_N_L (sd_N_2 fun _ _ _ => rfl)
  case ishl => exact sd_N_L (sd_N_2 fun _ _ _ => rfl)
  case ishr => exact sd_N_L (sd_N_2 fun _ _ _ => rfl)
  case iushr => exact sd_N_L (sd_N_2 fun _ _ _ => rfl)
  case idiv => exact sd_N_L (sd_N_2 fun _ _ _ => sd_N_if rfl rfl)
  case irem => exact sd_N_L (sd_N_2 fun _ _ _ => sd_N_if rfl rfl)
  case ldiv => exact sd_N_L (sd_N_l2 fun _ _ _ => sd_N_if rfl rfl)
  case lrem => exact sd_N_L (sd_N_l2 fun _ _ _ => sd_N_if rfl rfl)
  case ladd => exact sd_N_L (sd_N_l2 fun _ _ _ => rfl)
  case lsub => exact sd_N_L (sd_N_l2 fun _ _ _ => rfl)
  case lmul => exact sd_N_L (sd_N_l2 fun _ _ _ => rfl)
  case land => exact sd_N_L (sd_N_l2 fun _ _ _ => rfl)
  case lor => exact sd_N_L (sd_N_l2 fun _ _ _ => rfl)
  case lcmp => exact sd_N_L (sd_N_l2 fun _ _ _ => rfl)
  case lushr => exact sd_N_L (sd_N_li fun _ _ _ => rfl)
  case lshl => exact sd_N_L (sd_N_li fun _ _ _ => rfl)
  case ineg => exact sd_N_L (sd_N_1 fun _ _ => rfl)
  case i2l => exact sd_N_L (sd_N_1 fun _ _ => rfl)
  case i2b => exact sd_N_L (sd_N_1 fun _ _ => rfl)
  case i2c => exact sd_N_L (sd_N_1 fun _ _ => rfl)
  case l2i => exact sd_N_L (sd_N_l1 fun _ _ => rfl)
  case dup => exact sd_N_L (by split <;> first | exact sd_N_if rfl rfl | rfl)
  case pop => exact sd_N_L (by split <;> first | exact sd_N_if rfl rfl | rfl)
  case dup2 => exact sd_N_L (by split <;> first | exact sd_N_if rfl rfl | rfl)
  case goto => exact sd_N_L sd_N_jmp
  case tableswitch => exact sd_N_1 fun _ _ => sd_N_if sd_N_jmp (by split <;> first | exact sd_N_jmp | rfl)
  case getfield => exact sd_N_L (sd_N_r1 fun _ _ => by split <;> first | exact sd_N_if rfl rfl | (split <;> first | exact sd_N_if rfl rfl | rfl))
  case getstatic => exact sd_N_L (by split <;> rfl)
  case putfield => exact sd_N_L (by split <;> first | rfl | (split <;> first | rfl | exact sd_N_if (by split <;> rfl) rfl))
  case iaload => exact sd_N_L (sd_N_ix fun _ _ _ => by unfold sd_ld; split <;> first | exact sd_N_if rfl rfl | (split <;> first | exact sd_N_if rfl rfl | rfl))
  case baload => exact sd_N_L (sd_N_ix fun _ _ _ => by split <;> first | exact sd_N_if rfl rfl | rfl)
  case laload => exact sd_N_L (sd_N_ix fun _ _ _ => by split <;> first | exact sd_N_if rfl rfl | rfl)
  case aaload => exact sd_N_L (sd_N_ix fun _ _ _ => by split <;> first | exact sd_N_if rfl rfl | rfl)
  case iastore => exact sd_N_L (sd_N_1 fun _ _ => sd_N_ix fun _ _ _ => by split <;> first | exact sd_N_if rfl rfl | rfl)
  case bastore => exact sd_N_L (sd_N_1 fun _ _ => sd_N_ix fun _ _ _ => by split <;> first | exact sd_N_if rfl rfl | rfl)
  case lastore => exact sd_N_L (sd_N_l1 fun _ _ => sd_N_ix fun _ _ _ => by split <;> first | exact sd_N_if rfl rfl | rfl)
  case arraylength => exact sd_N_L (sd_N_r1 fun _ _ => by split <;> first | rfl | (split <;> first | rfl | exact sd_N_if rfl rfl))
  case ifCond cnd off => cases cnd <;> exact sd_N_L (sd_N_1 fun _ _ => sd_N_br)
  case if_icmp cnd off => cases cnd <;> exact sd_N_L (sd_N_2 fun _ _ _ => sd_N_br)
  case invokevirtual n => exact absurd rfl (h1 n)
  case invokestatic n => exact absurd rfl (h2 n)
  case ireturn => exact absurd rfl h3
  case lreturn => exact absurd rfl h4
  case return_ => exact absurd rfl h5
  case areturn => exact absurd rfl h6
  all_goals rfl
theorem sd_ins_call {o : Nat} {rt : Option FieldType} {i : Instr} {q : Nat × List Value × List Value} (h : sd_ins E o rt i len pc ls st σ = some (.inr (.inl q))) : (∃ n, i = .invokevirtual n) ∨ ∃ n, i = .invokestatic n := by
  by_cases h1 : ∃ n, i = .invokevirtual n
  · exact Or.inl h1
  · by_cases h2 : ∃ n, i = .invokestatic n
    · exact Or.inr h2
    · exfalso
      by_cases h3 : i = .ireturn
      · subst h3
        obtain ⟨-, h⟩ := sd_L_ok (r := _) h
        split at h
        · cases h
        · split at h <;> cases h
        · split at h <;> cases h
        · split at h <;> cases h
        · cases h
      · by_cases h4 : i = .lreturn
        · subst h4
          obtain ⟨-, h⟩ := sd_L_ok (r := _) h
          split at h <;> cases h
        · by_cases h5 : i = .return_
          · subst h5
            obtain ⟨-, h⟩ := sd_L_ok (r := _) h
            split at h <;> cases h
          · by_cases h7 : i = .areturn
            · subst h7
              obtain ⟨-, h⟩ := sd_L_ok (r := _) h
              split at h <;> cases h
            · have h6 := sd_ins_N (E := E) (o := o) (rt := rt) (len := len) (pc := pc) (ls := ls) (st := st) (σ := σ) i (fun n q => h1 ⟨n, q⟩) (fun n q => h2 ⟨n, q⟩) h3 h4 h5 h7
              rw [h] at h6
              cases h6
theorem sd_ins_ret {o : Nat} {rt : Option FieldType} {i : Instr} {q : Option Value} (h : sd_ins E o rt i len pc ls st σ = some (.inr (.inr q))) : i = .ireturn ∨ i = .lreturn ∨ i = .return_ ∨ i = .areturn := by
  by_cases h3 : i = .ireturn
  · exact Or.inl h3
  · by_cases h4 : i = .lreturn
    · exact Or.inr (Or.inl h4)
    · by_cases h5 : i = .return_
      · exact Or.inr (Or.inr (Or.inl h5))
      · by_cases h7 : i = .areturn
        · exact Or.inr (Or.inr (Or.inr h7))
        exfalso
        by_cases h1 : ∃ n, i = .invokevirtual n
        · obtain ⟨n, rfl⟩ := h1
          obtain ⟨-, h⟩ := sd_L_ok (r := _) h
          split at h
          · split at h
            · split at h <;> cases h
            · cases h
          · cases h
        · by_cases h2 : ∃ n, i = .invokestatic n
          · obtain ⟨n, rfl⟩ := h2
            obtain ⟨-, h⟩ := sd_L_ok (r := _) h
            split at h
            · exact sd_no_cpy h
            · split at h
              · exact sd_no_mth h
              · split at h
                · split at h <;> cases h
                · cases h
          · have h6 := sd_ins_N (E := E) (o := o) (rt := rt) (len := len) (pc := pc) (ls := ls) (st := st) (σ := σ) i (fun n q => h1 ⟨n, q⟩) (fun n q => h2 ⟨n, q⟩) h3 h4 h5 h7
            rw [h] at h6
            cases h6
end SDM
