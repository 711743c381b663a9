def tm_rm (d mc ms : Nat) : Room := { frames := d, cells := mc, slots := ms, locals := 41 * d }
def tm_Pc (cl : List vw_C) (D : va_G) (tc : Nat → ClassId) (lo : Nat) (K : String) (EX : State → Prop) (as : List Value) (h : tm_H) : Array Value → State → Prop := va_Pc as (fun U => U.heap.size = h.1 ∧ tm_HW D cl tc lo h U.heap ∧ va_K D cl (tm_tys K tc) U ∧ EX U)
def tm_Qc (cl : List vw_C) (D : va_G) (tc : Nat → ClassId) (lo : Nat) (r : Option Value) (h : tm_H) : Array Value → State → Outcome → State → Prop := fun _ st oc t => oc = .returned r ∧ t.heap.size = h.1 ∧ tm_HW D cl tc lo h t.heap ∧ va_F (fun q => lo ≤ q) st t
def tm_ws (G : tm_G) (tbl : List Cond) (mi : Nat) : List Cond := Cond.code (tm_mt G mi).1 (tm_mt G mi).2.1 (tm_mt G mi).2.2.1 (tm_mt G mi).2.2.2.1 :: tbl
/-- method mi, from the heap h with these arguments, returns r and leaves h' -/
def tm_Met (G : tm_G) (cl : List vw_C) (tbl : List Cond) (D : va_G) (tc : Nat → ClassId) (lo : Nat) (K : String) (EX : State → Prop) (l : Launch) (d mi : Nat) (as : List Value) (h : tm_H) (r : Option Value) (h' : tm_H) : Prop :=
  Met l (tm_mt G mi).1 (tm_ws G tbl mi) (tm_rm d (h'.1 - h.1) (h'.2.1 - h.2.1)) (tm_Pc cl D tc lo K EX as h) (tm_Qc cl D tc lo r h') (h'.1 - h.1) (h'.2.1 - h.2.1) (fun q => lo ≤ q)
/-- what stands below lo and in the tables stays as it is known -/
def tm_cls (lo : Nat) (EX : State → Prop) : Prop := ∀ U U' : State, (∀ q, q < lo → U'.heap[q]? = U.heap[q]?) → (U'.vm = U.vm ∨ U.WarmedH U'.vm) → EX U → EX U'
def tm_good (tbl : List Cond) : Prop := ∀ w ∈ tbl, (w.onTables && w.keeps) = true ∨ ∃ ty, w = .arrayClass ty
theorem tm_GI {tbl ws : List Cond} (hg : tm_good tbl) (h : ∀ w ∈ ws, w ∈ tbl) : GoodIn tbl ws := fun w hw => ⟨h w hw, hg w (h w hw)⟩
/-- the instruction by which a method of that type returns r -/
def tm_ret (ty : Option FieldType) (i : Instr) (r : Option Value) : Prop := match r with
  | some (.int v) => i = .ireturn ∧ ∃ rt, ty = some rt ∧ narrow rt (.int v) = .int v
  | some (.long _) => i = .lreturn ∧ ty = some .long
  | some (.ref _) => i = .areturn ∧ ∃ rt, ty = some rt ∧ ((∃ n, rt = .object n) ∨ ∃ t, rt = .array t)
  | none => i = .return_ ∧ ty = none
  | some (.double _) => ∃ k, i = .new k
  | _ => False
set_option maxHeartbeats 4000000 in
set_option maxRecDepth 10000 in
theorem tm_mono1 {G : tm_G} {d pc pc' : Nat} {en : tm_N} {ls ls' st st' : List Value} {h h1 : tm_H} (hs : tm_stp G d en pc ls st h = some (.inl (pc', ls', st', h1))) : h.1 ≤ h1.1 ∧ h.2.1 ≤ h1.2.1 := by
  obtain ⟨i, a, b⟩ := en
  have hN : ∀ {k : Nat} {x : tm_E}, h.1 ≤ (tm_new h k x).1 ∧ h.2.1 ≤ (tm_new h k x).2.1 := fun {k x} => ⟨Nat.le_succ _, Nat.le_add_right _ _⟩
  cases i with
  | newarray t => cases t <;> first | (cases hs; done) | (simp only [tm_stp, tm_nar] at hs; repeat' (split at hs)) <;> first | (cases hs; done) | (cases hs; exact hN)
  | tableswitch w1 w2 w3 w4 =>
    simp only [tm_stp, tm_tsw, tm_jmp] at hs
    repeat' (split at hs)
    all_goals first | (cases hs; done) | (cases hs; exact ⟨Nat.le_refl _, Nat.le_refl _⟩)
  | lookupswitch w1 w2 =>
    simp only [tm_stp, tm_lsw, tm_jmp] at hs
    repeat' (split at hs)
    all_goals first | (cases hs; done) | (cases hs; exact ⟨Nat.le_refl _, Nat.le_refl _⟩)
  | ifCond cd off =>
    simp only [tm_stp] at hs
    cases cd <;> simp only [tm_b1] at hs <;> repeat' (split at hs)
    all_goals first | (cases hs; done) | (cases hs; exact ⟨Nat.le_refl _, Nat.le_refl _⟩)
  | if_icmp cd off =>
    simp only [tm_stp] at hs
    cases cd <;> simp only [tm_b2] at hs <;> repeat' (split at hs)
    all_goals first | (cases hs; done) | (cases hs; exact ⟨Nat.le_refl _, Nat.le_refl _⟩)
  | _ =>
    first
    | (cases hs; done)
    | (simp only [tm_stp, tm_i1, tm_i2, tm_d2, tm_l1, tm_l2, tm_e2, tm_s2, tm_ldi, tm_ldl, tm_lda, tm_sti, tm_sta, tm_stl, tm_inc, tm_ldc, tm_get, tm_gsf, tm_gst, tm_set, tm_ild, tm_sld, tm_bld, tm_sbl, tm_cld, tm_lld, tm_ald, tm_isr, tm_bsr, tm_csr, tm_lsr, tm_asr, tm_aln, tm_sln, tm_sal, tm_nar, tm_nw, tm_oi, tm_cp, tm_mx, tm_mn, tm_ab, tm_ci, tm_ca, tm_cv, tm_nx] at hs
       repeat' (split at hs)
       all_goals first | (cases hs; done) | (cases hs; exact ⟨Nat.le_refl _, Nat.le_refl _⟩) | (cases hs; exact hN))
set_option maxHeartbeats 4000000 in
set_option maxRecDepth 10000 in
theorem tm_only {G : tm_G} {d pc : Nat} {i : Instr} {a b : Nat} {ls st : List Value} {h : tm_H} {x : Nat × List Value × List Value} (hs : tm_stp G d (i, a, b) pc ls st h = some (.inr (.inr x))) : (∃ k, i = .invokevirtual k) ∨ (∃ k, i = .invokespecial k) ∨ ∃ k, i = .invokestatic k := by
  cases i with
  | newarray t => cases t <;> first | (cases hs; done) | (simp only [tm_stp, tm_nar, tm_nx] at hs; repeat' (split at hs)) <;> (cases hs; done)
  | tableswitch w1 w2 w3 w4 =>
    simp only [tm_stp, tm_tsw, tm_jmp, tm_nx] at hs
    repeat' (split at hs)
    all_goals (cases hs; done)
  | lookupswitch w1 w2 =>
    simp only [tm_stp, tm_lsw, tm_jmp, tm_nx] at hs
    repeat' (split at hs)
    all_goals (cases hs; done)
  | ifCond cd off =>
    simp only [tm_stp] at hs
    cases cd <;> simp only [tm_b1, tm_nx] at hs <;> repeat' (split at hs)
    all_goals (cases hs; done)
  | if_icmp cd off =>
    simp only [tm_stp] at hs
    cases cd <;> simp only [tm_b2, tm_nx] at hs <;> repeat' (split at hs)
    all_goals (cases hs; done)
  | invokevirtual k => exact Or.inl ⟨k, rfl⟩
  | invokespecial k => exact Or.inr (Or.inl ⟨k, rfl⟩)
  | invokestatic k => exact Or.inr (Or.inr ⟨k, rfl⟩)
  | _ =>
    first
    | (cases hs; done)
    | (simp only [tm_stp, tm_i1, tm_i2, tm_d2, tm_l1, tm_l2, tm_e2, tm_s2, tm_ldi, tm_ldl, tm_lda, tm_sti, tm_sta, tm_stl, tm_inc, tm_ldc, tm_get, tm_gsf, tm_gst, tm_set, tm_ild, tm_sld, tm_bld, tm_sbl, tm_cld, tm_lld, tm_ald, tm_isr, tm_bsr, tm_csr, tm_lsr, tm_asr, tm_aln, tm_sln, tm_sal, tm_nar, tm_nw, tm_oi, tm_cp, tm_mx, tm_mn, tm_ab, tm_ci, tm_ca, tm_cv, tm_nx] at hs
       repeat' (split at hs)
       all_goals (cases hs; done))
set_option maxHeartbeats 4000000 in
set_option maxRecDepth 10000 in
theorem tm_rets {G : tm_G} {d pc : Nat} {i : Instr} {a b : Nat} {ls st : List Value} {h : tm_H} {r : Option Value} {cl : List vw_C} {tbl : List Cond} {K : String} {EX : State → Prop} {M : Nat} (hok : tm_ok G cl tbl K EX M pc (i, a, b)) (hs : tm_stp G d (i, a, b) pc ls st h = some (.inr (.inl r))) : tm_ret (tm_mt G M).2.2.2.1 i r ∧ (st = r.toList ∨ ∃ x, r = some (.double x) ∧ st = [] ∧ (tm_mt G M).2.2.2.2 = 311) ∧ ∃ k, tm_len i = k + 1 := by
  cases i with
  | newarray t => cases t <;> first | (cases hs; done) | (simp only [tm_stp, tm_nar, tm_nx] at hs; repeat' (split at hs)) <;> (cases hs; done)
  | tableswitch w1 w2 w3 w4 =>
    simp only [tm_stp, tm_tsw, tm_jmp, tm_nx] at hs
    repeat' (split at hs)
    all_goals (cases hs; done)
  | lookupswitch w1 w2 =>
    simp only [tm_stp, tm_lsw, tm_jmp, tm_nx] at hs
    repeat' (split at hs)
    all_goals (cases hs; done)
  | ifCond cd off =>
    simp only [tm_stp] at hs
    cases cd <;> simp only [tm_b1, tm_nx] at hs <;> repeat' (split at hs)
    all_goals (cases hs; done)
  | if_icmp cd off =>
    simp only [tm_stp] at hs
    cases cd <;> simp only [tm_b2, tm_nx] at hs <;> repeat' (split at hs)
    all_goals (cases hs; done)
  | ireturn =>
    simp only [tm_stp] at hs
    split at hs
    · split at hs
      · rename_i hv
        cases hs
        exact ⟨⟨rfl, _, hok.2, hv⟩, Or.inl rfl, 0, rfl⟩
      · cases hs
    · cases hs
  | lreturn => simp only [tm_stp] at hs; split at hs <;> first | (cases hs; exact ⟨⟨rfl, hok.2⟩, Or.inl rfl, 0, rfl⟩) | cases hs
  | areturn => simp only [tm_stp] at hs; split at hs <;> first | (cases hs; exact ⟨⟨rfl, hok.2⟩, Or.inl rfl, 0, rfl⟩) | cases hs
  | new k =>
    simp only [tm_stp] at hs
    split at hs
    · rename_i ha
      have hok := hok.2
      simp only [tm_okr, ha, if_true] at hok
      split at hs
      · cases hs
        exact ⟨⟨k, rfl⟩, Or.inr ⟨_, rfl, rfl, hok⟩, 2, rfl⟩
      · cases hs
    · unfold tm_nw at hs
      cases hs
  | return_ => simp only [tm_stp] at hs; split at hs <;> first | (cases hs; exact ⟨⟨rfl, hok.2⟩, Or.inl rfl, 0, rfl⟩) | cases hs
  | _ =>
    first
    | (cases hs; done)
    | (simp only [tm_stp, tm_i1, tm_i2, tm_d2, tm_l1, tm_l2, tm_e2, tm_s2, tm_ldi, tm_ldl, tm_lda, tm_sti, tm_sta, tm_stl, tm_inc, tm_ldc, tm_get, tm_gsf, tm_gst, tm_set, tm_ild, tm_sld, tm_bld, tm_sbl, tm_cld, tm_lld, tm_ald, tm_isr, tm_bsr, tm_csr, tm_lsr, tm_asr, tm_aln, tm_sln, tm_sal, tm_nar, tm_nw, tm_oi, tm_cp, tm_mx, tm_mn, tm_ab, tm_ci, tm_ca, tm_cv, tm_nx] at hs
       repeat' (split at hs)
       all_goals (cases hs; done))
