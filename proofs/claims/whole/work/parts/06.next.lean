theorem tm_dec {cc : ByteArray} {pc k : Nat} {i : Instr} (h : ∃ n, decode cc pc = .ok (i, n) ∧ (tm_len i = 0 ∨ n = tm_len i)) (hl : tm_len i = k + 1) : decode cc pc = .ok (i, k + 1) := by
  obtain ⟨n, h1, h2 | h2⟩ := h
  · omega
  · rw [h1, h2, hl]
section TMX
variable {p : Program} {l : Launch} {e : Env} {R : Room} {s : State} {m : MethodId} {args : Array Value} {below : List Frame} {meth : Method} {c : Code} {H : Heap} {locs : List Loc} {cells slots : Nat} {Q : State → Prop}
variable {pc : Nat} {lsC : Array Slot}
variable {G : tm_G} {cl : List vw_C} {tbl : List Cond} {D : va_G} {tc : Nat → ClassId} {lo : Nat} {K : String} {EX : State → Prop} {M d pc' : Nat} {ls ls' st st' : List Value} {h h1 : tm_H}
set_option maxHeartbeats 4000000 in
set_option maxRecDepth 10000 in
theorem tm_next {en : tm_N} (hsc : ∀ s, EX s → tm_SC G lo s) (hok : tm_ok G cl tbl K EX M pc en) (C0 : tm_C G cl tbl D tc lo K EX M p s m args meth c) (hw : tm_HW D cl tc lo h H) (hS : va_S (fun q => lo ≤ q) s.heap H locs) (hL : tm_LR lsC (tm_mt G M).2.2.1 ls) (hz : h.1 = s.heap.size + cells) (hR : d ≤ R.frames ∧ 41 * d ≤ R.locals)
    (hs : tm_stp G d en pc ls st h = some (.inl (pc', ls', st', h1))) (hc : cells + h1.1 ≤ R.cells + h.1 ∧ slots + h1.2.1 ≤ R.slots + h.2.1)
    (kk : ∀ (H1 : Heap) (locs1 : List Loc) (lsD : Array Slot) (cells1 slots1 : Nat), cells1 + h.1 = cells + h1.1 → slots1 + h.2.1 = slots + h1.2.1 → tm_HW D cl tc lo h1 H1 → va_S (fun q => lo ≤ q) s.heap H1 locs1 → tm_LR lsD (tm_mt G M).2.2.1 ls' → W p l e R s m args below meth c H1 locs1 cells1 slots1 Q (F0 m pc' lsD st')) : W p l e R s m args below meth c H locs cells slots Q (F0 m pc lsC st) := by
  obtain ⟨hx, hb, hml, hr, hown, hts, hK, hlk, hnm, hlo, hEX⟩ := C0
  have k0 : h1 = h → ls' = ls → W p l e R s m args below meth c H locs cells slots Q (F0 m pc' lsC st') := fun e1 e2 => kk H locs lsC cells slots (by rw [e1]) (by rw [e1]) (by rw [e1]; exact hw) hS (by rw [e2]; exact hL)
  have kS : ∀ lsD, h1 = h → tm_LR lsD (tm_mt G M).2.2.1 ls' → W p l e R s m args below meth c H locs cells slots Q (F0 m pc' lsD st') := fun lsD e1 e2 => kk H locs lsD cells slots (by rw [e1]) (by rw [e1]) (by rw [e1]; exact hw) hS e2
  have kP : ∀ (H1 : Heap) (locs1 : List Loc), tm_HW D cl tc lo h1 H1 → va_S (fun q => lo ≤ q) s.heap H1 locs1 → h1.1 = h.1 → h1.2.1 = h.2.1 → ls' = ls → W p l e R s m args below meth c H1 locs1 cells slots Q (F0 m pc' lsC st') := fun H1 locs1 q1 q2 q3 q4 q5 => kk H1 locs1 lsC cells slots (by rw [q3]) (by rw [q4]) q1 q2 (by rw [q5]; exact hL)
  have kN : ∀ H1 : Heap, tm_HW D cl tc lo h1 H1 → va_S (fun q => lo ≤ q) s.heap H1 locs → ls' = ls → h1.1 = h.1 + 1 → h1.2.1 = h.2.1 + (h1.2.1 - h.2.1) → W p l e R s m args below meth c H1 locs (cells + 1) (slots + (h1.2.1 - h.2.1)) Q (F0 m pc' lsC st') := fun H1 q1 q2 q5 q3 q4 => kk H1 locs lsC _ _ (by omega) (by omega) q1 q2 (by rw [q5]; exact hL)
  have hA : ∀ q, s.heap.size ≤ q → lo ≤ q := fun q hq => Nat.le_trans hlo hq
  have hsz : lsC.size = c.maxLocals := by rw [hml]; exact hL.2.1
  obtain ⟨i, a, b⟩ := en
  obtain ⟨hd, hok⟩ := hok
  cases i with
  | iconst k => cases hs; exact lv_iconst hx hb (tm_dec hd rfl) rfl (k0 rfl rfl)
  | bipush k => cases hs; exact lv_bipush hx hb (tm_dec hd rfl) rfl (k0 rfl rfl)
  | sipush k => cases hs; exact lv_sipush hx hb (tm_dec hd rfl) rfl (k0 rfl rfl)
  | lconst k => cases hs; exact lv_lconst hx hb (tm_dec hd rfl) rfl (k0 rfl rfl)
  | ldc k =>
    have hs : tm_ldc G 2 a b pc ls st h = some (.inl (pc', ls', st', h1)) := hs
    unfold tm_ldc at hs
    split at hs
    · rename_i hb0
      cases hs
      exact lv_ldc hx hb hown (hts _ (hok.1 hb0)) (tm_dec hd rfl) (k0 rfl rfl)
    · rename_i hb0
      cases hs
      obtain ⟨tx, htx⟩ := hok.2 hb0
      exact va_ldcS hx hb hown (htx s hEX) (tm_dec hd rfl) (k0 rfl rfl)
  | ldc_w k =>
    have hs : tm_ldc G 3 a b pc ls st h = some (.inl (pc', ls', st', h1)) := hs
    unfold tm_ldc at hs
    split at hs
    · rename_i hb0
      cases hs
      exact lv_ldcw hx hb hown (hts _ (hok.1 hb0)) (tm_dec hd rfl) (k0 rfl rfl)
    · rename_i hb0
      cases hs
      obtain ⟨tx, htx⟩ := hok.2 hb0
      exact tm_ldcwS hx hb hown (htx s hEX) (tm_dec hd rfl) (k0 rfl rfl)
  | ldc2_w k => cases hs; exact lv_ldc2 hx hb hown (hts _ hok) (tm_dec hd rfl) (k0 rfl rfl)
  | iload k => exact tm_ldi_r hL (fun x r hl q => lv_iload hx hb (tm_dec hd rfl) hl q) hs k0
  | iload_n k => exact tm_ldi_r hL (fun x r hl q => lv_iload_n hx hb (tm_dec hd rfl) rfl hl q) hs k0
  | lload k => exact tm_ldl_r hL (fun x r hl q => lv_lload hx hb (tm_dec hd rfl) hl q) hs k0
  | lload_n k => exact tm_ldl_r hL (fun x r hl q => lv_lload_n hx hb (tm_dec hd rfl) rfl hl q) hs k0
  | aload k => exact tm_lda_r hL (fun x r hl q => lv_aload hx hb (tm_dec hd rfl) hl q) hs k0
  | aload_n k => exact tm_lda_r hL (fun x r hl q => lv_aload_n hx hb (tm_dec hd rfl) rfl hl q) hs k0
  | istore k => exact tm_sti_r hL (fun x r hl q => lv_istore hx hb (tm_dec hd rfl) hL.2 hl rfl q) hs kS
  | istore_n k => exact tm_sti_r hL (fun x r hl q => lv_istore_n hx hb (tm_dec hd rfl) rfl hL.2 hl rfl q) hs kS
  | lstore k => exact tm_stl_r hL (fun x r hl q => lv_lstore hx hb (tm_dec hd rfl) hL.2 hl rfl q) hs kS
  | lstore_n k => exact tm_stl_r hL (fun x r hl q => lv_lstore_n hx hb (tm_dec hd rfl) rfl hL.2 hl rfl q) hs kS
  | astore k => exact tm_sta_r hL (fun x r hl q => lv_astore hx hb (tm_dec hd rfl) hL.2 hl rfl q) hs kS
  | astore_n k => exact tm_sta_r hL (fun x r hl q => lv_astore_n hx hb (tm_dec hd rfl) rfl hL.2 hl rfl q) hs kS
  | iinc k n => exact tm_inc_r hx hb (tm_dec hd rfl) hL hs kS
  | iadd => exact tm_i2_r (fun x y r q => lv_iadd hx hb (tm_dec hd rfl) q) hs k0
  | isub => exact tm_i2_r (fun x y r q => lv_isub hx hb (tm_dec hd rfl) q) hs k0
  | imul => exact tm_i2_r (fun x y r q => lv_imul hx hb (tm_dec hd rfl) q) hs k0
  | iand => exact tm_i2_r (fun x y r q => lv_iand hx hb (tm_dec hd rfl) q) hs k0
  | ior => exact tm_i2_r (fun x y r q => lv_ior hx hb (tm_dec hd rfl) q) hs k0
  | ixor => exact tm_i2_r (fun x y r q => lv_ixor hx hb (tm_dec hd rfl) q) hs k0
  | ishl => exact tm_i2_r (fun x y r q => lv_ishl hx hb (tm_dec hd rfl) q) hs k0
  | ishr => exact tm_i2_r (fun x y r q => lv_ishr hx hb (tm_dec hd rfl) q) hs k0
  | iushr => exact tm_i2_r (fun x y r q => lv_iushr hx hb (tm_dec hd rfl) rfl q) hs k0
  | idiv => exact tm_d2_r (fun x y r hy q => lv_idiv hx hb (tm_dec hd rfl) hy q) hs k0
  | irem => exact tm_d2_r (fun x y r hy q => lv_irem hx hb (tm_dec hd rfl) hy q) hs k0
  | ineg => exact tm_i1_r (fun x r q => lv_ineg hx hb (tm_dec hd rfl) q) hs k0
  | i2l => exact tm_i1_r (fun x r q => lv_i2l hx hb (tm_dec hd rfl) rfl q) hs k0
  | i2b => exact tm_i1_r (fun x r q => lv_i2b hx hb (tm_dec hd rfl) rfl q) hs k0
  | i2s => exact tm_i1_r (fun x r q => lv_i2s hx hb (tm_dec hd rfl) rfl q) hs k0
  | i2c => exact tm_i1_r (fun x r q => lv_i2c hx hb (tm_dec hd rfl) rfl q) hs k0
  | l2i => exact tm_l1_r (fun x r q => lv_l2i hx hb (tm_dec hd rfl) rfl q) hs k0
  | ladd => exact tm_l2_r (fun x y r q => lv_ladd hx hb (tm_dec hd rfl) q) hs k0
  | lmul => exact tm_l2_r (fun x y r q => lv_lmul hx hb (tm_dec hd rfl) q) hs k0
  | land => exact tm_l2_r (fun x y r q => lv_land hx hb (tm_dec hd rfl) q) hs k0
  | lor => exact tm_l2_r (fun x y r q => lv_lor hx hb (tm_dec hd rfl) q) hs k0
  | lxor => exact tm_l2_r (fun x y r q => lv_lxor hx hb (tm_dec hd rfl) q) hs k0
  | lcmp => exact tm_l2_r (fun x y r q => W.lcmp hx hb (tm_dec hd rfl) q) hs k0
  | ldiv => exact tm_e2_r (fun x y r hy q => lv_ldiv hx hb (tm_dec hd rfl) hy q) hs k0
  | lrem => exact tm_e2_r (fun x y r hy q => lv_lrem hx hb (tm_dec hd rfl) hy q) hs k0
  | lshl => exact tm_s2_r (fun x y r q => lv_lshl hx hb (tm_dec hd rfl) rfl q) hs k0
  | lushr => exact tm_s2_r (fun x y r q => lv_lushr hx hb (tm_dec hd rfl) rfl q) hs k0
  | dup =>
    simp only [tm_stp] at hs
    split at hs
    · split at hs
      · rename_i hv
        cases hs
        exact lv_dup hx hb (tm_dec hd rfl) hv (k0 rfl rfl)
      · cases hs
    · cases hs
  | pop =>
    simp only [tm_stp] at hs
    split at hs
    · split at hs
      · rename_i hv
        cases hs
        exact lv_pop hx hb (tm_dec hd rfl) hv (k0 rfl rfl)
      · cases hs
    · cases hs
  | dup2 =>
    simp only [tm_stp] at hs
    split at hs
    · split at hs
      · rename_i hv
        cases hs
        exact lv_dup2_11 hx hb (tm_dec hd rfl) hv.1 hv.2 (k0 rfl rfl)
      · cases hs
    · cases hs
  | dup_x1 =>
    simp only [tm_stp] at hs
    split at hs
    · split at hs
      · rename_i hv
        cases hs
        exact lv_dup_x1 hx hb (tm_dec hd rfl) hv.1 hv.2 (k0 rfl rfl)
      · cases hs
    · cases hs
  | goto off => cases hs; exact lv_goto hx hb (tm_dec hd rfl) hok (k0 rfl rfl)
  | ifCond cd off =>
    simp only [tm_stp] at hs
    split at hs
    · exact tm_b1_r hx hb (tm_dec hd rfl) hok hs k0
    · cases hs
  | if_icmp cd off =>
    simp only [tm_stp] at hs
    split at hs
    · exact tm_b2_r hx hb (tm_dec hd rfl) hok hs k0
    · cases hs
  | tableswitch w1 w2 w3 w4 =>
    obtain ⟨n, hd, -⟩ := hd
    exact tm_tsw_r hx hb hd hs k0
  | lookupswitch w1 w2 =>
    obtain ⟨n, hd, -⟩ := hd
    exact tm_lsw_r hx hb hd hs k0
  | getfield k =>
    simp only [tm_stp] at hs
    split at hs
    · rename_i ha
      simp only [tm_okr, ha, if_true] at hok
      exact tm_gsf_r hx hb hts hown hok (tm_dec hd rfl) hS (hsc s hEX) hs k0
    · rename_i ha
      simp only [tm_okr, ha, if_false] at hok
      exact tm_get_r hx hb hts hown hK hok (tm_dec hd rfl) hw hs k0
  | getstatic k => exact tm_gst_r hx hb hts hown hok (tm_dec hd rfl) hS (hsc s hEX) hs k0
  | putfield k => exact tm_set_r hx hb hts hown hnm hK hok (tm_dec hd rfl) hw hS hs kP
  | iaload =>
    simp only [tm_stp] at hs
    split at hs
    · exact tm_ild_r hx hb hK (tm_dec hd rfl) hw hs k0
    · exact tm_sld_r hx hb (tm_dec hd rfl) hS (hsc s hEX) hs k0
  | baload =>
    simp only [tm_stp] at hs
    split at hs
    · exact tm_bld_r hx hb hK (tm_dec hd rfl) hw hs k0
    · exact tm_sbl_r hx hb (tm_dec hd rfl) hS (hsc s hEX) hs k0
  | caload => exact tm_cld_r hx hb hK (tm_dec hd rfl) hw hs k0
  | laload => exact tm_lld_r hx hb hK (tm_dec hd rfl) hw hs k0
  | aaload => exact tm_ald_r hx hb hK (tm_dec hd rfl) hw hs k0
  | iastore => exact tm_isr_r hx hb hK (tm_dec hd rfl) hw hS hs kP
  | bastore => exact tm_bsr_r hx hb hK (tm_dec hd rfl) hw hS hs kP
  | castore => exact tm_csr_r hx hb hK (tm_dec hd rfl) hw hS hs kP
  | lastore => exact tm_lsr_r hx hb hK (tm_dec hd rfl) hw hS hs kP
  | aastore => exact tm_asr_r hx hb hK hok (tm_dec hd rfl) hw hS hs kP
  | arraylength =>
    simp only [tm_stp] at hs
    split at hs
    · exact tm_aln_r hx hb hK (tm_dec hd rfl) hw hs k0
    split at hs
    · exact tm_sln_r hx hb (tm_dec hd rfl) hS (hsc s hEX) hs k0
    · exact tm_sal_r hx hb (tm_dec hd rfl) hS (hsc s hEX) hs k0
  | new k =>
    simp only [tm_stp] at hs
    split at hs
    · split at hs <;> cases hs
    · rename_i ha
      simp only [tm_okr, ha, if_false] at hok
      exact tm_nw_r hx hb hts hown hK hlo hok (tm_dec hd rfl) hw hS hz hs hc kN
  | newarray t =>
    cases t with
    | int => exact tm_nar_r (t := 0) (z := fun _ => .inl (fun _ => 0)) rfl hK hw hz (fun n r n1 n2 n3 n4 q => va_newa (atype := .int) hx hb (hts _ hok) rfl hK hw.2.2.1 tm_WL_D hS hA (fun _ => rfl) n1 rfl (by show _ * 4 ≤ _; omega) n3 n4 (tm_dec hd rfl) q) hs hc kN
    | byte => exact tm_nar_r (t := 1) (z := fun _ => .inl (fun _ => 0)) rfl hK hw hz (fun n r n1 n2 n3 n4 q => va_newa (atype := .byte) hx hb (hts _ hok) rfl hK hw.2.2.1 tm_WL_D hS hA (fun _ => rfl) n1 rfl (by show _ * 1 ≤ _; omega) n3 n4 (tm_dec hd rfl) q) hs hc kN
    | char => exact tm_nar_r (t := 2) (z := fun _ => .inl (fun _ => 0)) rfl hK hw hz (fun n r n1 n2 n3 n4 q => va_newa (atype := .char) hx hb (hts _ hok) rfl hK hw.2.2.1 tm_WL_D hS hA (fun _ => rfl) n1 rfl (by show _ * 2 ≤ _; omega) n3 n4 (tm_dec hd rfl) q) hs hc kN
    | long => exact tm_nar_r (t := 3) (z := fun _ => .inr (.inl (fun _ => 0))) rfl hK hw hz (fun n r n1 n2 n3 n4 q => va_newa (atype := .long) hx hb (hts _ hok) rfl hK hw.2.2.1 tm_WL_D hS hA (fun _ => rfl) n1 rfl (by show _ * 8 ≤ _; omega) n3 n4 (tm_dec hd rfl) q) hs hc kN
    | boolean => exact tm_nar_r (t := 4) (z := fun _ => .inl (fun _ => 0)) rfl hK hw hz (fun n r n1 n2 n3 n4 q => va_newa (atype := .boolean) hx hb (hts _ hok) rfl hK hw.2.2.1 tm_WL_D hS hA (fun _ => rfl) n1 rfl (by show _ * 1 ≤ _; omega) n3 n4 (tm_dec hd rfl) q) hs hc kN
    | _ => cases hs
  | anewarray k => exact tm_nar_r (t := 5) (z := fun _ => .inr (.inr (.inr (.inr (fun _ => none))))) rfl hK hw hz (fun n r n1 n2 n3 n4 q => va_newq hx hb hown (hts _ hok.1) (hok.2 s hEX) hK hw.2.2.1 tm_WL_D hS hA n1 rfl (by omega) n3 n4 (tm_dec hd rfl) q) hs hc kN
  | invokespecial k =>
    simp only [tm_stp] at hs
    split at hs
    · rename_i hb0
      subst hb0
      exact tm_oi_r hx hb hts hown hsz hok (tm_dec hd rfl) hR hs k0
    · unfold tm_ci at hs
      split at hs
      · split at hs <;> cases hs
      · cases hs
  | invokestatic k =>
    simp only [tm_stp] at hs
    split at hs
    · rename_i hb0
      subst hb0
      exact tm_cp_r hx hb hts hown hsz hK hok (tm_dec hd rfl) hw hS hR hs kP
    · rename_i hb0
      split at hs
      · rename_i hb1
        subst hb1
        unfold tm_mx at hs
        split at hs
        · split at hs
          · rename_i hc1
            cases hs
            exact va_mmax hx hb hsz.symm hown (hts _ hok.1) (hts _ hok.2.1) (hts _ hok.2.2.1) (hts _ hok.2.2.2) (by omega) (by have := hc1.2; unfold tm_cs at this; omega) (by omega) (by omega) (tm_dec hd rfl) (k0 rfl rfl)
          · cases hs
        · cases hs
      · split at hs
        · rename_i hb1
          subst hb1
          unfold tm_mn at hs
          split at hs
          · split at hs
            · rename_i hc1
              cases hs
              exact va_mmin hx hb hsz.symm hown (hts _ hok.1) (hts _ hok.2.1) (hts _ hok.2.2.1) (hts _ hok.2.2.2) (by omega) (by have := hc1.2; unfold tm_cs at this; omega) (by omega) (by omega) (tm_dec hd rfl) (k0 rfl rfl)
            · cases hs
          · cases hs
        · split at hs
          · rename_i hb1
            subst hb1
            unfold tm_ab at hs
            split at hs
            · split at hs
              · rename_i hc1
                cases hs
                exact va_mabs hx hb hsz.symm hown (hts _ hok.1) (hts _ hok.2.1) (hts _ hok.2.2.1) (hts _ hok.2.2.2) (by omega) (by have := hc1.2; unfold tm_cs at this; omega) (by omega) (by omega) (tm_dec hd rfl) (k0 rfl rfl)
              · cases hs
            · cases hs
          · unfold tm_ca at hs
            split at hs
            split at hs <;> cases hs
  | invokevirtual k =>
    simp only [tm_stp, tm_cv] at hs
    split at hs
    · split at hs
      · split at hs <;> cases hs
      · split at hs
        · split at hs <;> cases hs
        · split at hs <;> cases hs
        · cases hs
    · cases hs
  | ireturn =>
    simp only [tm_stp] at hs
    split at hs
    · split at hs <;> cases hs
    · cases hs
  | lreturn => simp only [tm_stp] at hs; split at hs <;> cases hs
  | areturn => simp only [tm_stp] at hs; split at hs <;> cases hs
  | return_ => simp only [tm_stp] at hs; split at hs <;> cases hs
  | _ => cases hs
end TMX
