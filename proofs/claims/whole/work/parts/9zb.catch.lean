/-! the law's catching calls -/
theorem dec_out {b : ByteArray} {pc : Nat} {x : Instr × Nat} (h : b.size ≤ pc) (hd : decode b pc = .ok x) : False := by
  have hq : ¬ pc < b.size := by omega
  have e1 : Jvm.ClassFile.Reader.runAt (Jvm.ClassFile.Reader.u1 : rd_D Nat) b pc = .error (Jvm.ClassFile.HasTruncated.truncated pc) := by
    unfold Jvm.ClassFile.Reader.u1
    show (if h : pc < b.size then _ else _ : rd_D Nat) b pc = _
    rw [dif_neg hq]
    rfl
  have e2 : Jvm.ClassFile.Reader.runAt (Jvm.ClassFile.Decoder.instr pc) b pc = .error (Jvm.ClassFile.HasTruncated.truncated pc) := by
    unfold Jvm.ClassFile.Decoder.instr
    rw [rd_run_b, e1]
  have e3 : decode b pc = .error (Jvm.ClassFile.HasTruncated.truncated pc) := by
    unfold decode
    rw [e2]
    rfl
  rw [e3] at hd
  cases hd
def isnw (r : Except Jvm.ClassFile.DecodeError (Instr × Nat)) : Bool := match r with
  | .ok (.new _, _) => true
  | _ => false
theorem tp_sort_0 : ∀ i : Fin 141, isnw (decode cX11_sort i.1) = true → i.1 = 11 ∨ i.1 = 131 := by decide +kernel
theorem tp_sort_s : cX11_sort.size = 141 := by decide +kernel
theorem tp_sort {pc k : Nat} (h : decode cX11_sort pc = .ok (.new k, 3)) : pc = 11 ∨ pc = 131 := by
  by_cases z : pc < 141
  · exact tp_sort_0 ⟨pc, z⟩ (by show isnw (decode cX11_sort pc) = true; rw [h]; rfl)
  · exact (dec_out (by rw [tp_sort_s]; omega) h).elim
theorem th_sort {lo : Nat} {sa : g_SA} {sc : Nat × Nat × (Nat → Int32)} : ∀ pc k, decode cX11_sort pc = .ok (.new k, 3) → thr9 cX11_sort (EXq lo sa sc) pc := by
  intro pc k h
  rcases tp_sort h with rfl | rfl
  · exact ⟨129, "no such sort", sa.1 8, fun s hs => EXq_R hs 8 rfl, by decide +kernel, by decide +kernel, Or.inl ⟨by decide +kernel, by decide +kernel, by decide +kernel⟩⟩
  · exact ⟨155, "no such thing of a sort", sa.1 9, fun s hs => EXq_R hs 9 rfl, by decide +kernel, by decide +kernel, Or.inl ⟨by decide +kernel, by decide +kernel, by decide +kernel⟩⟩
theorem tp_box_0 : ∀ i : Fin 83, isnw (decode cX11_box i.1) = true → i.1 = 7 ∨ i.1 = 73 := by decide +kernel
theorem tp_box_s : cX11_box.size = 83 := by decide +kernel
theorem tp_box {pc k : Nat} (h : decode cX11_box pc = .ok (.new k, 3)) : pc = 7 ∨ pc = 73 := by
  by_cases z : pc < 83
  · exact tp_box_0 ⟨pc, z⟩ (by show isnw (decode cX11_box pc) = true; rw [h]; rfl)
  · exact (dec_out (by rw [tp_box_s]; omega) h).elim
theorem th_box {lo : Nat} {sa : g_SA} {sc : Nat × Nat × (Nat → Int32)} : ∀ pc k, decode cX11_box pc = .ok (.new k, 3) → thr9 cX11_box (EXq lo sa sc) pc := by
  intro pc k h
  rcases tp_box h with rfl | rfl
  · exact ⟨160, "no such box", sa.1 10, fun s hs => EXq_R hs 10 rfl, by decide +kernel, by decide +kernel, Or.inl ⟨by decide +kernel, by decide +kernel, by decide +kernel⟩⟩
  · exact ⟨168, "no such thing of a box", sa.1 11, fun s hs => EXq_R hs 11 rfl, by decide +kernel, by decide +kernel, Or.inl ⟨by decide +kernel, by decide +kernel, by decide +kernel⟩⟩
theorem tp_row_0 : ∀ i : Fin 31, isnw (decode cX11_row i.1) = true → i.1 = 11 := by decide +kernel
theorem tp_row_s : cX11_row.size = 31 := by decide +kernel
theorem tp_row {pc k : Nat} (h : decode cX11_row pc = .ok (.new k, 3)) : pc = 11 := by
  by_cases z : pc < 31
  · exact tp_row_0 ⟨pc, z⟩ (by show isnw (decode cX11_row pc) = true; rw [h]; rfl)
  · exact (dec_out (by rw [tp_row_s]; omega) h).elim
theorem th_row {lo : Nat} {sa : g_SA} {sc : Nat × Nat × (Nat → Int32)} : ∀ pc k, decode cX11_row pc = .ok (.new k, 3) → thr9 cX11_row (EXq lo sa sc) pc := by
  intro pc k h
  have z := tp_row h
  subst z
  exact ⟨402, "no such number of the row", sa.1 12, fun s hs => EXq_R hs 12 rfl, by decide +kernel, by decide +kernel, Or.inr ⟨by decide +kernel, by decide +kernel, by decide +kernel⟩⟩
theorem dq_sort_0 : decode cL_sort 0 = .ok (.aload_n 3, 1) := by decide +kernel
theorem dq_sort_1 : decode cL_sort 1 = .ok (.iconst 0, 1) := by decide +kernel
theorem dq_sort_2 : decode cL_sort 2 = .ok (.aload_n 0, 1) := by decide +kernel
theorem dq_sort_3 : decode cL_sort 3 = .ok (.iload_n 1, 1) := by decide +kernel
theorem dq_sort_4 : decode cL_sort 4 = .ok (.iload_n 2, 1) := by decide +kernel
theorem dq_sort_5 : decode cL_sort 5 = .ok (.invokevirtual 7, 3) := by decide +kernel
theorem dq_sort_8 : decode cL_sort 8 = .ok (.i2l, 1) := by decide +kernel
theorem dq_sort_9 : decode cL_sort 9 = .ok (.lastore, 1) := by decide +kernel
theorem dq_sort_10 : decode cL_sort 10 = .ok (.goto 7, 3) := by decide +kernel
theorem dq_sort_13 : decode cL_sort 13 = .ok (.astore 4, 2) := by decide +kernel
theorem dq_sort_15 : decode cL_sort 15 = .ok (.iconst 1, 1) := by decide +kernel
theorem dq_sort_16 : decode cL_sort 16 = .ok (.ireturn, 1) := by decide +kernel
theorem dq_sort_17 : decode cL_sort 17 = .ok (.iconst 0, 1) := by decide +kernel
theorem dq_sort_18 : decode cL_sort 18 = .ok (.ireturn, 1) := by decide +kernel
theorem dq_row_0 : decode cL_row 0 = .ok (.aload_n 2, 1) := by decide +kernel
theorem dq_row_1 : decode cL_row 1 = .ok (.iconst 0, 1) := by decide +kernel
theorem dq_row_2 : decode cL_row 2 = .ok (.aload_n 0, 1) := by decide +kernel
theorem dq_row_3 : decode cL_row 3 = .ok (.iload_n 1, 1) := by decide +kernel
theorem dq_row_4 : decode cL_row 4 = .ok (.invokevirtual 18, 3) := by decide +kernel
theorem dq_row_7 : decode cL_row 7 = .ok (.lastore, 1) := by decide +kernel
theorem dq_row_8 : decode cL_row 8 = .ok (.goto 6, 3) := by decide +kernel
theorem dq_row_11 : decode cL_row 11 = .ok (.astore_n 3, 1) := by decide +kernel
theorem dq_row_12 : decode cL_row 12 = .ok (.iconst 1, 1) := by decide +kernel
theorem dq_row_13 : decode cL_row 13 = .ok (.ireturn, 1) := by decide +kernel
theorem dq_row_14 : decode cL_row 14 = .ok (.iconst 0, 1) := by decide +kernel
theorem dq_row_15 : decode cL_row 15 = .ok (.ireturn, 1) := by decide +kernel
theorem dq_box_0 : decode cL_box 0 = .ok (.aload_n 3, 1) := by decide +kernel
theorem dq_box_1 : decode cL_box 1 = .ok (.iconst 0, 1) := by decide +kernel
theorem dq_box_2 : decode cL_box 2 = .ok (.aload_n 0, 1) := by decide +kernel
theorem dq_box_3 : decode cL_box 3 = .ok (.iload_n 1, 1) := by decide +kernel
theorem dq_box_4 : decode cL_box 4 = .ok (.iload_n 2, 1) := by decide +kernel
theorem dq_box_5 : decode cL_box 5 = .ok (.invokevirtual 15, 3) := by decide +kernel
theorem dq_box_8 : decode cL_box 8 = .ok (.i2l, 1) := by decide +kernel
theorem dq_box_9 : decode cL_box 9 = .ok (.lastore, 1) := by decide +kernel
theorem dq_box_10 : decode cL_box 10 = .ok (.goto 7, 3) := by decide +kernel
theorem dq_box_13 : decode cL_box 13 = .ok (.astore 4, 2) := by decide +kernel
theorem dq_box_15 : decode cL_box 15 = .ok (.iconst 1, 1) := by decide +kernel
theorem dq_box_16 : decode cL_box 16 = .ok (.ireturn, 1) := by decide +kernel
theorem dq_box_17 : decode cL_box 17 = .ok (.iconst 0, 1) := by decide +kernel
theorem dq_box_18 : decode cL_box 18 = .ok (.ireturn, 1) := by decide +kernel
section
variable {sa : g_SA} {sc : Nat × Nat × (Nat → Int32)} {xt : Nat → Nat → List Value → tm_H → Option (Option Value × tm_H)} {D : va_G} {tc : Nat → ClassId} {lo : Nat} {l : Launch}
variable {n d x o k : Nat} {p q : Int32} {f : Nat → Int64} {fs : List Value} {h h' : tm_H}
theorem bd_sort_n {v : Int32} (hP : tm_prog (g_G sa sc xt) g_cl g_tbl D tc lo RX9 (EXq lo sa sc) l) (hq : tm_run (g_G sa sc xt) n d 114 0 (tm_ent [.ref x, .int p, .int q] 3) [] h = some (some (.int v), h')) (hx0 : h.2.2 x = .inr (11, fs)) (ho : h'.2.2 o = .inl (3, k, .inr (.inl f))) (hk : 1 ≤ k) : Met l yL_sort (Cond.codeWith yL_sort cL_sort 5 (some .int) [(0, 10, 13, 13)] :: g_tbl) (tm_rm (d + 1) (h'.1 - h.1) (h'.2.1 - h.2.1)) (tm_Pc g_cl D tc lo RX9 (EXq lo sa sc) [.ref x, .int p, .int q, .ref o] h) (tm_Qc g_cl D tc lo (some (.int 0)) (tm_put h' o (.inl (3, k, .inr (.inl (vp_updL f 0 v.toInt64)))))) (h'.1 - h.1) (h'.2.1 - h.2.1) (fun q => lo ≤ q) := by
  have hM := tx_met (mi := 114) (as := [.ref x, .int p, .int q]) hP ⟨by decide, Nat.le_refl 3⟩ hq (fun z hz => by cases hz)
  have g1 := tm_mono hP hq
  have hP0 := hP
  obtain ⟨hcl, hg, hsc, hft, hpl, hX⟩ := hP0
  refine tx_ofWH (cc := cL_sort) (maxL := 5) (ret := some .int) (hh := [(0, 10, 13, 13)]) pl_RL rfl ?_
  intro p2 e s m args below meth c s₁ B hml hv
  obtain ⟨rfl, v1, v2, v3, v4⟩ := hv
  have hx := B.exec
  have hb := B.bytes
  have hr := B.returns
  have hlk := B.notSynchronized
  have hts9 := atoms_spec (ws := Cond.codeWith yL_sort cL_sort 5 (some .int) [(0, 10, 13, 13)] :: g_tbl) B.pre
  have hts : ∀ w ∈ g_tbl, w.before ([.ref x, .int p, .int q, .ref o] : List Value).toArray s = true := fun w hw' => hts9 w (List.mem_cons_of_mem _ hw')
  have hown : s.vm.findClass RL = some m.cls := findClass_of_methodNamed B.named
  have hlo : lo ≤ s.heap.size := by rw [v1]; exact v2.1
  have hl := lv_entry ([.ref x, .int p, .int q, .ref o]) (n := 5) (Nat.le_of_ble_eq_true rfl)
  rw [lg_entry_eq]
  generalize (lg_sl ([.ref x, .int p, .int q, .ref o]) ++ List.replicate (5 - (lg_sl ([.ref x, .int p, .int q, .ref o])).length) Slot.unset).toArray = ls at hl ⊢
  have hl : lv_has ls 5 [(0, .ref x), (1, .int p), (2, .int q), (3, .ref o)] := hl
  have hS : va_S (fun q => lo ≤ q) s.heap s.heap [] := va_S.rf
  obtain ⟨w1, w2, w3⟩ := v2.obj hx0
  have hwsV : GoodIn g_tbl (wsV RL 7 RX11 yX11_sort (tm_ws (g_G sa sc xt) g_tbl 114)) := tm_GI hg (fun w hw' => by
    simp only [wsV, tm_ws, List.cons_append, List.nil_append, List.mem_cons] at hw'
    rcases hw' with rfl | rfl | rfl | rfl | rfl | hw'
    · exact wm_sort_1
    · exact wm_sort_2
    · exact wm_sort_3
    · exact wm_x
    · exact wm_sort_4
    · exact hw')
  refine lv_aload_n hx hb dq_sort_0 rfl (lv_at hl 3 rfl) ?_
  refine lv_iconst (v := 0) hx hb dq_sort_1 (by decide) ?_
  refine lv_aload_n hx hb dq_sort_2 rfl (lv_at hl 0 rfl) ?_
  refine lv_iload_n hx hb dq_sort_3 rfl (lv_at hl 1 rfl) ?_
  refine lv_iload_n hx hb dq_sort_4 rfl (lv_at hl 2 rfl) ?_
  refine tm_callW (va_runV (As := [.int p, .int q]) (rest := [.int 0, .ref o]) (b := x) ⟨hx, hb, hml, hown, hts⟩ hM (cwV 2 hts hwsV rfl rfl rfl ⟨rfl, ne1_RX11, ne2_RX11, (show Option.map (fun d => d.parameters.length) (parseMethodDescriptor yX11_sort.desc) = some 2 by decide +kernel)⟩ ⟨Nat.le_refl _, by show 8 + (3 + 11) + 41 * d ≤ 41 * (d + 1); omega⟩) ⟨tm_blind hcl, va_recv v3 v2.2.2.1 (show g_cl[11]? = some (RX11, TX11, 16) from rfl) w3, tm_preU hcl v3 v4 hlo v2 hS v1⟩ rfl rfl hl.1 rfl (lv_room (Nat.le_of_ble_eq_true rfl)) dq_sort_5 ⟨by show 0 + (h'.1 - h.1) ≤ h'.1 - h.1; omega, by show 0 + (h'.2.1 - h.2.1) ≤ h'.2.1 - h.2.1; omega⟩) hS (fun H1 locs1 z1 hw1 hS1 => ?_)
  refine lv_i2l (v := v.toInt64) hx hb dq_sort_8 rfl ?_
  refine tm_lsr_r (h := h') (h1 := (tm_put h' o (.inl (3, k, .inr (.inl (vp_updL f 0 v.toInt64)))))) (ls := []) (ls' := []) (st' := []) (pc' := 10) hx hb v3 dq_sort_9 hw1 hS1 ?_ (fun H2 locs2 hw2 hS2 _ _ _ => ?_)
  · show tm_lsr 9 [] [.long v.toInt64, .int 0, .ref o] h' = _
    unfold tm_lsr
    simp only [ho]
    have z0 : (0 : Int32).toNatClampNeg = 0 := (z32 0 (by decide)).2
    rw [if_neg (by
      rintro (z | z)
      · exact absurd z (by decide)
      · rw [z0] at z
        omega), z0]
    rfl
  refine lv_goto (tgt := 17) hx hb dq_sort_10 (by decide) ?_
  refine lv_iconst (v := 0) hx hb dq_sort_17 (by decide) ?_
  refine tm_size (h := (tm_put h' o (.inl (3, k, .inr (.inl (vp_updL f 0 v.toInt64)))))) (by show h'.1 = s.heap.size + (0 + (h'.1 - h.1)); omega) hw2 (fun hH => ?_)
  rw [Nat.zero_add, Nat.zero_add]
  exact W.zret (ty := .int) hx hb hr rfl (fun t ht _ => ⟨rfl, by rw [ht]; exact hH, by rw [ht]; exact hw2, hS2.F ht⟩) hS2.2.2 dq_sort_18 hlk
theorem bd_sort_t {z : UInt64} (hlt : l.stackTraces = false) (hP : tm_prog (g_G sa sc xt) g_cl g_tbl D tc lo RX9 (EXq lo sa sc) l) (hq : tm_run (g_G sa sc xt) n d 114 0 (tm_ent [.ref x, .int p, .int q] 3) [] h = some (some (.double z), h')) (hx0 : h.2.2 x = .inr (11, fs)) (hd : 6 ≤ d) : Met l yL_sort (Cond.codeWith yL_sort cL_sort 5 (some .int) [(0, 10, 13, 13)] :: g_tbl) (tm_rm (d + 1) (h'.1 - h.1 + 1) (h'.2.1 - h.2.1 + 6)) (tm_Pc g_cl D tc lo RX9 (EXq lo sa sc) [.ref x, .int p, .int q, .ref o] h) (tm_Qc g_cl D tc lo (some (.int 1)) (tm_new h' 6 (.inr (13, [])))) (h'.1 - h.1 + 1) (h'.2.1 - h.2.1 + 6) (fun q => lo ≤ q) := by
  have hM := tx_thr (mi := 114) (as := [.ref x, .int p, .int q]) (Qc := va_Qi (fun _ (_ : Unit) => False) (fun _ _ => True) (fun q => lo ≤ q)) hlt hP ⟨by decide, Nat.le_refl 3⟩ rfl hq hd th_sort
  have g1 := tm_mono hP hq
  have hP0 := hP
  obtain ⟨hcl, hg, hsc, hft, hpl, hX⟩ := hP0
  refine tx_ofWH (cc := cL_sort) (maxL := 5) (ret := some .int) (hh := [(0, 10, 13, 13)]) pl_RL rfl ?_
  intro p2 e s m args below meth c s₁ B hml hv
  obtain ⟨rfl, v1, v2, v3, v4⟩ := hv
  have hx := B.exec
  have hb := B.bytes
  have hr := B.returns
  have hlk := B.notSynchronized
  have hts9 := atoms_spec (ws := Cond.codeWith yL_sort cL_sort 5 (some .int) [(0, 10, 13, 13)] :: g_tbl) B.pre
  have hts : ∀ w ∈ g_tbl, w.before ([.ref x, .int p, .int q, .ref o] : List Value).toArray s = true := fun w hw' => hts9 w (List.mem_cons_of_mem _ hw')
  have hown : s.vm.findClass RL = some m.cls := findClass_of_methodNamed B.named
  have hlo : lo ≤ s.heap.size := by rw [v1]; exact v2.1
  have hl := lv_entry ([.ref x, .int p, .int q, .ref o]) (n := 5) (Nat.le_of_ble_eq_true rfl)
  rw [lg_entry_eq]
  generalize (lg_sl ([.ref x, .int p, .int q, .ref o]) ++ List.replicate (5 - (lg_sl ([.ref x, .int p, .int q, .ref o])).length) Slot.unset).toArray = ls at hl ⊢
  have hl : lv_has ls 5 [(0, .ref x), (1, .int p), (2, .int q), (3, .ref o)] := hl
  have hS : va_S (fun q => lo ≤ q) s.heap s.heap [] := va_S.rf
  obtain ⟨w1, w2, w3⟩ := v2.obj hx0
  have hwsV : GoodIn g_tbl (wsV RL 7 RX11 yX11_sort (tm_ws (g_G sa sc xt) g_tbl 114)) := tm_GI hg (fun w hw' => by
    simp only [wsV, tm_ws, List.cons_append, List.nil_append, List.mem_cons] at hw'
    rcases hw' with rfl | rfl | rfl | rfl | rfl | hw'
    · exact wm_sort_1
    · exact wm_sort_2
    · exact wm_sort_3
    · exact wm_x
    · exact wm_sort_4
    · exact hw')
  refine lv_aload_n hx hb dq_sort_0 rfl (lv_at hl 3 rfl) ?_
  refine lv_iconst (v := 0) hx hb dq_sort_1 (by decide) ?_
  refine lv_aload_n hx hb dq_sort_2 rfl (lv_at hl 0 rfl) ?_
  refine lv_iload_n hx hb dq_sort_3 rfl (lv_at hl 1 rfl) ?_
  refine lv_iload_n hx hb dq_sort_4 rfl (lv_at hl 2 rfl) ?_
  refine vx_calli (S := Unit) (SX := Unit) (vx_runV (As := [.int p, .int q]) (rest := [.int 0, .ref o]) (b := x) ⟨hx, hb, hml, hown, hts⟩ hM (cwV 2 hts hwsV rfl rfl rfl ⟨rfl, ne1_RX11, ne2_RX11, (show Option.map (fun d => d.parameters.length) (parseMethodDescriptor yX11_sort.desc) = some 2 by decide +kernel)⟩ ⟨Nat.le_refl _, by show 8 + (3 + 11) + 41 * d ≤ 41 * (d + 1); omega⟩) ⟨tm_blind hcl, va_recv v3 v2.2.2.1 (show g_cl[11]? = some (RX11, TX11, 16) from rfl) w3, tm_preU hcl v3 v4 hlo v2 hS v1⟩ rfl rfl hl.1 rfl (lv_room (Nat.le_of_ble_eq_true rfl)) dq_sort_5 ⟨by show 0 + (h'.1 - h.1 + 1) ≤ h'.1 - h.1 + 1; omega, by show 0 + (h'.2.1 - h.2.1 + 6) ≤ h'.2.1 - h.2.1 + 6; omega⟩) hS (fun q _ z => z) (fun q z => z) (fun q _ z => z) (fun E ce q9 u t H1 locs1 ht ha _ hBX hz1 hk1 hS1 hce hcv hcl9 => ?_) (fun r u t H1 locs1 ht ha hp => (show False from hp).elim)
  obtain ⟨rfl, hw1⟩ := hBX
  rw [ht] at hw1
  refine vx_catch (own := RL) (name := NSE) hown [] ⟨0, 10, 13, 13⟩ [] ((vx_table (x := yL_sort) B (hts9 _ List.mem_cons_self)).trans rfl) (fun z hz => nomatch hz) (by decide) (by decide) (hts _ wm_l) (va_Nw.use rfl (EXq_3 v4).1.1) hce hcv hcl9 ?_
  refine lv_astore (x := q9) (lv' := [(4, .ref q9), (0, .ref x), (1, .int p), (2, .int q), (3, .ref o)]) hx hb dq_sort_13 hl (by decide) rfl (fun ls hl => ?_)
  refine lv_iconst (v := 1) hx hb dq_sort_15 (by decide) ?_
  refine tm_size (h := tm_new h' 6 (.inr (13, []))) (by show h'.1 + 1 = s.heap.size + (0 + (h'.1 - h.1 + 1)); omega) hw1 (fun hH => ?_)
  rw [Nat.zero_add, Nat.zero_add]
  exact W.zret (ty := .int) hx hb hr rfl (fun t ht _ => ⟨rfl, by rw [ht]; exact hH, by rw [ht]; exact hw1, hS1.F ht⟩) hS1.2.2 dq_sort_16 hlk
theorem bd_box_n {v : Int32} (hP : tm_prog (g_G sa sc xt) g_cl g_tbl D tc lo RX9 (EXq lo sa sc) l) (hq : tm_run (g_G sa sc xt) n d 115 0 (tm_ent [.ref x, .int p, .int q] 3) [] h = some (some (.int v), h')) (hx0 : h.2.2 x = .inr (11, fs)) (ho : h'.2.2 o = .inl (3, k, .inr (.inl f))) (hk : 1 ≤ k) : Met l yL_box (Cond.codeWith yL_box cL_box 5 (some .int) [(0, 10, 13, 13)] :: g_tbl) (tm_rm (d + 1) (h'.1 - h.1) (h'.2.1 - h.2.1)) (tm_Pc g_cl D tc lo RX9 (EXq lo sa sc) [.ref x, .int p, .int q, .ref o] h) (tm_Qc g_cl D tc lo (some (.int 0)) (tm_put h' o (.inl (3, k, .inr (.inl (vp_updL f 0 v.toInt64)))))) (h'.1 - h.1) (h'.2.1 - h.2.1) (fun q => lo ≤ q) := by
  have hM := tx_met (mi := 115) (as := [.ref x, .int p, .int q]) hP ⟨by decide, Nat.le_refl 3⟩ hq (fun z hz => by cases hz)
  have g1 := tm_mono hP hq
  have hP0 := hP
  obtain ⟨hcl, hg, hsc, hft, hpl, hX⟩ := hP0
  refine tx_ofWH (cc := cL_box) (maxL := 5) (ret := some .int) (hh := [(0, 10, 13, 13)]) pl_RL rfl ?_
  intro p2 e s m args below meth c s₁ B hml hv
  obtain ⟨rfl, v1, v2, v3, v4⟩ := hv
  have hx := B.exec
  have hb := B.bytes
  have hr := B.returns
  have hlk := B.notSynchronized
  have hts9 := atoms_spec (ws := Cond.codeWith yL_box cL_box 5 (some .int) [(0, 10, 13, 13)] :: g_tbl) B.pre
  have hts : ∀ w ∈ g_tbl, w.before ([.ref x, .int p, .int q, .ref o] : List Value).toArray s = true := fun w hw' => hts9 w (List.mem_cons_of_mem _ hw')
  have hown : s.vm.findClass RL = some m.cls := findClass_of_methodNamed B.named
  have hlo : lo ≤ s.heap.size := by rw [v1]; exact v2.1
  have hl := lv_entry ([.ref x, .int p, .int q, .ref o]) (n := 5) (Nat.le_of_ble_eq_true rfl)
  rw [lg_entry_eq]
  generalize (lg_sl ([.ref x, .int p, .int q, .ref o]) ++ List.replicate (5 - (lg_sl ([.ref x, .int p, .int q, .ref o])).length) Slot.unset).toArray = ls at hl ⊢
  have hl : lv_has ls 5 [(0, .ref x), (1, .int p), (2, .int q), (3, .ref o)] := hl
  have hS : va_S (fun q => lo ≤ q) s.heap s.heap [] := va_S.rf
  obtain ⟨w1, w2, w3⟩ := v2.obj hx0
  have hwsV : GoodIn g_tbl (wsV RL 15 RX11 yX11_box (tm_ws (g_G sa sc xt) g_tbl 115)) := tm_GI hg (fun w hw' => by
    simp only [wsV, tm_ws, List.cons_append, List.nil_append, List.mem_cons] at hw'
    rcases hw' with rfl | rfl | rfl | rfl | rfl | hw'
    · exact wm_box_1
    · exact wm_box_2
    · exact wm_box_3
    · exact wm_x
    · exact wm_box_4
    · exact hw')
  refine lv_aload_n hx hb dq_box_0 rfl (lv_at hl 3 rfl) ?_
  refine lv_iconst (v := 0) hx hb dq_box_1 (by decide) ?_
  refine lv_aload_n hx hb dq_box_2 rfl (lv_at hl 0 rfl) ?_
  refine lv_iload_n hx hb dq_box_3 rfl (lv_at hl 1 rfl) ?_
  refine lv_iload_n hx hb dq_box_4 rfl (lv_at hl 2 rfl) ?_
  refine tm_callW (va_runV (As := [.int p, .int q]) (rest := [.int 0, .ref o]) (b := x) ⟨hx, hb, hml, hown, hts⟩ hM (cwV 2 hts hwsV rfl rfl rfl ⟨rfl, ne1_RX11, ne2_RX11, (show Option.map (fun d => d.parameters.length) (parseMethodDescriptor yX11_box.desc) = some 2 by decide +kernel)⟩ ⟨Nat.le_refl _, by show 8 + (3 + 11) + 41 * d ≤ 41 * (d + 1); omega⟩) ⟨tm_blind hcl, va_recv v3 v2.2.2.1 (show g_cl[11]? = some (RX11, TX11, 16) from rfl) w3, tm_preU hcl v3 v4 hlo v2 hS v1⟩ rfl rfl hl.1 rfl (lv_room (Nat.le_of_ble_eq_true rfl)) dq_box_5 ⟨by show 0 + (h'.1 - h.1) ≤ h'.1 - h.1; omega, by show 0 + (h'.2.1 - h.2.1) ≤ h'.2.1 - h.2.1; omega⟩) hS (fun H1 locs1 z1 hw1 hS1 => ?_)
  refine lv_i2l (v := v.toInt64) hx hb dq_box_8 rfl ?_
  refine tm_lsr_r (h := h') (h1 := (tm_put h' o (.inl (3, k, .inr (.inl (vp_updL f 0 v.toInt64)))))) (ls := []) (ls' := []) (st' := []) (pc' := 10) hx hb v3 dq_box_9 hw1 hS1 ?_ (fun H2 locs2 hw2 hS2 _ _ _ => ?_)
  · show tm_lsr 9 [] [.long v.toInt64, .int 0, .ref o] h' = _
    unfold tm_lsr
    simp only [ho]
    have z0 : (0 : Int32).toNatClampNeg = 0 := (z32 0 (by decide)).2
    rw [if_neg (by
      rintro (z | z)
      · exact absurd z (by decide)
      · rw [z0] at z
        omega), z0]
    rfl
  refine lv_goto (tgt := 17) hx hb dq_box_10 (by decide) ?_
  refine lv_iconst (v := 0) hx hb dq_box_17 (by decide) ?_
  refine tm_size (h := (tm_put h' o (.inl (3, k, .inr (.inl (vp_updL f 0 v.toInt64)))))) (by show h'.1 = s.heap.size + (0 + (h'.1 - h.1)); omega) hw2 (fun hH => ?_)
  rw [Nat.zero_add, Nat.zero_add]
  exact W.zret (ty := .int) hx hb hr rfl (fun t ht _ => ⟨rfl, by rw [ht]; exact hH, by rw [ht]; exact hw2, hS2.F ht⟩) hS2.2.2 dq_box_18 hlk
theorem bd_box_t {z : UInt64} (hlt : l.stackTraces = false) (hP : tm_prog (g_G sa sc xt) g_cl g_tbl D tc lo RX9 (EXq lo sa sc) l) (hq : tm_run (g_G sa sc xt) n d 115 0 (tm_ent [.ref x, .int p, .int q] 3) [] h = some (some (.double z), h')) (hx0 : h.2.2 x = .inr (11, fs)) (hd : 6 ≤ d) : Met l yL_box (Cond.codeWith yL_box cL_box 5 (some .int) [(0, 10, 13, 13)] :: g_tbl) (tm_rm (d + 1) (h'.1 - h.1 + 1) (h'.2.1 - h.2.1 + 6)) (tm_Pc g_cl D tc lo RX9 (EXq lo sa sc) [.ref x, .int p, .int q, .ref o] h) (tm_Qc g_cl D tc lo (some (.int 1)) (tm_new h' 6 (.inr (13, [])))) (h'.1 - h.1 + 1) (h'.2.1 - h.2.1 + 6) (fun q => lo ≤ q) := by
  have hM := tx_thr (mi := 115) (as := [.ref x, .int p, .int q]) (Qc := va_Qi (fun _ (_ : Unit) => False) (fun _ _ => True) (fun q => lo ≤ q)) hlt hP ⟨by decide, Nat.le_refl 3⟩ rfl hq hd th_box
  have g1 := tm_mono hP hq
  have hP0 := hP
  obtain ⟨hcl, hg, hsc, hft, hpl, hX⟩ := hP0
  refine tx_ofWH (cc := cL_box) (maxL := 5) (ret := some .int) (hh := [(0, 10, 13, 13)]) pl_RL rfl ?_
  intro p2 e s m args below meth c s₁ B hml hv
  obtain ⟨rfl, v1, v2, v3, v4⟩ := hv
  have hx := B.exec
  have hb := B.bytes
  have hr := B.returns
  have hlk := B.notSynchronized
  have hts9 := atoms_spec (ws := Cond.codeWith yL_box cL_box 5 (some .int) [(0, 10, 13, 13)] :: g_tbl) B.pre
  have hts : ∀ w ∈ g_tbl, w.before ([.ref x, .int p, .int q, .ref o] : List Value).toArray s = true := fun w hw' => hts9 w (List.mem_cons_of_mem _ hw')
  have hown : s.vm.findClass RL = some m.cls := findClass_of_methodNamed B.named
  have hlo : lo ≤ s.heap.size := by rw [v1]; exact v2.1
  have hl := lv_entry ([.ref x, .int p, .int q, .ref o]) (n := 5) (Nat.le_of_ble_eq_true rfl)
  rw [lg_entry_eq]
  generalize (lg_sl ([.ref x, .int p, .int q, .ref o]) ++ List.replicate (5 - (lg_sl ([.ref x, .int p, .int q, .ref o])).length) Slot.unset).toArray = ls at hl ⊢
  have hl : lv_has ls 5 [(0, .ref x), (1, .int p), (2, .int q), (3, .ref o)] := hl
  have hS : va_S (fun q => lo ≤ q) s.heap s.heap [] := va_S.rf
  obtain ⟨w1, w2, w3⟩ := v2.obj hx0
  have hwsV : GoodIn g_tbl (wsV RL 15 RX11 yX11_box (tm_ws (g_G sa sc xt) g_tbl 115)) := tm_GI hg (fun w hw' => by
    simp only [wsV, tm_ws, List.cons_append, List.nil_append, List.mem_cons] at hw'
    rcases hw' with rfl | rfl | rfl | rfl | rfl | hw'
    · exact wm_box_1
    · exact wm_box_2
    · exact wm_box_3
    · exact wm_x
    · exact wm_box_4
    · exact hw')
  refine lv_aload_n hx hb dq_box_0 rfl (lv_at hl 3 rfl) ?_
  refine lv_iconst (v := 0) hx hb dq_box_1 (by decide) ?_
  refine lv_aload_n hx hb dq_box_2 rfl (lv_at hl 0 rfl) ?_
  refine lv_iload_n hx hb dq_box_3 rfl (lv_at hl 1 rfl) ?_
  refine lv_iload_n hx hb dq_box_4 rfl (lv_at hl 2 rfl) ?_
  refine vx_calli (S := Unit) (SX := Unit) (vx_runV (As := [.int p, .int q]) (rest := [.int 0, .ref o]) (b := x) ⟨hx, hb, hml, hown, hts⟩ hM (cwV 2 hts hwsV rfl rfl rfl ⟨rfl, ne1_RX11, ne2_RX11, (show Option.map (fun d => d.parameters.length) (parseMethodDescriptor yX11_box.desc) = some 2 by decide +kernel)⟩ ⟨Nat.le_refl _, by show 8 + (3 + 11) + 41 * d ≤ 41 * (d + 1); omega⟩) ⟨tm_blind hcl, va_recv v3 v2.2.2.1 (show g_cl[11]? = some (RX11, TX11, 16) from rfl) w3, tm_preU hcl v3 v4 hlo v2 hS v1⟩ rfl rfl hl.1 rfl (lv_room (Nat.le_of_ble_eq_true rfl)) dq_box_5 ⟨by show 0 + (h'.1 - h.1 + 1) ≤ h'.1 - h.1 + 1; omega, by show 0 + (h'.2.1 - h.2.1 + 6) ≤ h'.2.1 - h.2.1 + 6; omega⟩) hS (fun q _ z => z) (fun q z => z) (fun q _ z => z) (fun E ce q9 u t H1 locs1 ht ha _ hBX hz1 hk1 hS1 hce hcv hcl9 => ?_) (fun r u t H1 locs1 ht ha hp => (show False from hp).elim)
  obtain ⟨rfl, hw1⟩ := hBX
  rw [ht] at hw1
  refine vx_catch (own := RL) (name := NSE) hown [] ⟨0, 10, 13, 13⟩ [] ((vx_table (x := yL_box) B (hts9 _ List.mem_cons_self)).trans rfl) (fun z hz => nomatch hz) (by decide) (by decide) (hts _ wm_l) (va_Nw.use rfl (EXq_3 v4).1.1) hce hcv hcl9 ?_
  refine lv_astore (x := q9) (lv' := [(4, .ref q9), (0, .ref x), (1, .int p), (2, .int q), (3, .ref o)]) hx hb dq_box_13 hl (by decide) rfl (fun ls hl => ?_)
  refine lv_iconst (v := 1) hx hb dq_box_15 (by decide) ?_
  refine tm_size (h := tm_new h' 6 (.inr (13, []))) (by show h'.1 + 1 = s.heap.size + (0 + (h'.1 - h.1 + 1)); omega) hw1 (fun hH => ?_)
  rw [Nat.zero_add, Nat.zero_add]
  exact W.zret (ty := .int) hx hb hr rfl (fun t ht _ => ⟨rfl, by rw [ht]; exact hH, by rw [ht]; exact hw1, hS1.F ht⟩) hS1.2.2 dq_box_16 hlk
theorem bd_row_n {v : Int64} (hP : tm_prog (g_G sa sc xt) g_cl g_tbl D tc lo RX9 (EXq lo sa sc) l) (hq : tm_run (g_G sa sc xt) n d 155 0 (tm_ent [.ref x, .int p] 2) [] h = some (some (.long v), h')) (hx0 : h.2.2 x = .inr (11, fs)) (ho : h'.2.2 o = .inl (3, k, .inr (.inl f))) (hk : 1 ≤ k) : Met l yL_row (Cond.codeWith yL_row cL_row 4 (some .int) [(0, 8, 11, 13)] :: g_tbl) (tm_rm (d + 1) (h'.1 - h.1) (h'.2.1 - h.2.1)) (tm_Pc g_cl D tc lo RX9 (EXq lo sa sc) [.ref x, .int p, .ref o] h) (tm_Qc g_cl D tc lo (some (.int 0)) (tm_put h' o (.inl (3, k, .inr (.inl (vp_updL f 0 v)))))) (h'.1 - h.1) (h'.2.1 - h.2.1) (fun q => lo ≤ q) := by
  have hM := tx_met (mi := 155) (as := [.ref x, .int p]) hP ⟨by decide, Nat.le_refl 2⟩ hq (fun z hz => by cases hz)
  have g1 := tm_mono hP hq
  have hP0 := hP
  obtain ⟨hcl, hg, hsc, hft, hpl, hX⟩ := hP0
  refine tx_ofWH (cc := cL_row) (maxL := 4) (ret := some .int) (hh := [(0, 8, 11, 13)]) pl_RL rfl ?_
  intro p2 e s m args below meth c s₁ B hml hv
  obtain ⟨rfl, v1, v2, v3, v4⟩ := hv
  have hx := B.exec
  have hb := B.bytes
  have hr := B.returns
  have hlk := B.notSynchronized
  have hts9 := atoms_spec (ws := Cond.codeWith yL_row cL_row 4 (some .int) [(0, 8, 11, 13)] :: g_tbl) B.pre
  have hts : ∀ w ∈ g_tbl, w.before ([.ref x, .int p, .ref o] : List Value).toArray s = true := fun w hw' => hts9 w (List.mem_cons_of_mem _ hw')
  have hown : s.vm.findClass RL = some m.cls := findClass_of_methodNamed B.named
  have hlo : lo ≤ s.heap.size := by rw [v1]; exact v2.1
  have hl := lv_entry ([.ref x, .int p, .ref o]) (n := 4) (Nat.le_of_ble_eq_true rfl)
  rw [lg_entry_eq]
  generalize (lg_sl ([.ref x, .int p, .ref o]) ++ List.replicate (4 - (lg_sl ([.ref x, .int p, .ref o])).length) Slot.unset).toArray = ls at hl ⊢
  have hl : lv_has ls 4 [(0, .ref x), (1, .int p), (2, .ref o)] := hl
  have hS : va_S (fun q => lo ≤ q) s.heap s.heap [] := va_S.rf
  obtain ⟨w1, w2, w3⟩ := v2.obj hx0
  have hwsV : GoodIn g_tbl (wsV RL 18 RX11 yX11_row (tm_ws (g_G sa sc xt) g_tbl 155)) := tm_GI hg (fun w hw' => by
    simp only [wsV, tm_ws, List.cons_append, List.nil_append, List.mem_cons] at hw'
    rcases hw' with rfl | rfl | rfl | rfl | rfl | hw'
    · exact wm_row_1
    · exact wm_row_2
    · exact wm_row_3
    · exact wm_x
    · exact wm_row_4
    · exact hw')
  refine lv_aload_n hx hb dq_row_0 rfl (lv_at hl 2 rfl) ?_
  refine lv_iconst (v := 0) hx hb dq_row_1 (by decide) ?_
  refine lv_aload_n hx hb dq_row_2 rfl (lv_at hl 0 rfl) ?_
  refine lv_iload_n hx hb dq_row_3 rfl (lv_at hl 1 rfl) ?_
  refine tm_callW (va_runV (As := [.int p]) (rest := [.int 0, .ref o]) (b := x) ⟨hx, hb, hml, hown, hts⟩ hM (cwV 1 hts hwsV rfl rfl rfl ⟨rfl, ne1_RX11, ne2_RX11, (show Option.map (fun d => d.parameters.length) (parseMethodDescriptor yX11_row.desc) = some 1 by decide +kernel)⟩ ⟨Nat.le_refl _, by show 8 + (2 + 11) + 41 * d ≤ 41 * (d + 1); omega⟩) ⟨tm_blind hcl, va_recv v3 v2.2.2.1 (show g_cl[11]? = some (RX11, TX11, 16) from rfl) w3, tm_preU hcl v3 v4 hlo v2 hS v1⟩ rfl rfl hl.1 rfl (lv_room (Nat.le_of_ble_eq_true rfl)) dq_row_4 ⟨by show 0 + (h'.1 - h.1) ≤ h'.1 - h.1; omega, by show 0 + (h'.2.1 - h.2.1) ≤ h'.2.1 - h.2.1; omega⟩) hS (fun H1 locs1 z1 hw1 hS1 => ?_)
  refine tm_lsr_r (h := h') (h1 := (tm_put h' o (.inl (3, k, .inr (.inl (vp_updL f 0 v)))))) (ls := []) (ls' := []) (st' := []) (pc' := 8) hx hb v3 dq_row_7 hw1 hS1 ?_ (fun H2 locs2 hw2 hS2 _ _ _ => ?_)
  · show tm_lsr 7 [] [.long v, .int 0, .ref o] h' = _
    unfold tm_lsr
    simp only [ho]
    have z0 : (0 : Int32).toNatClampNeg = 0 := (z32 0 (by decide)).2
    rw [if_neg (by
      rintro (z | z)
      · exact absurd z (by decide)
      · rw [z0] at z
        omega), z0]
    rfl
  refine lv_goto (tgt := 14) hx hb dq_row_8 (by decide) ?_
  refine lv_iconst (v := 0) hx hb dq_row_14 (by decide) ?_
  refine tm_size (h := (tm_put h' o (.inl (3, k, .inr (.inl (vp_updL f 0 v)))))) (by show h'.1 = s.heap.size + (0 + (h'.1 - h.1)); omega) hw2 (fun hH => ?_)
  rw [Nat.zero_add, Nat.zero_add]
  exact W.zret (ty := .int) hx hb hr rfl (fun t ht _ => ⟨rfl, by rw [ht]; exact hH, by rw [ht]; exact hw2, hS2.F ht⟩) hS2.2.2 dq_row_15 hlk
theorem bd_row_t {z : UInt64} (hlt : l.stackTraces = false) (hP : tm_prog (g_G sa sc xt) g_cl g_tbl D tc lo RX9 (EXq lo sa sc) l) (hq : tm_run (g_G sa sc xt) n d 155 0 (tm_ent [.ref x, .int p] 2) [] h = some (some (.double z), h')) (hx0 : h.2.2 x = .inr (11, fs)) (hd : 6 ≤ d) : Met l yL_row (Cond.codeWith yL_row cL_row 4 (some .int) [(0, 8, 11, 13)] :: g_tbl) (tm_rm (d + 1) (h'.1 - h.1 + 1) (h'.2.1 - h.2.1 + 6)) (tm_Pc g_cl D tc lo RX9 (EXq lo sa sc) [.ref x, .int p, .ref o] h) (tm_Qc g_cl D tc lo (some (.int 1)) (tm_new h' 6 (.inr (13, [])))) (h'.1 - h.1 + 1) (h'.2.1 - h.2.1 + 6) (fun q => lo ≤ q) := by
  have hM := tx_thr (mi := 155) (as := [.ref x, .int p]) (Qc := va_Ql (fun _ (_ : Unit) => False) (fun _ _ => True) (fun q => lo ≤ q)) hlt hP ⟨by decide, Nat.le_refl 2⟩ rfl hq hd th_row
  have g1 := tm_mono hP hq
  have hP0 := hP
  obtain ⟨hcl, hg, hsc, hft, hpl, hX⟩ := hP0
  refine tx_ofWH (cc := cL_row) (maxL := 4) (ret := some .int) (hh := [(0, 8, 11, 13)]) pl_RL rfl ?_
  intro p2 e s m args below meth c s₁ B hml hv
  obtain ⟨rfl, v1, v2, v3, v4⟩ := hv
  have hx := B.exec
  have hb := B.bytes
  have hr := B.returns
  have hlk := B.notSynchronized
  have hts9 := atoms_spec (ws := Cond.codeWith yL_row cL_row 4 (some .int) [(0, 8, 11, 13)] :: g_tbl) B.pre
  have hts : ∀ w ∈ g_tbl, w.before ([.ref x, .int p, .ref o] : List Value).toArray s = true := fun w hw' => hts9 w (List.mem_cons_of_mem _ hw')
  have hown : s.vm.findClass RL = some m.cls := findClass_of_methodNamed B.named
  have hlo : lo ≤ s.heap.size := by rw [v1]; exact v2.1
  have hl := lv_entry ([.ref x, .int p, .ref o]) (n := 4) (Nat.le_of_ble_eq_true rfl)
  rw [lg_entry_eq]
  generalize (lg_sl ([.ref x, .int p, .ref o]) ++ List.replicate (4 - (lg_sl ([.ref x, .int p, .ref o])).length) Slot.unset).toArray = ls at hl ⊢
  have hl : lv_has ls 4 [(0, .ref x), (1, .int p), (2, .ref o)] := hl
  have hS : va_S (fun q => lo ≤ q) s.heap s.heap [] := va_S.rf
  obtain ⟨w1, w2, w3⟩ := v2.obj hx0
  have hwsV : GoodIn g_tbl (wsV RL 18 RX11 yX11_row (tm_ws (g_G sa sc xt) g_tbl 155)) := tm_GI hg (fun w hw' => by
    simp only [wsV, tm_ws, List.cons_append, List.nil_append, List.mem_cons] at hw'
    rcases hw' with rfl | rfl | rfl | rfl | rfl | hw'
    · exact wm_row_1
    · exact wm_row_2
    · exact wm_row_3
    · exact wm_x
    · exact wm_row_4
    · exact hw')
  refine lv_aload_n hx hb dq_row_0 rfl (lv_at hl 2 rfl) ?_
  refine lv_iconst (v := 0) hx hb dq_row_1 (by decide) ?_
  refine lv_aload_n hx hb dq_row_2 rfl (lv_at hl 0 rfl) ?_
  refine lv_iload_n hx hb dq_row_3 rfl (lv_at hl 1 rfl) ?_
  refine vx_calll (S := Unit) (SX := Unit) (vx_runV (As := [.int p]) (rest := [.int 0, .ref o]) (b := x) ⟨hx, hb, hml, hown, hts⟩ hM (cwV 1 hts hwsV rfl rfl rfl ⟨rfl, ne1_RX11, ne2_RX11, (show Option.map (fun d => d.parameters.length) (parseMethodDescriptor yX11_row.desc) = some 1 by decide +kernel)⟩ ⟨Nat.le_refl _, by show 8 + (2 + 11) + 41 * d ≤ 41 * (d + 1); omega⟩) ⟨tm_blind hcl, va_recv v3 v2.2.2.1 (show g_cl[11]? = some (RX11, TX11, 16) from rfl) w3, tm_preU hcl v3 v4 hlo v2 hS v1⟩ rfl rfl hl.1 rfl (lv_room (Nat.le_of_ble_eq_true rfl)) dq_row_4 ⟨by show 0 + (h'.1 - h.1 + 1) ≤ h'.1 - h.1 + 1; omega, by show 0 + (h'.2.1 - h.2.1 + 6) ≤ h'.2.1 - h.2.1 + 6; omega⟩) hS (fun q _ z => z) (fun q z => z) (fun q _ z => z) (fun E ce q9 u t H1 locs1 ht ha _ hBX hz1 hk1 hS1 hce hcv hcl9 => ?_) (fun r u t H1 locs1 ht ha hp => (show False from hp).elim)
  obtain ⟨rfl, hw1⟩ := hBX
  rw [ht] at hw1
  refine vx_catch (own := RL) (name := NSE) hown [] ⟨0, 8, 11, 13⟩ [] ((vx_table (x := yL_row) B (hts9 _ List.mem_cons_self)).trans rfl) (fun z hz => nomatch hz) (by decide) (by decide) (hts _ wm_l) (va_Nw.use rfl (EXq_3 v4).1.1) hce hcv hcl9 ?_
  refine lv_astore_n (x := q9) (lv' := [(3, .ref q9), (0, .ref x), (1, .int p), (2, .ref o)]) hx hb dq_row_11 rfl hl (by decide) rfl (fun ls hl => ?_)
  refine lv_iconst (v := 1) hx hb dq_row_12 (by decide) ?_
  refine tm_size (h := tm_new h' 6 (.inr (13, []))) (by show h'.1 + 1 = s.heap.size + (0 + (h'.1 - h.1 + 1)); omega) hw1 (fun hH => ?_)
  rw [Nat.zero_add, Nat.zero_add]
  exact W.zret (ty := .int) hx hb hr rfl (fun t ht _ => ⟨rfl, by rw [ht]; exact hH, by rw [ht]; exact hw1, hS1.F ht⟩) hS1.2.2 dq_row_13 hlk
end
