/-! calls that return or throw: contracts out of runs of the thin machine -/
abbrev NSE : String := "java/util/NoSuchElementException"
def rx9 : ByteArray := ⟨#[0x2a, 0x2b, 0xb7, 0x00, 0x0d, 0xb1]⟩
def X3 (lo : Nat) (s : State) : Prop := (va_Nw (.castable NSE NSE) s ∧ va_Nw (.declares (Bundle.initS "java/lang/RuntimeException")) s ∧ va_Nw (.declares (Bundle.initS "java/lang/Exception")) s ∧ va_Nw (.declares (Bundle.initS Bundle.tN)) s) ∧ vx_Zq Bundle.tN "UNASSIGNED_STACK" Bundle.steD (fun q => lo ≤ q) s s.heap ∧ vx_Zq Bundle.tN "SUPPRESSED_SENTINEL" Bundle.listD (fun q => lo ≤ q) s s.heap
theorem X3_cls {lo : Nat} : tm_cls lo (X3 lo) := by
  rintro U U' hh hv ⟨⟨h1, i1, i2, i3⟩, h2, h3⟩
  have hal : U.vm.Alike U'.vm := by
    rcases hv with hv | hv
    · rw [hv]; exact Vm.Alike.refl _
    · exact hv.alike
  have hq : ∀ a : Nat, a < U.heap.size → ¬ (lo ≤ a) → U'.heap[a]? = U.heap[a]? := fun a _ ha => hh a (Nat.lt_of_not_le ha)
  refine ⟨?_, vx_Zq.moved hal (h2.kept hq), vx_Zq.moved hal (h3.kept hq)⟩
  rcases hv with hv | hv
  · exact ⟨va_Nw.same rfl hv.symm h1, va_Nw.same rfl hv.symm i1, va_Nw.same rfl hv.symm i2, va_Nw.same rfl hv.symm i3⟩
  · exact ⟨va_Nw.warmC hv h1, va_Nw.warmD hv i1, va_Nw.warmD hv i2, va_Nw.warmD hv i3⟩
abbrev EXq (lo : Nat) (sa : g_SA) (sc : Nat × Nat × (Nat → Int32)) : State → Prop := g_EX sa (g_X2 lo sa sc (X3 lo))
theorem EXq_R {lo : Nat} {sa : g_SA} {sc : Nat × Nat × (Nat → Int32)} {s : State} (h : EXq lo sa sc s) (i : Nat) {q : String × Nat × String × Nat} (hq : g_strs[i]? = some q) : vk_R q.1 q.2.1 q.2.2.1 (sa.1 q.2.2.2) s := h.2.2.1 q (List.mem_of_getElem? hq)
theorem EXq_3 {lo : Nat} {sa : g_SA} {sc : Nat × Nat × (Nat → Int32)} {s : State} (h : EXq lo sa sc s) : X3 lo s := h.2.2.2.2
theorem wx_0 : ∀ w ∈ (tx_atX RX11 131 NSE 13 rx9 ["java/lang/RuntimeException", "java/lang/Exception"]).filter goodWord, w ∈ lw_tbl := by decide +kernel
theorem wx_1 : ∀ w ∈ (tx_atX RX11 131 NSE 13 rx9 ["java/lang/RuntimeException", "java/lang/Exception"]).filter (fun w => !goodWord w), w ∈ [Cond.castable NSE NSE, .declares (Bundle.initS "java/lang/RuntimeException"), .declares (Bundle.initS "java/lang/Exception"), .declares (Bundle.initS Bundle.tN)] := by decide +kernel
theorem wx_2 : ∀ w ∈ Cond.classLink RX11 127 NSE :: Cond.initialized NSE :: tx_atX RX11 131 NSE 13 rx9 ["java/lang/RuntimeException", "java/lang/Exception"], vx_ot w = true := by decide +kernel
theorem wx_5 : decode rx9 0 = .ok (.aload_n 0, 1) ∧ decode rx9 1 = .ok (.aload_n 1, 1) ∧ decode rx9 2 = .ok (.invokespecial 13, 3) ∧ decode rx9 5 = .ok (.return_, 1) := by decide +kernel
theorem wx_3 : Bundle.fit NSE = true := by decide +kernel
theorem wx_4 : ∀ n ∈ ["java/lang/RuntimeException", "java/lang/Exception"], Bundle.fit n = true := by decide +kernel
theorem wm_k : (Cond.classLink RX11 127 NSE : Cond) ∈ g_tbl := (gm_w5_11 (List.mem_of_getElem? (i := 8) rfl) rfl : (Cond.classLink RX11 127 NSE : Cond) ∈ g_tbl)
theorem wm_i : (Cond.initialized NSE : Cond) ∈ g_tbl := (gm_w1_1 (List.mem_of_getElem? (i := 7) rfl) rfl : (Cond.initialized NSE : Cond) ∈ g_tbl)
theorem wm_l : (Cond.classLink RL 13 NSE : Cond) ∈ g_tbl := (gm_w5_11 (List.mem_of_getElem? (i := 3) rfl) rfl : (Cond.classLink RL 13 NSE : Cond) ∈ g_tbl)
theorem wm_x : (Cond.initialized RX11 : Cond) ∈ g_tbl := (gm_w1_0 (List.mem_of_getElem? (i := 1) rfl) rfl : (Cond.initialized RX11 : Cond) ∈ g_tbl)
theorem wm_y : (Cond.initialized RL : Cond) ∈ g_tbl := (gm_w1_0 (List.mem_of_getElem? (i := 0) rfl) rfl : (Cond.initialized RL : Cond) ∈ g_tbl)
theorem wm_sort_1 : (Cond.methodLink RL 7 yX11_sort : Cond) ∈ g_tbl := (gm_w5_11 (List.mem_of_getElem? (i := 4) rfl) rfl : (Cond.methodLink RL 7 yX11_sort : Cond) ∈ g_tbl)
theorem wm_sort_2 : (Cond.instanceMethod yX11_sort : Cond) ∈ g_tbl := (gm_w5_11 (List.mem_of_getElem? (i := 5) rfl) rfl : (Cond.instanceMethod yX11_sort : Cond) ∈ g_tbl)
theorem wm_sort_3 : (Cond.selects RX11 yX11_sort yX11_sort : Cond) ∈ g_tbl := (gm_w5_11 (List.mem_of_getElem? (i := 6) rfl) rfl : (Cond.selects RX11 yX11_sort yX11_sort : Cond) ∈ g_tbl)
theorem wm_sort_4 : (Cond.code yX11_sort cX11_sort 3 (some .int) : Cond) ∈ g_tbl := (gm_w5_11 (List.mem_of_getElem? (i := 7) rfl) rfl : (Cond.code yX11_sort cX11_sort 3 (some .int) : Cond) ∈ g_tbl)
theorem wm_sort_5 : (Cond.methodLink RL 45 yL_sort : Cond) ∈ g_tbl := (gm_w5_11 (List.mem_of_getElem? (i := 0) rfl) rfl : (Cond.methodLink RL 45 yL_sort : Cond) ∈ g_tbl)
theorem wm_sort_6 : (Cond.static yL_sort : Cond) ∈ g_tbl := (gm_w5_11 (List.mem_of_getElem? (i := 1) rfl) rfl : (Cond.static yL_sort : Cond) ∈ g_tbl)
theorem wm_sort_7 : (Cond.codeWith yL_sort cL_sort 5 (some .int) [(0, 10, 13, 13)] : Cond) ∈ g_tbl := (gm_w5_11 (List.mem_of_getElem? (i := 2) rfl) rfl : (Cond.codeWith yL_sort cL_sort 5 (some .int) [(0, 10, 13, 13)] : Cond) ∈ g_tbl)
theorem wm_box_1 : (Cond.methodLink RL 15 yX11_box : Cond) ∈ g_tbl := (gm_w6_1 (List.mem_of_getElem? (i := 1) rfl) rfl : (Cond.methodLink RL 15 yX11_box : Cond) ∈ g_tbl)
theorem wm_box_2 : (Cond.instanceMethod yX11_box : Cond) ∈ g_tbl := (gm_w6_1 (List.mem_of_getElem? (i := 2) rfl) rfl : (Cond.instanceMethod yX11_box : Cond) ∈ g_tbl)
theorem wm_box_3 : (Cond.selects RX11 yX11_box yX11_box : Cond) ∈ g_tbl := (gm_w6_1 (List.mem_of_getElem? (i := 3) rfl) rfl : (Cond.selects RX11 yX11_box yX11_box : Cond) ∈ g_tbl)
theorem wm_box_4 : (Cond.code yX11_box cX11_box 3 (some .int) : Cond) ∈ g_tbl := (gm_w6_1 (List.mem_of_getElem? (i := 4) rfl) rfl : (Cond.code yX11_box cX11_box 3 (some .int) : Cond) ∈ g_tbl)
theorem wm_box_5 : (Cond.methodLink RL 54 yL_box : Cond) ∈ g_tbl := (gm_w6_0 (List.mem_of_getElem? (i := 14) rfl) rfl : (Cond.methodLink RL 54 yL_box : Cond) ∈ g_tbl)
theorem wm_box_6 : (Cond.static yL_box : Cond) ∈ g_tbl := (gm_w6_0 (List.mem_of_getElem? (i := 15) rfl) rfl : (Cond.static yL_box : Cond) ∈ g_tbl)
theorem wm_box_7 : (Cond.codeWith yL_box cL_box 5 (some .int) [(0, 10, 13, 13)] : Cond) ∈ g_tbl := (gm_w6_1 (List.mem_of_getElem? (i := 0) rfl) rfl : (Cond.codeWith yL_box cL_box 5 (some .int) [(0, 10, 13, 13)] : Cond) ∈ g_tbl)
theorem wm_row_1 : (Cond.methodLink RL 18 yX11_row : Cond) ∈ g_tbl := (gm_w6_1 (List.mem_of_getElem? (i := 11) rfl) rfl : (Cond.methodLink RL 18 yX11_row : Cond) ∈ g_tbl)
theorem wm_row_2 : (Cond.instanceMethod yX11_row : Cond) ∈ g_tbl := (gm_w6_1 (List.mem_of_getElem? (i := 12) rfl) rfl : (Cond.instanceMethod yX11_row : Cond) ∈ g_tbl)
theorem wm_row_3 : (Cond.selects RX11 yX11_row yX11_row : Cond) ∈ g_tbl := (gm_w6_1 (List.mem_of_getElem? (i := 13) rfl) rfl : (Cond.selects RX11 yX11_row yX11_row : Cond) ∈ g_tbl)
theorem wm_row_4 : (Cond.code yX11_row cX11_row 2 (some .long) : Cond) ∈ g_tbl := (gm_w6_1 (List.mem_of_getElem? (i := 14) rfl) rfl : (Cond.code yX11_row cX11_row 2 (some .long) : Cond) ∈ g_tbl)
theorem wm_row_5 : (Cond.methodLink RL 215 yL_row : Cond) ∈ g_tbl := (gm_w6_1 (List.mem_of_getElem? (i := 8) rfl) rfl : (Cond.methodLink RL 215 yL_row : Cond) ∈ g_tbl)
theorem wm_row_6 : (Cond.static yL_row : Cond) ∈ g_tbl := (gm_w6_1 (List.mem_of_getElem? (i := 9) rfl) rfl : (Cond.static yL_row : Cond) ∈ g_tbl)
theorem wm_row_7 : (Cond.codeWith yL_row cL_row 4 (some .int) [(0, 8, 11, 13)] : Cond) ∈ g_tbl := (gm_w6_1 (List.mem_of_getElem? (i := 10) rfl) rfl : (Cond.codeWith yL_row cL_row 4 (some .int) [(0, 8, 11, 13)] : Cond) ∈ g_tbl)
def thr9 (cc : ByteArray) (EX : State → Prop) (pc : Nat) : Prop := ∃ (is : Nat) (tx : String) (a : Nat), (∀ s, EX s → vk_R RX11 is tx a s) ∧ decode cc pc = .ok (.new 127, 3) ∧ decode cc (pc + 3) = .ok (.dup, 1) ∧ ((decode cc (pc + 4) = .ok (.ldc is, 2) ∧ decode cc (pc + 6) = .ok (.invokespecial 131, 3) ∧ decode cc (pc + 9) = .ok (.athrow, 1)) ∨ (decode cc (pc + 4) = .ok (.ldc_w is, 3) ∧ decode cc (pc + 7) = .ok (.invokespecial 131, 3) ∧ decode cc (pc + 10) = .ok (.athrow, 1)))
section
variable {sa : g_SA} {sc : Nat × Nat × (Nat → Int32)} {xt : Nat → Nat → List Value → tm_H → Option (Option Value × tm_H)} {D : va_G} {tc : Nat → ClassId} {lo : Nat} {l : Launch}
variable {mi n d : Nat} {as : List Value} {h h' : tm_H}
theorem tx_met {r : Option Value} (hP : tm_prog (g_G sa sc xt) g_cl g_tbl D tc lo RX9 (EXq lo sa sc) l) (hmi : mi < 1000 ∧ (tm_ex as).length ≤ (tm_mt (g_G sa sc xt) mi).2.2.1) (hq : tm_run (g_G sa sc xt) n d mi 0 (tm_ent as (tm_mt (g_G sa sc xt) mi).2.2.1) [] h = some (r, h')) (hnd : ∀ x, r ≠ some (.double x)) : tm_Met (g_G sa sc xt) g_cl g_tbl D tc lo RX9 (EXq lo sa sc) l d mi as h r h' := by
  have g1 := tm_mono hP hq
  have hP0 := hP
  obtain ⟨hcl, hg, hsc, hft, hpl, hX⟩ := hP0
  unfold tm_Met
  refine Met.ofW (cc := (tm_mt (g_G sa sc xt) mi).2.1) (maxL := (tm_mt (g_G sa sc xt) mi).2.2.1) (ret := (tm_mt (g_G sa sc xt) mi).2.2.2.1) (hpl mi hmi.1) rfl ?_
  intro p2 e2 s2 m2 args2 below2 meth2 c2 s₁ B hml hv
  obtain ⟨rfl, v1, v2, v3, v4⟩ := hv
  have hts2 := atoms_spec (ws := tm_ws (g_G sa sc xt) g_tbl mi) B.pre
  have hn := name_of_methodNamed B.named B.method
  rw [lg_entry_eq]
  refine tm_sound hP hq (R := tm_rm d (h'.1 - h.1) (h'.2.1 - h.2.1)) ⟨B.exec, B.bytes, hml, B.returns, findClass_of_methodNamed B.named, fun w hw' => hts2 w (List.mem_cons_of_mem _ hw'), v3, B.notSynchronized, hn.1, by rw [v1]; exact v2.1, v4⟩ v2 va_S.rf (tm_LR.ent hmi.2) (by rw [v1]; rfl) ⟨Nat.le_refl _, Nat.le_refl _⟩ ⟨by show 0 + h'.1 ≤ (h'.1 - h.1) + h.1; omega, by show 0 + h'.2.1 ≤ (h'.2.1 - h.2.1) + h.2.1; omega⟩ ?_
  intro pcR i2 H2 locs2 lsE cells2 slots2 q1 q2 q3 q4 q5 q6 q7 _
  have hc2 : cells2 = h'.1 - h.1 := by omega
  have hs2 : slots2 = h'.2.1 - h.2.1 := by omega
  rw [hc2, hs2]
  have hend : ∀ t : State, t.heap = H2 → s2.WarmedH t.vm → tm_Qc g_cl D tc lo r h' as.toArray s2 (.returned r) t := fun t ht _ => ⟨rfl, by rw [ht]; exact q5, by rw [ht]; exact q6, q7.F ht⟩
  have hret := B.returns
  have hlk := B.notSynchronized
  have hfr : ∀ q ∈ locs2, lo ≤ q.base := q7.2.2
  cases r with
  | none =>
    obtain ⟨rfl, q9⟩ := q2
    exact W.vret B.exec B.bytes (hret.trans q9) hend hfr q1 hlk
  | some v =>
    cases v with
    | int v =>
      obtain ⟨rfl, rt, q9, q10⟩ := q2
      exact W.zret B.exec B.bytes (hret.trans q9) q10 hend hfr q1 hlk
    | long v =>
      obtain ⟨rfl, q9⟩ := q2
      exact W.lret B.exec B.bytes (hret.trans q9) hend hfr q1 hlk
    | ref v =>
      obtain ⟨rfl, rt, q9, q10⟩ := q2
      exact W.aret B.exec B.bytes (hret.trans q9) q10 (Or.inr ⟨v, rfl⟩) hend hfr q1 hlk
    | double v => exact absurd rfl (hnd v)
    | _ => exact q2.elim
/-- a heap with one cell more, an exception -/
theorem tx_new {H : Heap} {t : State} {s : State} {ce : Cell} (hK : va_K D g_cl (tm_tys RX9 tc) s) (hz : H.size = h'.1) (hw : tm_HW D g_cl tc lo h' H) (hsame : ∀ q : Nat, q < H.size → t.heap[q]? = H[q]?) (hce : t.heap[H.size]? = some ce) (hcv : ce.vm = .none) (hcc : s.vm.findClass NSE = some ce.cls) : tm_HW D g_cl tc lo (tm_new h' 6 (.inr (13, []))) t.heap := by
  have hlt : H.size < t.heap.size := (Array.getElem?_eq_some_iff.mp hce).1
  refine ⟨Nat.le_succ_of_le hw.1, by show h'.1 + 1 ≤ t.heap.size; omega, ?_, fun b hb => ?_⟩
  · rw [← tm_WL_new (k := 6) (e := .inr (13, [])) hw.1]
    refine va_P.app (hw.2.2.1.kept (fun k q hk => ?_)) (fun k q hk => ?_)
    · obtain ⟨h1, rfl⟩ := tm_WL_i hk
      have := hw.1
      exact hsame _ (by show lo + k < H.size; omega)
    · have hk0 : k = 0 := by
        have := (List.getElem?_eq_some_iff.mp hk).1
        rw [List.length_singleton] at this
        omega
      subst hk0
      cases hk
      refine ⟨(NSE, TX0, 0), rfl, ce, ?_, ?_, hcv, fun k hk => absurd hk (Nat.not_lt_zero k)⟩
      · show t.heap[h'.1]? = some ce
        rw [← hz]
        exact hce
      · have h13 := (hK.1 13 (NSE, TX0, 0) rfl).2.1
        have h13 : s.vm.findClass NSE = some (D.1 13) := h13
        exact Option.some.inj (hcc.symm.trans h13)
  · show tm_gh (tm_up h'.2.2 h'.1 (.inr (13, [])) b)
    have hb' : b < lo ∨ h'.1 + 1 ≤ b := hb
    have := hw.1
    rw [tm_up_n (by omega)]
    exact hw.2.2.2 b (by omega)
/-- a run that ends in a throw -/
theorem tx_thr {x : UInt64} {Qc : Array Value → State → Outcome → State → Prop} (hl : l.stackTraces = false) (hP : tm_prog (g_G sa sc xt) g_cl g_tbl D tc lo RX9 (EXq lo sa sc) l) (hmi : mi < 1000 ∧ (tm_ex as).length ≤ (tm_mt (g_G sa sc xt) mi).2.2.1) (hown : (tm_mt (g_G sa sc xt) mi).1.cls = RX11) (hq : tm_run (g_G sa sc xt) n d mi 0 (tm_ent as (tm_mt (g_G sa sc xt) mi).2.2.1) [] h = some (some (.double x), h')) (hd : 6 ≤ d) (hth : ∀ pc k, decode (tm_mt (g_G sa sc xt) mi).2.1 pc = .ok (.new k, 3) → thr9 (tm_mt (g_G sa sc xt) mi).2.1 (EXq lo sa sc) pc) :
    vx_Met l (tm_mt (g_G sa sc xt) mi).1 (tm_ws (g_G sa sc xt) g_tbl mi) (tm_rm d (h'.1 - h.1 + 1) (h'.2.1 - h.2.1 + 6)) (tm_Pc g_cl D tc lo RX9 (EXq lo sa sc) as h) Qc (vx_X (fun _ : Unit => True) (fun E _ t => E = NSE ∧ tm_HW D g_cl tc lo (tm_new h' 6 (.inr (13, []))) t.heap) (fun q => lo ≤ q)) (h'.1 - h.1 + 1) (h'.2.1 - h.2.1 + 6) (fun q => lo ≤ q) := by
  have g1 := tm_mono hP hq
  have hP0 := hP
  obtain ⟨hcl, hg, hsc, hft, hpl, hX⟩ := hP0
  refine vx_ofW (cc := (tm_mt (g_G sa sc xt) mi).2.1) (maxL := (tm_mt (g_G sa sc xt) mi).2.2.1) (ret := (tm_mt (g_G sa sc xt) mi).2.2.2.1) (hpl mi hmi.1) rfl ?_
  intro p e s m args below meth c s₁ B hml htab hv
  obtain ⟨rfl, v1, v2, v3, v4⟩ := hv
  have hts := atoms_spec (ws := tm_ws (g_G sa sc xt) g_tbl mi) B.pre
  have hn := name_of_methodNamed B.named B.method
  have hmem : ∀ w ∈ g_tbl, w.before as.toArray s = true := fun w hw' => hts w (List.mem_cons_of_mem _ hw')
  have hX3 := EXq_3 v4
  have hat : ∀ w ∈ tx_atX RX11 131 NSE 13 rx9 ["java/lang/RuntimeException", "java/lang/Exception"], w.before as.toArray s = true := vx_hat (fun w hw' => hmem w (List.mem_filter.mpr ⟨wx_0 w hw', (List.mem_filter.mp hw').2⟩)) wx_1 (vx_c (va_Nw.use rfl hX3.1.1) (vx_c (va_Nw.use rfl hX3.1.2.1) (vx_c (va_Nw.use rfl hX3.1.2.2.1) (vx_c (va_Nw.use rfl hX3.1.2.2.2) vx_n))))
  have hown' : s.vm.findClass RX11 = some m.cls := by
    have := findClass_of_methodNamed B.named
    rwa [hown] at this
  rw [lg_entry_eq]
  refine tm_sound hP hq (R := tm_rm d (h'.1 - h.1 + 1) (h'.2.1 - h.2.1 + 6)) ⟨B.exec, B.bytes, hml, B.returns, findClass_of_methodNamed B.named, hmem, v3, B.notSynchronized, hn.1, by rw [v1]; exact v2.1, v4⟩ v2 va_S.rf (tm_LR.ent hmi.2) (by rw [v1]; rfl) ⟨Nat.le_refl _, Nat.le_refl _⟩ ⟨by show 0 + h'.1 ≤ (h'.1 - h.1 + 1) + h.1; omega, by show 0 + h'.2.1 ≤ (h'.2.1 - h.2.1 + 6) + h.2.1; omega⟩ ?_
  intro pcR i H2 locs2 lsE cells2 slots2 q1 q2 q3 q4 q5 q6 q7 q8
  obtain ⟨k, rfl⟩ := q2
  obtain ⟨is, tx, a, hR, d0, d3, hk⟩ := hth pcR k q1
  have hc2 : cells2 = h'.1 - h.1 := by omega
  have hs2 : slots2 = h'.2.1 - h.2.1 := by omega
  have hxc : ∀ (t : State) (ce : Cell), s.vm.Alike t.vm → (∀ q : Nat, q < H2.size → t.heap[q]? = H2[q]?) → t.heap[H2.size]? = some ce → ce.vm = .none → s.vm.findClass NSE = some ce.cls → vx_X (fun _ : Unit => True) (fun E _ t => E = NSE ∧ tm_HW D g_cl tc lo (tm_new h' 6 (.inr (13, []))) t.heap) (fun q => lo ≤ q) NSE s t := by
    intro t ce ha hsame hce hcv hcc
    have hlt : H2.size < t.heap.size := (Array.getElem?_eq_some_iff.mp hce).1
    refine ⟨(), trivial, ⟨rfl, tx_new v3 q5 q6 hsame hce hcv hcc⟩, ?_, fun q h1 h2 => ?_⟩
    · have := q7.1
      omega
    · have := q7.1
      rw [hsame q (by omega)]
      exact q7.2.1 q h1 h2
  have hsz : lsE.size = c.maxLocals := q8.trans hml.symm
  rcases hk with ⟨d4, d6, d9⟩ | ⟨d4, d7, d10⟩
  · exact tx_throwS (own := RX11) (cls := NSE) (text := tx) (names := ["java/lang/RuntimeException", "java/lang/Exception"]) (ik := 127) (is := is) (ic := 131) (sa := a) (A := fun q => lo ≤ q) B.exec B.bytes hl wx_5.1 wx_5.2.1 wx_5.2.2.1 wx_5.2.2.2 hown' wx_3 wx_4 (hmem _ wm_k) (hmem _ wm_i) (hR s v4) hat wx_2 hX3.2.1 hX3.2.2 q7 hsz d0 d3 d4 d6 d9 (fun z hz => (htab z hz).elim) (by show 2 + 3 < d; omega) (by show 0 + (13 * (2 + 1) + 43) ≤ 41 * d; omega) (by show cells2 + 1 ≤ h'.1 - h.1 + 1; omega) (by show slots2 + 6 ≤ h'.2.1 - h.2.1 + 6; omega) B.notSynchronized hxc q7.2.2 (by omega) (by omega)
  · exact tx_throwSW (own := RX11) (cls := NSE) (text := tx) (names := ["java/lang/RuntimeException", "java/lang/Exception"]) (ik := 127) (is := is) (ic := 131) (sa := a) (A := fun q => lo ≤ q) B.exec B.bytes hl wx_5.1 wx_5.2.1 wx_5.2.2.1 wx_5.2.2.2 hown' wx_3 wx_4 (hmem _ wm_k) (hmem _ wm_i) (hR s v4) hat wx_2 hX3.2.1 hX3.2.2 q7 hsz d0 d3 d4 d7 d10 (fun z hz => (htab z hz).elim) (by show 2 + 3 < d; omega) (by show 0 + (13 * (2 + 1) + 43) ≤ 41 * d; omega) (by show cells2 + 1 ≤ h'.1 - h.1 + 1; omega) (by show slots2 + 6 ≤ h'.2.1 - h.2.1 + 6; omega) B.notSynchronized hxc q7.2.2 (by omega) (by omega)
end
