section TMH
variable {p : Program} {l : Launch} {e : Env} {R : Room} {s : State} {m : MethodId} {args : Array Value} {below : List Frame} {meth : Method} {c : Code} {H : Heap} {locs : List Loc} {cells slots : Nat} {Q : State → Prop}
variable {cc : ByteArray} {pc : Nat} {lsC : Array Slot}
variable {G : tm_G} {cl : List vw_C} {tbl : List Cond} {D : va_G} {tc : Nat → ClassId} {lo : Nat} {K : String} {EX : State → Prop} {M d pc' nL : Nat} {ls ls' st st' : List Value} {h h1 : tm_H}
theorem tm_ldcwS (hexec : p.tables.exec = Jvm.exec) (hb : c.code = cc) {own tx : String} {index q : Nat} {rest : List Value} (hown : s.vm.findClass own = some m.cls) (hZ : vk_R own index tx q s) (hdg : decode cc pc = .ok (.ldc_w index, 3))
    (k : W p l e R s m args below meth c H locs cells slots Q (F0 m (pc + 3) lsC (.ref q :: rest))) : W p l e R s m args below meth c H locs cells slots Q (F0 m pc lsC rest) := by
  intro T hT X
  obtain ⟨t, a1, b1⟩ := k T hT X
  refine ⟨t, ?_, b1⟩
  obtain ⟨k, cf, i, a', hk, hcf, hcp, -, hr, hev'⟩ := Cond.stringRef_spec hown hZ.1
  cases hZ.2.symm.trans hev'
  obtain ⟨k', hk', he⟩ := X.warmed.alike.2.2 _ _ hk
  have hr' : k'.resolved[index]? = some (some (.string q)) := by
    rcases X.warmed.entry hk hk' index with h | ⟨h, -⟩
    · rw [h]; exact hr
    · rw [hr] at h; cases h
  jvm_step X.here [hexec, hb, hdg, ldc_w.wp_string (e := e) (s := T) (f := F0 m pc lsC rest) X.here.top hk' (by rw [he]; exact hcf) hcp hr']
  exact a1
theorem tm_get_r {own : String} {i a b : Nat} (hx : p.tables.exec = Jvm.exec) (hb : c.code = cc) (hts : ∀ w ∈ tbl, w.before args s = true) (hown : s.vm.findClass own = some m.cls) (hK : va_K D cl (tm_tys K tc) s) (hok : tm_okf cl tbl own i a b) (hd : decode cc pc = .ok (.getfield i, 3)) (hw : tm_HW D cl tc lo h H) (hs : tm_get a b pc ls st h = some (.inl (pc', ls', st', h1))) (kk : h1 = h → ls' = ls → W p l e R s m args below meth c H locs cells slots Q (F0 m pc' lsC st')) : W p l e R s m args below meth c H locs cells slots Q (F0 m pc lsC st) := by
  unfold tm_get at hs
  split at hs
  · split at hs
    · rename_i ho
      split at hs
      · rename_i hc
        split at hs
        · rename_i hv
          subst hc
          cases hs
          obtain ⟨C, T, N, g1, g2, g3, g4⟩ := hok
          obtain ⟨-, -, q3⟩ := hw.obj ho
          exact va_get hx hb hts g3 hown hK hw.2.2.1 _ q3 g1 b g2 (hts _ g4) (fun x hx => hx) hv hd (kk rfl rfl)
        · cases hs
      · cases hs
    · cases hs
  · cases hs
theorem tm_set_r {y : MethodName} {i a b : Nat} (hx : p.tables.exec = Jvm.exec) (hb : c.code = cc) (hts : ∀ w ∈ tbl, w.before args s = true) (hown : s.vm.findClass y.cls = some m.cls) (hnm : meth.name = y.name) (hK : va_K D cl (tm_tys K tc) s) (hok : tm_okp G cl tbl y i a b) (hd : decode cc pc = .ok (.putfield i, 3)) (hw : tm_HW D cl tc lo h H) (hS : va_S (fun q => lo ≤ q) s.heap H locs) (hs : tm_set G a b pc ls st h = some (.inl (pc', ls', st', h1))) (kk : ∀ (H1 : Heap) (locs1 : List Loc), tm_HW D cl tc lo h1 H1 → va_S (fun q => lo ≤ q) s.heap H1 locs1 → h1.1 = h.1 → h1.2.1 = h.2.1 → ls' = ls → W p l e R s m args below meth c H1 locs1 cells slots Q (F0 m pc' lsC st')) : W p l e R s m args below meth c H locs cells slots Q (F0 m pc lsC st) := by
  unfold tm_set at hs
  split at hs
  · split at hs
    · rename_i ho
      split at hs
      · rename_i hc
        obtain ⟨hc, hl, hn, hf⟩ := hc
        subst hc
        cases hs
        obtain ⟨C, T, N, g1, g2, g3, g4, g5, g6, g7⟩ := hok
        obtain ⟨q1, q2, q3⟩ := hw.obj ho
        rcases g7 with g7 | ⟨g7, g8, g9⟩
        · exact va_put hx hb hts g3 _ g5 g6 hown hK hw.2.2.1 tm_WL_D hS _ q3 g1 b g2 (hts _ g4) (fun x hx => hx) g7 (g5 b g2) hn hf hl hd (fun H1 locs1 hP _ hS1 => kk H1 locs1 (hw.put (e := .inr _) q1 q2 hP) hS1 rfl rfl rfl)
        · exact va_putF hx hb hts g3 _ g5 g6 hown hK hw.2.2.1 tm_WL_D hS _ q3 g1 b g2 (hts _ g4) (fun x hx => hx) g7 (hnm.trans g8) g9 (g5 b g2) hn hf hl hd (fun H1 locs1 hP _ hS1 => kk H1 locs1 (hw.put (e := .inr _) q1 q2 hP) hS1 rfl rfl rfl)
      · cases hs
    · cases hs
  · cases hs
/-- the script, as a method's start knows it -/
def tm_ST (G : tm_G) (lo : Nat) (s : State) : Prop := (∀ j, j < 13 → va_O "java/lang/String" (tm_sa G j) (fun q => lo ≤ q) s s.heap ∧ va_OF "java/lang/String" "coder" "B" (.int 0) (tm_sa G j) (fun q => lo ≤ q) s s.heap ∧ va_OF "java/lang/String" "value" "[B" (.ref (tm_sv G j)) (tm_sa G j) (fun q => lo ≤ q) s s.heap ∧ va_T .byte (tm_sv G j) (tm_sb G j).length (fun i => .int ((tm_sb G j).getD i 0)) (fun q => lo ≤ q) s s.heap) ∧ va_Z "java/lang/String" "COMPACT_STRINGS" "Z" (.int 1) (fun q => lo ≤ q) s s.heap ∧ va_Z "jdk/internal/util/Preconditions" "SIOOBE_FORMATTER" "Ljava/util/function/BiFunction;" (tm_fm G) (fun q => lo ≤ q) s s.heap
def tm_SC (G : tm_G) (lo : Nat) (s : State) : Prop := (va_X (tm_sc G).1 (tm_sc G).2.1 (tm_sc G).2.2 s s.heap ∧ (tm_sc G).1 < s.heap.size ∧ (tm_sc G).1 < lo) ∧ tm_ST G lo s
theorem tm_ild_r (hx : p.tables.exec = Jvm.exec) (hb : c.code = cc) (hK : va_K D cl (tm_tys K tc) s) (hd : decode cc pc = .ok (.iaload, 1)) (hw : tm_HW D cl tc lo h H) (hs : tm_ild pc ls st h = some (.inl (pc', ls', st', h1))) (kk : h1 = h → ls' = ls → W p l e R s m args below meth c H locs cells slots Q (F0 m pc' lsC st')) : W p l e R s m args below meth c H locs cells slots Q (F0 m pc lsC st) := by
  unfold tm_ild at hs
  split at hs
  · split at hs
    · rename_i ho
      split at hs
      · cases hs
      · rename_i hi
        cases hs
        obtain ⟨-, -, q3⟩ := hw.arr ho (by decide)
        exact va_iald hx hb hK hw.2.2.1 _ 0 q3 rfl hi hd (kk rfl rfl)
    · cases hs
  · cases hs
theorem tm_sld_r (hx : p.tables.exec = Jvm.exec) (hb : c.code = cc) (hd : decode cc pc = .ok (.iaload, 1)) (hS : va_S (fun q => lo ≤ q) s.heap H locs) (hsc : tm_SC G lo s) (hs : tm_sld G pc ls st h = some (.inl (pc', ls', st', h1))) (kk : h1 = h → ls' = ls → W p l e R s m args below meth c H locs cells slots Q (F0 m pc' lsC st')) : W p l e R s m args below meth c H locs cells slots Q (F0 m pc lsC st) := by
  unfold tm_sld at hs
  split at hs
  · split at hs
    · rename_i ha
      split at hs
      · cases hs
      · rename_i hi
        cases hs
        rw [ha]
        exact va_sld hx hb hsc.1.1 hsc.1.2.1 (Nat.not_le.mpr hsc.1.2.2) hS hi hd (kk rfl rfl)
    · cases hs
  · cases hs
theorem tm_bld_r (hx : p.tables.exec = Jvm.exec) (hb : c.code = cc) (hK : va_K D cl (tm_tys K tc) s) (hd : decode cc pc = .ok (.baload, 1)) (hw : tm_HW D cl tc lo h H) (hs : tm_bld pc ls st h = some (.inl (pc', ls', st', h1))) (kk : h1 = h → ls' = ls → W p l e R s m args below meth c H locs cells slots Q (F0 m pc' lsC st')) : W p l e R s m args below meth c H locs cells slots Q (F0 m pc lsC st) := by
  unfold tm_bld at hs
  split at hs
  · split at hs
    · rename_i ho
      split at hs
      · cases hs
      · rename_i hi
        cases hs
        obtain ⟨-, -, q3⟩ := hw.arr ho (by decide)
        exact va_bald hx hb hK hw.2.2.1 _ 1 q3 rfl hi hd (kk rfl rfl)
    · rename_i ho
      split at hs
      · cases hs
      · rename_i hi
        cases hs
        obtain ⟨-, -, q3⟩ := hw.arr ho (by decide)
        exact va_zald hx hb hK hw.2.2.1 _ 4 q3 rfl hi hd (kk rfl rfl)
    · cases hs
  · cases hs
theorem tm_cld_r (hx : p.tables.exec = Jvm.exec) (hb : c.code = cc) (hK : va_K D cl (tm_tys K tc) s) (hd : decode cc pc = .ok (.caload, 1)) (hw : tm_HW D cl tc lo h H) (hs : tm_cld pc ls st h = some (.inl (pc', ls', st', h1))) (kk : h1 = h → ls' = ls → W p l e R s m args below meth c H locs cells slots Q (F0 m pc' lsC st')) : W p l e R s m args below meth c H locs cells slots Q (F0 m pc lsC st) := by
  unfold tm_cld at hs
  split at hs
  · split at hs
    · rename_i ho
      split at hs
      · cases hs
      · rename_i hi
        cases hs
        obtain ⟨-, -, q3⟩ := hw.arr ho (by decide)
        exact va_cald hx hb hK hw.2.2.1 _ 2 q3 rfl hi hd (kk rfl rfl)
    · cases hs
  · cases hs
theorem tm_lld_r (hx : p.tables.exec = Jvm.exec) (hb : c.code = cc) (hK : va_K D cl (tm_tys K tc) s) (hd : decode cc pc = .ok (.laload, 1)) (hw : tm_HW D cl tc lo h H) (hs : tm_lld pc ls st h = some (.inl (pc', ls', st', h1))) (kk : h1 = h → ls' = ls → W p l e R s m args below meth c H locs cells slots Q (F0 m pc' lsC st')) : W p l e R s m args below meth c H locs cells slots Q (F0 m pc lsC st) := by
  unfold tm_lld at hs
  split at hs
  · split at hs
    · rename_i ho
      split at hs
      · cases hs
      · rename_i hi
        cases hs
        obtain ⟨-, -, q3⟩ := hw.arr ho (by decide)
        exact va_lald hx hb hK hw.2.2.1 _ 3 q3 rfl hi hd (kk rfl rfl)
    · cases hs
  · cases hs
theorem tm_ald_r (hx : p.tables.exec = Jvm.exec) (hb : c.code = cc) (hK : va_K D cl (tm_tys K tc) s) (hd : decode cc pc = .ok (.aaload, 1)) (hw : tm_HW D cl tc lo h H) (hs : tm_ald pc ls st h = some (.inl (pc', ls', st', h1))) (kk : h1 = h → ls' = ls → W p l e R s m args below meth c H locs cells slots Q (F0 m pc' lsC st')) : W p l e R s m args below meth c H locs cells slots Q (F0 m pc lsC st) := by
  unfold tm_ald at hs
  split at hs
  · split at hs
    · rename_i ho
      split at hs
      · cases hs
      · rename_i hi
        cases hs
        obtain ⟨-, -, q3⟩ := hw.arr ho (by decide)
        exact va_aldq hx hb hK hw.2.2.1 _ 5 q3 (C := K) rfl hi hd (kk rfl rfl)
    · cases hs
  · cases hs
theorem tm_isr_r (hx : p.tables.exec = Jvm.exec) (hb : c.code = cc) (hK : va_K D cl (tm_tys K tc) s) (hd : decode cc pc = .ok (.iastore, 1)) (hw : tm_HW D cl tc lo h H) (hS : va_S (fun q => lo ≤ q) s.heap H locs) (hs : tm_isr pc ls st h = some (.inl (pc', ls', st', h1))) (kk : ∀ (H1 : Heap) (locs1 : List Loc), tm_HW D cl tc lo h1 H1 → va_S (fun q => lo ≤ q) s.heap H1 locs1 → h1.1 = h.1 → h1.2.1 = h.2.1 → ls' = ls → W p l e R s m args below meth c H1 locs1 cells slots Q (F0 m pc' lsC st')) : W p l e R s m args below meth c H locs cells slots Q (F0 m pc lsC st) := by
  unfold tm_isr at hs
  split at hs
  · split at hs
    · rename_i ho
      split at hs
      · cases hs
      · rename_i hi
        cases hs
        obtain ⟨q1, q2, q3⟩ := hw.arr ho (by decide)
        exact va_iast hx hb hK hw.2.2.1 tm_WL_D hS _ 0 q3 rfl hi hd (fun H1 locs1 hP _ hS1 => kk H1 locs1 (hw.put (e := .inl (0, _)) q1 q2 hP) hS1 rfl rfl rfl)
    · cases hs
  · cases hs
theorem tm_bsr_r (hx : p.tables.exec = Jvm.exec) (hb : c.code = cc) (hK : va_K D cl (tm_tys K tc) s) (hd : decode cc pc = .ok (.bastore, 1)) (hw : tm_HW D cl tc lo h H) (hS : va_S (fun q => lo ≤ q) s.heap H locs) (hs : tm_bsr pc ls st h = some (.inl (pc', ls', st', h1))) (kk : ∀ (H1 : Heap) (locs1 : List Loc), tm_HW D cl tc lo h1 H1 → va_S (fun q => lo ≤ q) s.heap H1 locs1 → h1.1 = h.1 → h1.2.1 = h.2.1 → ls' = ls → W p l e R s m args below meth c H1 locs1 cells slots Q (F0 m pc' lsC st')) : W p l e R s m args below meth c H locs cells slots Q (F0 m pc lsC st) := by
  unfold tm_bsr at hs
  split at hs
  · split at hs
    · rename_i ho
      split at hs
      · cases hs
      · rename_i hi
        cases hs
        obtain ⟨q1, q2, q3⟩ := hw.arr ho (by decide)
        exact va_bast hx hb hK hw.2.2.1 tm_WL_D hS _ 1 q3 rfl hi hd (fun H1 locs1 hP _ hS1 => kk H1 locs1 (hw.put (e := .inl (1, _)) q1 q2 hP) hS1 rfl rfl rfl)
    · rename_i ho
      split at hs
      · cases hs
      · rename_i hi
        cases hs
        obtain ⟨q1, q2, q3⟩ := hw.arr ho (by decide)
        exact va_zast hx hb hK hw.2.2.1 tm_WL_D hS _ 4 q3 rfl hi hd (fun H1 locs1 hP _ hS1 => kk H1 locs1 (hw.put (e := .inl (4, _)) q1 q2 hP) hS1 rfl rfl rfl)
    · cases hs
  · cases hs
theorem tm_csr_r (hx : p.tables.exec = Jvm.exec) (hb : c.code = cc) (hK : va_K D cl (tm_tys K tc) s) (hd : decode cc pc = .ok (.castore, 1)) (hw : tm_HW D cl tc lo h H) (hS : va_S (fun q => lo ≤ q) s.heap H locs) (hs : tm_csr pc ls st h = some (.inl (pc', ls', st', h1))) (kk : ∀ (H1 : Heap) (locs1 : List Loc), tm_HW D cl tc lo h1 H1 → va_S (fun q => lo ≤ q) s.heap H1 locs1 → h1.1 = h.1 → h1.2.1 = h.2.1 → ls' = ls → W p l e R s m args below meth c H1 locs1 cells slots Q (F0 m pc' lsC st')) : W p l e R s m args below meth c H locs cells slots Q (F0 m pc lsC st) := by
  unfold tm_csr at hs
  split at hs
  · split at hs
    · rename_i ho
      split at hs
      · cases hs
      · rename_i hi
        cases hs
        obtain ⟨q1, q2, q3⟩ := hw.arr ho (by decide)
        exact va_cast hx hb hK hw.2.2.1 tm_WL_D hS _ 2 q3 rfl hi hd (fun H1 locs1 hP _ hS1 => kk H1 locs1 (hw.put (e := .inl (2, _)) q1 q2 hP) hS1 rfl rfl rfl)
    · cases hs
  · cases hs
theorem tm_lsr_r (hx : p.tables.exec = Jvm.exec) (hb : c.code = cc) (hK : va_K D cl (tm_tys K tc) s) (hd : decode cc pc = .ok (.lastore, 1)) (hw : tm_HW D cl tc lo h H) (hS : va_S (fun q => lo ≤ q) s.heap H locs) (hs : tm_lsr pc ls st h = some (.inl (pc', ls', st', h1))) (kk : ∀ (H1 : Heap) (locs1 : List Loc), tm_HW D cl tc lo h1 H1 → va_S (fun q => lo ≤ q) s.heap H1 locs1 → h1.1 = h.1 → h1.2.1 = h.2.1 → ls' = ls → W p l e R s m args below meth c H1 locs1 cells slots Q (F0 m pc' lsC st')) : W p l e R s m args below meth c H locs cells slots Q (F0 m pc lsC st) := by
  unfold tm_lsr at hs
  split at hs
  · split at hs
    · rename_i ho
      split at hs
      · cases hs
      · rename_i hi
        cases hs
        obtain ⟨q1, q2, q3⟩ := hw.arr ho (by decide)
        exact va_last hx hb hK hw.2.2.1 tm_WL_D hS _ 3 q3 rfl hi hd (fun H1 locs1 hP _ hS1 => kk H1 locs1 (hw.put (e := .inl (3, _)) q1 q2 hP) hS1 rfl rfl rfl)
    · cases hs
  · cases hs
theorem tm_asr_r {ci : Nat} (hx : p.tables.exec = Jvm.exec) (hb : c.code = cc) (hK : va_K D cl (tm_tys K tc) s) (hok : ∃ r : vw_C, cl[ci]? = some r ∧ r.1 = K) (hd : decode cc pc = .ok (.aastore, 1)) (hw : tm_HW D cl tc lo h H) (hS : va_S (fun q => lo ≤ q) s.heap H locs) (hs : tm_asr ci pc ls st h = some (.inl (pc', ls', st', h1))) (kk : ∀ (H1 : Heap) (locs1 : List Loc), tm_HW D cl tc lo h1 H1 → va_S (fun q => lo ≤ q) s.heap H1 locs1 → h1.1 = h.1 → h1.2.1 = h.2.1 → ls' = ls → W p l e R s m args below meth c H1 locs1 cells slots Q (F0 m pc' lsC st')) : W p l e R s m args below meth c H locs cells slots Q (F0 m pc lsC st) := by
  unfold tm_asr at hs
  split at hs
  · split at hs
    · rename_i ho hv
      split at hs
      · rename_i hc
        split at hs
        · cases hs
        · rename_i hi
          subst hc
          cases hs
          obtain ⟨r, g1, g2⟩ := hok
          obtain ⟨q1, q2, q3⟩ := hw.arr ho (by decide)
          obtain ⟨-, -, q6⟩ := hw.obj hv
          exact va_astq hx hb hK hw.2.2.1 tm_WL_D hS _ 5 _ _ q3 (by rw [g2]; rfl) q6 g1 hi hd (fun H1 locs1 hP _ hS1 => kk H1 locs1 (hw.put (e := .inl (5, _)) q1 q2 hP) hS1 rfl rfl rfl)
      · cases hs
    · cases hs
  · cases hs
theorem tm_aln_r (hx : p.tables.exec = Jvm.exec) (hb : c.code = cc) (hK : va_K D cl (tm_tys K tc) s) (hd : decode cc pc = .ok (.arraylength, 1)) (hw : tm_HW D cl tc lo h H) (hs : tm_aln pc ls st h = some (.inl (pc', ls', st', h1))) (kk : h1 = h → ls' = ls → W p l e R s m args below meth c H locs cells slots Q (F0 m pc' lsC st')) : W p l e R s m args below meth c H locs cells slots Q (F0 m pc lsC st) := by
  unfold tm_aln at hs
  split at hs
  · split at hs
    · rename_i t n x ho
      split at hs
      · rename_i ht
        cases hs
        obtain ⟨-, -, q3⟩ := hw.arr ho (by omega)
        have hT : ∃ ty, (tm_tys K tc)[t]? = some (tc t, ty) := by
          rcases (show t = 0 ∨ t = 1 ∨ t = 2 ∨ t = 3 ∨ t = 4 ∨ t = 5 by omega) with rfl | rfl | rfl | rfl | rfl | rfl <;> exact ⟨_, rfl⟩
        obtain ⟨ty, hT⟩ := hT
        exact va_alen hx hb hK hw.2.2.1 _ t q3 hT rfl hd (kk rfl rfl)
      · cases hs
    · cases hs
  · cases hs
theorem tm_sln_r (hx : p.tables.exec = Jvm.exec) (hb : c.code = cc) (hd : decode cc pc = .ok (.arraylength, 1)) (hS : va_S (fun q => lo ≤ q) s.heap H locs) (hsc : tm_SC G lo s) (hs : tm_sln G pc ls st h = some (.inl (pc', ls', st', h1))) (kk : h1 = h → ls' = ls → W p l e R s m args below meth c H locs cells slots Q (F0 m pc' lsC st')) : W p l e R s m args below meth c H locs cells slots Q (F0 m pc lsC st) := by
  unfold tm_sln at hs
  split at hs
  · split at hs
    · rename_i ha
      cases hs
      rw [ha]
      exact va_slen hx hb hsc.1.1 hsc.1.2.1 (Nat.not_le.mpr hsc.1.2.2) hS hd (kk rfl rfl)
    · cases hs
  · cases hs
theorem tm_gsf_r {own : String} {i b : Nat} (hx : p.tables.exec = Jvm.exec) (hb : c.code = cc) (hts : ∀ w ∈ tbl, w.before args s = true) (hown : s.vm.findClass own = some m.cls) (hok : if b = 0 then Cond.fieldLink own i "java/lang/String" "value" "[B" ∈ tbl else Cond.fieldLink own i "java/lang/String" "coder" "B" ∈ tbl) (hd : decode cc pc = .ok (.getfield i, 3)) (hS : va_S (fun q => lo ≤ q) s.heap H locs) (hsc : tm_SC G lo s) (hs : tm_gsf G b pc ls st h = some (.inl (pc', ls', st', h1))) (kk : h1 = h → ls' = ls → W p l e R s m args below meth c H locs cells slots Q (F0 m pc' lsC st')) : W p l e R s m args below meth c H locs cells slots Q (F0 m pc lsC st) := by
  unfold tm_gsf at hs
  split at hs
  · split at hs
    · split at hs
      · rename_i hc
        cases hs
        obtain ⟨-, g2, g3, -⟩ := hsc.2.1 _ hc.2
        rw [hc.1]
        by_cases hb0 : b = 0
        · rw [if_pos hb0] at hok
          have kk := kk rfl rfl
          rw [if_pos hb0] at kk
          exact vk_getf hx hb g3 hS hown (hts _ hok) (fun x hx => hx) hd kk
        · rw [if_neg hb0] at hok
          have kk := kk rfl rfl
          rw [if_neg hb0] at kk
          exact vk_getf hx hb g2 hS hown (hts _ hok) (fun x hx => hx) hd kk
      · cases hs
    · cases hs
  · cases hs
theorem tm_sal_r (hx : p.tables.exec = Jvm.exec) (hb : c.code = cc) (hd : decode cc pc = .ok (.arraylength, 1)) (hS : va_S (fun q => lo ≤ q) s.heap H locs) (hsc : tm_SC G lo s) (hs : tm_sal G pc ls st h = some (.inl (pc', ls', st', h1))) (kk : h1 = h → ls' = ls → W p l e R s m args below meth c H locs cells slots Q (F0 m pc' lsC st')) : W p l e R s m args below meth c H locs cells slots Q (F0 m pc lsC st) := by
  unfold tm_sal at hs
  split at hs
  · split at hs
    · split at hs
      · rename_i hc
        cases hs
        obtain ⟨-, -, -, g4⟩ := hsc.2.1 _ hc.2
        rw [hc.1]
        exact va_tlen hx hb g4 hS rfl hd (kk rfl rfl)
      · cases hs
    · cases hs
  · cases hs
theorem tm_sbl_r (hx : p.tables.exec = Jvm.exec) (hb : c.code = cc) (hd : decode cc pc = .ok (.baload, 1)) (hS : va_S (fun q => lo ≤ q) s.heap H locs) (hsc : tm_SC G lo s) (hs : tm_sbl G pc ls st h = some (.inl (pc', ls', st', h1))) (kk : h1 = h → ls' = ls → W p l e R s m args below meth c H locs cells slots Q (F0 m pc' lsC st')) : W p l e R s m args below meth c H locs cells slots Q (F0 m pc lsC st) := by
  unfold tm_sbl at hs
  split at hs
  · split at hs
    · split at hs
      · rename_i hc
        cases hs
        obtain ⟨-, -, -, g4⟩ := hsc.2.1 _ hc.1.2
        rw [hc.1.1]
        exact va_tb hx hb g4 hS hc.2 rfl hd (kk rfl rfl)
      · cases hs
    · cases hs
  · cases hs
theorem tm_gst_r {own : String} {i a : Nat} (hx : p.tables.exec = Jvm.exec) (hb : c.code = cc) (hts : ∀ w ∈ tbl, w.before args s = true) (hown : s.vm.findClass own = some m.cls) (hok : if a = 0 then Cond.fieldLink own i "java/lang/String" "COMPACT_STRINGS" "Z" ∈ tbl else Cond.fieldLink own i "jdk/internal/util/Preconditions" "SIOOBE_FORMATTER" "Ljava/util/function/BiFunction;" ∈ tbl) (hd : decode cc pc = .ok (.getstatic i, 3)) (hS : va_S (fun q => lo ≤ q) s.heap H locs) (hsc : tm_SC G lo s) (hs : tm_gst G a pc ls st h = some (.inl (pc', ls', st', h1))) (kk : h1 = h → ls' = ls → W p l e R s m args below meth c H locs cells slots Q (F0 m pc' lsC st')) : W p l e R s m args below meth c H locs cells slots Q (F0 m pc lsC st) := by
  unfold tm_gst at hs
  split at hs
  · rename_i ha
    rw [if_pos ha] at hok
    cases hs
    exact va_gets hx hb hsc.2.2.1 hS hown (hts _ hok) (fun x hx => hx) hd (kk rfl rfl)
  · rename_i ha
    rw [if_neg ha] at hok
    cases hs
    exact va_gets hx hb hsc.2.2.2 hS hown (hts _ hok) (fun x hx => hx) hd (kk rfl rfl)
end TMH
