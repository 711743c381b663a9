section TMN
variable {p : Program} {l : Launch} {e : Env} {R : Room} {s : State} {m : MethodId} {args : Array Value} {below : List Frame} {meth : Method} {c : Code} {H : Heap} {locs : List Loc} {cells slots : Nat} {Q : State → Prop}
variable {cc : ByteArray} {pc : Nat} {lsC : Array Slot}
variable {G : tm_G} {cl : List vw_C} {tbl : List Cond} {D : va_G} {tc : Nat → ClassId} {lo : Nat} {K : String} {EX : State → Prop} {M d pc' nL : Nat} {ls ls' st st' : List Value} {h h1 : tm_H}
theorem tm_grow {g : JFrame} {k n q : Nat} {x : tm_E} {H1 : Heap} (hz : h.1 = s.heap.size + cells) (hw : tm_HW D cl tc lo h H) (hP : va_P D cl (tm_WL lo tc h ++ [(q, tm_ce tc x)]) H1) (hD : va_D (fun q => lo ≤ q) (tm_WL lo tc h ++ [(q, tm_ce tc x)])) (kk : q = h.1 → tm_HW D cl tc lo (tm_new h k x) H1 → W p l e R s m args below meth c H1 locs (cells + 1) n Q g) : W p l e R s m args below meth c H1 locs (cells + 1) n Q g := by
  intro T hT X
  have h1 : (T.setVm s.vm).heap.size ≤ s.heap.size + (cells + 1) := X.same.2.2.1
  have h2 : T.heap.size ≤ s.heap.size + (cells + 1) := h1
  rw [hT] at h2
  obtain ⟨g1, g2⟩ := hw.new (k := k) hP hD (by omega)
  exact kk g1 g2 T hT X
theorem tm_nw_r {own : String} {i a : Nat} (hx : p.tables.exec = Jvm.exec) (hb : c.code = cc) (hts : ∀ w ∈ tbl, w.before args s = true) (hown : s.vm.findClass own = some m.cls) (hK : va_K D cl (tm_tys K tc) s) (hlo : lo ≤ s.heap.size) (hok : tm_okn G cl tbl own i a) (hd : decode cc pc = .ok (.new i, 3)) (hw : tm_HW D cl tc lo h H) (hS : va_S (fun q => lo ≤ q) s.heap H locs) (hz : h.1 = s.heap.size + cells) (hs : tm_nw G a pc ls st h = some (.inl (pc', ls', st', h1))) (hR : cells + h1.1 ≤ R.cells + h.1 ∧ slots + h1.2.1 ≤ R.slots + h.2.1) (kk : ∀ H1 : Heap, tm_HW D cl tc lo h1 H1 → va_S (fun q => lo ≤ q) s.heap H1 locs → ls' = ls → h1.1 = h.1 + 1 → h1.2.1 = h.2.1 + (h1.2.1 - h.2.1) → W p l e R s m args below meth c H1 locs (cells + 1) (slots + (h1.2.1 - h.2.1)) Q (F0 m pc' lsC st')) : W p l e R s m args below meth c H locs cells slots Q (F0 m pc lsC st) := by
  unfold tm_nw at hs
  cases hs
  obtain ⟨C, T, N, g1, g3, g4, g5, g6, g7, g8, g9⟩ := hok
  have e1 : (tm_new h (tm_dv G a).length (.inr (a, tm_dv G a))).1 = h.1 + 1 := rfl
  have e2 : (tm_new h (tm_dv G a).length (.inr (a, tm_dv G a))).2.1 = h.2.1 + N := by rw [← g8]; rfl
  rw [e1, e2] at hR
  rw [e2] at kk
  have e3 : h.2.1 + N - h.2.1 = N := by omega
  rw [e3] at kk
  exact va_new hx hb hts g3 _ g7 hown (hts _ g4) (hts _ g5) (hts _ g6) hK hw.2.2.1 tm_WL_D hS (fun q hq => Nat.le_trans hlo hq) g1 g9 (by omega) (by omega) hd (fun q H1 hP hD hS1 => tm_grow (x := .inr _) hz hw hP hD (fun hq hw1 => by subst hq; exact kk H1 hw1 hS1 rfl e1 rfl))
/-- a new array: its class is the one that is known -/
theorem tm_sameA {s : State} {t : Nat} {cA : ClassId} {ty : FieldType} (hK : va_K D cl (tm_tys K tc) s) (ht : (tm_tys K tc)[t]? = some (tc t, ty)) (hK2 : va_K D cl (tm_tys K tc ++ [(cA, ty)]) s) : cA = tc t := by
  have h1 := (hK.2 t _ ht).2
  have h2 := (hK2.2 6 (cA, ty) rfl).2
  cases ty with
  | object C =>
    obtain ⟨_, _, -, -, -, q4⟩ := h1
    obtain ⟨_, _, -, -, -, q8⟩ := h2
    exact Option.some.inj (q8.symm.trans q4)
  | _ => exact Option.some.inj ((show s.vm.findClass _ = some cA from h2).symm.trans (show s.vm.findClass _ = some (tc t) from h1))
theorem tm_nar_r {t len : Nat} {z : Nat → (Nat → Int32) ⊕ (Nat → Int64) ⊕ (Nat → UInt32) ⊕ (Nat → UInt64) ⊕ (Nat → Option Nat)} {ty : FieldType} (ht : (tm_tys K tc)[t]? = some (tc t, ty)) (hK : va_K D cl (tm_tys K tc) s) (hw : tm_HW D cl tc lo h H) (hz : h.1 = s.heap.size + cells)
    (row : ∀ (n : Int32) (r : List Value), ¬ n < 0 → n.toNatClampNeg ≤ 60000000 → cells + 1 ≤ R.cells → slots + n.toNatClampNeg ≤ R.slots → (∀ (q : Nat) (cA : ClassId) (H1 : Heap), va_K D cl (tm_tys K tc ++ [(cA, ty)]) s → va_P D cl (tm_WL lo tc h ++ [(q, .inl (cA, n.toNatClampNeg, z 0))]) H1 → va_D (fun q => lo ≤ q) (tm_WL lo tc h ++ [(q, .inl (cA, n.toNatClampNeg, z 0))]) → va_S (fun q => lo ≤ q) s.heap H1 locs → W p l e R s m args below meth c H1 locs (cells + 1) (slots + n.toNatClampNeg) Q (F0 m (pc + len) lsC (.ref q :: r))) → W p l e R s m args below meth c H locs cells slots Q (F0 m pc lsC (.int n :: r)))
    (hs : tm_nar t z len pc ls st h = some (.inl (pc', ls', st', h1))) (hR : cells + h1.1 ≤ R.cells + h.1 ∧ slots + h1.2.1 ≤ R.slots + h.2.1) (kk : ∀ H1 : Heap, tm_HW D cl tc lo h1 H1 → va_S (fun q => lo ≤ q) s.heap H1 locs → ls' = ls → h1.1 = h.1 + 1 → h1.2.1 = h.2.1 + (h1.2.1 - h.2.1) → W p l e R s m args below meth c H1 locs (cells + 1) (slots + (h1.2.1 - h.2.1)) Q (F0 m pc' lsC st')) : W p l e R s m args below meth c H locs cells slots Q (F0 m pc lsC st) := by
  unfold tm_nar at hs
  split at hs
  · rename_i n r
    split at hs
    · cases hs
    · rename_i hn
      have hn1 : ¬ n < 0 := fun q => hn (Or.inl q)
      have hn2 : n.toNatClampNeg ≤ 60000000 := Nat.not_lt.mp fun q => hn (Or.inr q)
      cases hs
      have e1 : (tm_new h n.toNatClampNeg (.inl (t, n.toNatClampNeg, z 0))).1 = h.1 + 1 := rfl
      have e2 : (tm_new h n.toNatClampNeg (.inl (t, n.toNatClampNeg, z 0))).2.1 = h.2.1 + n.toNatClampNeg := rfl
      rw [e1, e2] at hR
      rw [e2] at kk
      have e3 : h.2.1 + n.toNatClampNeg - h.2.1 = n.toNatClampNeg := by omega
      rw [e3] at kk
      refine row n r hn1 hn2 (by omega) (by omega) (fun q cA H1 hK2 hP hD hS1 => ?_)
      have hc := tm_sameA hK ht hK2
      subst hc
      exact tm_grow (x := .inl (t, _)) hz hw hP hD (fun hq hw1 => by subst hq; exact kk H1 hw1 hS1 rfl e1 rfl)
  · cases hs
theorem tm_oi_r {own : String} {i : Nat} (hx : p.tables.exec = Jvm.exec) (hb : c.code = cc) (hts : ∀ w ∈ tbl, w.before args s = true) (hown : s.vm.findClass own = some m.cls) (hl : lsC.size = c.maxLocals) (hok : Cond.methodLink own i Lib.objectInit ∈ tbl ∧ Cond.instanceMethod Lib.objectInit ∈ tbl ∧ Cond.code Lib.objectInit ⟨#[0xb1]⟩ 1 none ∈ tbl) (hd : decode cc pc = .ok (.invokespecial i, 3)) (hR : d ≤ R.frames ∧ 41 * d ≤ R.locals) (hs : tm_oi d pc ls st h = some (.inl (pc', ls', st', h1))) (kk : h1 = h → ls' = ls → W p l e R s m args below meth c H locs cells slots Q (F0 m pc' lsC st')) : W p l e R s m args below meth c H locs cells slots Q (F0 m pc lsC st) := by
  unfold tm_oi at hs
  split at hs
  · rename_i o r
    split at hs
    · rename_i hc
      cases hs
      have hroom := lv_room (m := m) (pc := pc) (ls := lsC) (rest := .ref o :: st') (st := st') hc.2
      exact W.objInit hx hb hown (hts _ hok.1) (hts _ hok.2.1) (hts _ hok.2.2) (g := F0 m pc lsC (.ref o :: st')) rfl hl rfl hd (by omega) (by omega) (kk rfl rfl)
    · cases hs
  · cases hs
theorem tm_cpv {cA : ClassId} {n : Nat} {f g : Nat → Int32} : vp_cell cA (n, .inl (va_cpy f g 0 0 n)) = vp_cell cA (n, .inl f) := by
  rw [vp_cell_i, vp_cell_i]
  unfold arrV
  congr 1
  congr 1
  funext j
  simp [va_cpy, j.isLt]
theorem tm_cpP {D : va_G} {cl : List vw_C} {cA : ClassId} {n q0 a : Nat} {f f' : Nat → Int32} {ws : va_W} {H1 : Heap} (hf : vp_cell cA (n, .inl f) = vp_cell cA (n, .inl f')) (hP : va_P D cl (ws.set q0 (a, .inl (cA, n, .inl f))) H1) : va_P D cl (ws.set q0 (a, .inl (cA, n, .inl f'))) H1 := by
  intro k q hq
  rw [List.getElem?_set] at hq
  by_cases hk : q0 = k
  · subst hk
    rw [if_pos rfl] at hq
    split at hq
    · rename_i hl
      cases hq
      have := hP q0 (a, .inl (cA, n, .inl f)) (by rw [List.getElem?_set, if_pos rfl, if_pos hl])
      show H1[a]? = some (vp_cell cA (n, .inl f'))
      rw [← hf]
      exact this
    · cases hq
  · rw [if_neg hk] at hq
    exact hP k q (by rw [List.getElem?_set, if_neg hk]; exact hq)
theorem tm_cp_r {own : String} {i : Nat} (hx : p.tables.exec = Jvm.exec) (hb : c.code = cc) (hts : ∀ w ∈ tbl, w.before args s = true) (hown : s.vm.findClass own = some m.cls) (hl : lsC.size = c.maxLocals) (hK : va_K D cl (tm_tys K tc) s) (hok : Cond.methodLink own i arraycopyName ∈ tbl ∧ Cond.native arraycopyName ∈ tbl ∧ Cond.static arraycopyName ∈ tbl ∧ Cond.initialized "java/lang/System" ∈ tbl) (hd : decode cc pc = .ok (.invokestatic i, 3)) (hw : tm_HW D cl tc lo h H) (hS : va_S (fun q => lo ≤ q) s.heap H locs) (hR : d ≤ R.frames ∧ 41 * d ≤ R.locals) (hs : tm_cp d pc ls st h = some (.inl (pc', ls', st', h1))) (kk : ∀ (H1 : Heap) (locs1 : List Loc), tm_HW D cl tc lo h1 H1 → va_S (fun q => lo ≤ q) s.heap H1 locs1 → h1.1 = h.1 → h1.2.1 = h.2.1 → ls' = ls → W p l e R s m args below meth c H1 locs1 cells slots Q (F0 m pc' lsC st')) : W p l e R s m args below meth c H locs cells slots Q (F0 m pc lsC st) := by
  unfold tm_cp at hs
  split at hs
  · split at hs
    · rename_i ha hb2
      split at hs
      · rename_i hc
        obtain ⟨c1, c2, c3, c4, c5, c6, c7⟩ := hc
        cases hs
        obtain ⟨-, -, q3⟩ := hw.arr ha (by decide)
        obtain ⟨q4, q5, q6⟩ := hw.arr hb2 (by decide)
        have hn : nativeFrameWords "java/lang/System" "arraycopy" 5 = 7 := by decide
        exact va_copyi hx hb hl.symm hown (hts _ hok.1) (hts _ hok.2.1) (hts _ hok.2.2.1) (hts _ hok.2.2.2) hK hw.2.2.1 tm_WL_D hS _ _ 0 0 q3 q6 rfl rfl rfl c3 c4 c5 c6 c7 (fun i _ => rfl) (by omega) (by rw [hn]; unfold tm_cs at c2; omega) hd (fun H1 locs1 hP _ hS1 => kk H1 locs1 (hw.put (e := .inl (0, _)) q4 q5 (by
          split
          · rename_i hz
            obtain ⟨z1, z2, z3⟩ := hz
            rw [z1, z2, z3] at hP
            exact tm_cpP tm_cpv hP
          · exact hP)) hS1 rfl rfl rfl)
      · cases hs
    · cases hs
  · cases hs
theorem tm_jmp_r {off : Int} (hs : tm_jmp pc off ls st h = some (.inl (pc', ls', st', h1))) : (pc : Int) + off = (pc' : Int) ∧ ls' = ls ∧ st' = st ∧ h1 = h := by
  unfold tm_jmp at hs
  split at hs
  · rename_i hp
    cases hs
    exact ⟨by omega, rfl, rfl, rfl⟩
  · cases hs
theorem tm_tsw_r {dflt lo2 hi : Int} {offs : Array Int} {len : Nat} (hx : p.tables.exec = Jvm.exec) (hb : c.code = cc) (hd : decode cc pc = .ok (.tableswitch dflt lo2 hi offs, len)) (hs : tm_tsw pc dflt lo2 hi offs ls st h = some (.inl (pc', ls', st', h1))) (kk : h1 = h → ls' = ls → W p l e R s m args below meth c H locs cells slots Q (F0 m pc' lsC st')) : W p l e R s m args below meth c H locs cells slots Q (F0 m pc lsC st) := by
  unfold tm_tsw at hs
  split at hs
  · split at hs
    · rename_i hc
      obtain ⟨q1, q2, rfl, q4⟩ := tm_jmp_r hs
      exact lv_tableOut hx hb hd hc q1 (kk q4 q2)
    · rename_i hc
      split at hs
      · rename_i off ho
        obtain ⟨q1, q2, rfl, q4⟩ := tm_jmp_r hs
        exact lv_tableIn hx hb hd (fun q => hc (Or.inl q)) (fun q => hc (Or.inr q)) ho q1 (kk q4 q2)
      · cases hs
  · cases hs
theorem tm_lsw_r {dflt : Int} {ps : Array (Int × Int)} {len : Nat} (hx : p.tables.exec = Jvm.exec) (hb : c.code = cc) (hd : decode cc pc = .ok (.lookupswitch dflt ps, len)) (hs : tm_lsw pc dflt ps ls st h = some (.inl (pc', ls', st', h1))) (kk : h1 = h → ls' = ls → W p l e R s m args below meth c H locs cells slots Q (F0 m pc' lsC st')) : W p l e R s m args below meth c H locs cells slots Q (F0 m pc lsC st) := by
  unfold tm_lsw at hs
  split at hs
  · split at hs
    · rename_i hc
      obtain ⟨q1, q2, rfl, q4⟩ := tm_jmp_r hs
      exact lv_lookup hx hb hd hc rfl q1 (kk q4 q2)
    · cases hs
  · cases hs
theorem tm_b1_r {cd : Jvm.ClassFile.Cond} {off : Int} {x : Int32} {a : Nat} {r : List Value} (hx : p.tables.exec = Jvm.exec) (hb : c.code = cc) (hd : decode cc pc = .ok (.ifCond cd off, 3)) (ht : (pc : Int) + off = (a : Int)) (hs : tm_b1 cd x (tm_nx a ls r h) (tm_nx (pc + 3) ls r h) = some (.inl (pc', ls', st', h1))) (kk : h1 = h → ls' = ls → W p l e R s m args below meth c H locs cells slots Q (F0 m pc' lsC st')) : W p l e R s m args below meth c H locs cells slots Q (F0 m pc lsC (.int x :: r)) := by
  cases cd
  · refine lv_if_eq hx hb hd ht (fun hc => ?_) (fun hc => ?_) <;> simp only [tm_b1, hc, if_true, if_false, tm_nx] at hs <;> (cases hs; exact kk rfl rfl)
  · refine lv_if_ne hx hb hd ht (fun hc => ?_) (fun hc => ?_) <;> simp only [tm_b1, hc, if_true, if_false, tm_nx] at hs <;> (cases hs; exact kk rfl rfl)
  · refine lv_if_lt hx hb hd ht (fun hc => ?_) (fun hc => ?_) <;> simp only [tm_b1, hc, if_true, if_false, tm_nx] at hs <;> (cases hs; exact kk rfl rfl)
  · refine lv_if_ge hx hb hd ht (fun hc => ?_) (fun hc => ?_) <;> simp only [tm_b1, hc, if_true, if_false, tm_nx] at hs <;> (cases hs; exact kk rfl rfl)
  · refine lv_if_gt hx hb hd ht (fun hc => ?_) (fun hc => ?_) <;> simp only [tm_b1, hc, if_true, if_false, tm_nx] at hs <;> (cases hs; exact kk rfl rfl)
  · refine lv_if_le hx hb hd ht (fun hc => ?_) (fun hc => ?_) <;> simp only [tm_b1, hc, if_true, if_false, tm_nx] at hs <;> (cases hs; exact kk rfl rfl)
theorem tm_b2_r {cd : Jvm.ClassFile.Cond} {off : Int} {x y : Int32} {a : Nat} {r : List Value} (hx : p.tables.exec = Jvm.exec) (hb : c.code = cc) (hd : decode cc pc = .ok (.if_icmp cd off, 3)) (ht : (pc : Int) + off = (a : Int)) (hs : tm_b2 cd x y (tm_nx a ls r h) (tm_nx (pc + 3) ls r h) = some (.inl (pc', ls', st', h1))) (kk : h1 = h → ls' = ls → W p l e R s m args below meth c H locs cells slots Q (F0 m pc' lsC st')) : W p l e R s m args below meth c H locs cells slots Q (F0 m pc lsC (.int y :: .int x :: r)) := by
  cases cd
  · refine lv_icmp_eq hx hb hd ht (fun hc => ?_) (fun hc => ?_) <;> simp only [tm_b2, hc, if_true, if_false, tm_nx] at hs <;> (cases hs; exact kk rfl rfl)
  · refine lv_icmp_ne hx hb hd ht (fun hc => ?_) (fun hc => ?_) <;> simp only [tm_b2, hc, if_true, if_false, tm_nx] at hs <;> (cases hs; exact kk rfl rfl)
  · refine lv_icmp_lt hx hb hd ht (fun hc => ?_) (fun hc => ?_) <;> simp only [tm_b2, hc, if_true, if_false, tm_nx] at hs <;> (cases hs; exact kk rfl rfl)
  · refine lv_icmp_ge hx hb hd ht (fun hc => ?_) (fun hc => ?_) <;> simp only [tm_b2, hc, if_true, if_false, tm_nx] at hs <;> (cases hs; exact kk rfl rfl)
  · refine lv_icmp_gt hx hb hd ht (fun hc => ?_) (fun hc => ?_) <;> simp only [tm_b2, hc, if_true, if_false, tm_nx] at hs <;> (cases hs; exact kk rfl rfl)
  · refine lv_icmp_le hx hb hd ht (fun hc => ?_) (fun hc => ?_) <;> simp only [tm_b2, hc, if_true, if_false, tm_nx] at hs <;> (cases hs; exact kk rfl rfl)
end TMN
