/-! a step of the thin machine is a step of the machine -/
def tm_tys (K : String) (tc : Nat → ClassId) : List (ClassId × FieldType) := [(tc 0, .int), (tc 1, .byte), (tc 2, .char), (tc 3, .long), (tc 4, .boolean), (tc 5, .object K)]
/-- what is known where method M runs: the machine, its code, the words, the classes -/
def tm_C (G : tm_G) (cl : List vw_C) (tbl : List Cond) (D : va_G) (tc : Nat → ClassId) (lo : Nat) (K : String) (EX : State → Prop) (M : Nat) (p : Program) (s : State) (m : MethodId) (args : Array Value) (meth : Method) (c : Code) : Prop :=
  p.tables.exec = Jvm.exec ∧ c.code = (tm_mt G M).2.1 ∧ c.maxLocals = (tm_mt G M).2.2.1 ∧ meth.sig.returnType = (tm_mt G M).2.2.2.1 ∧ s.vm.findClass (tm_mt G M).1.cls = some m.cls ∧ (∀ w ∈ tbl, w.before args s = true) ∧ va_K D cl (tm_tys K tc) s ∧ meth.locks = false ∧ meth.name = (tm_mt G M).1.name ∧ lo ≤ s.heap.size ∧ EX s
def tm_okf (cl : List vw_C) (tbl : List Cond) (own : String) (i a b : Nat) : Prop := ∃ (C : String) (T : u_T) (N : Nat), cl[a]? = some (C, T, N) ∧ b < N ∧ (∀ w ∈ u_ws C T N, w ∈ tbl) ∧ Cond.fieldLink own i (T b).1 (T b).2.1 (T b).2.2.1 ∈ tbl
def tm_okp (G : tm_G) (cl : List vw_C) (tbl : List Cond) (y : MethodName) (i a b : Nat) : Prop := ∃ (C : String) (T : u_T) (N : Nat), cl[a]? = some (C, T, N) ∧ b < N ∧ (∀ w ∈ u_ws C T N, w ∈ tbl) ∧ Cond.fieldLink y.cls i (T b).1 (T b).2.1 (T b).2.2.1 ∈ tbl ∧
  (∀ k, k < N → parseFieldDescriptor (T k).2.2.1 = some (tm_fy G a k)) ∧ (∀ a, a < N → ∀ b, b < N → a ≠ b → (T a).2.1 ≠ (T b).2.1) ∧ ((T b).2.2.2 = false ∨ ((T b).2.2.2 = true ∧ y.name = "<init>" ∧ (T b).1 = y.cls))
def tm_okn (G : tm_G) (cl : List vw_C) (tbl : List Cond) (own : String) (i a : Nat) : Prop := ∃ (C : String) (T : u_T) (N : Nat), cl[a]? = some (C, T, N) ∧ (∀ w ∈ u_ws C T N, w ∈ tbl) ∧ Cond.classLink own i C ∈ tbl ∧ Cond.instantiable C N ∈ tbl ∧ Cond.initialized C ∈ tbl ∧
  (∀ k, k < N → parseFieldDescriptor (T k).2.2.1 = some (tm_fy G a k)) ∧ (tm_dv G a).length = N ∧ ∀ j, j < N → defaultValue (tm_fy G a j) = vp_V (tm_dv G a) j
/-- what a call's method must be -/
def tm_okc (G : tm_G) (tbl : List Cond) (a b : Nat) : Prop := Cond.code (tm_mt G a).1 (tm_mt G a).2.1 (tm_mt G a).2.2.1 (tm_mt G a).2.2.2.1 ∈ tbl ∧ Cond.initialized (tm_mt G a).1.cls ∈ tbl ∧ (tm_mt G a).1.cls ≠ "java/lang/invoke/MethodHandle" ∧ (tm_mt G a).1.cls ≠ "java/lang/invoke/VarHandle" ∧ (parseMethodDescriptor (tm_mt G a).1.desc).map (fun d => d.parameters.length) = some b ∧ (tm_mt G a).2.2.1 ≤ 22 ∧ (tm_mt G a).2.2.2.2 ≠ 311
/-- the link of a call: among the words, or between nest mates -/
def tm_okl (tbl : List Cond) (EX : State → Prop) (own : String) (i : Nat) (y : MethodName) : Prop := Cond.methodLink own i y ∈ tbl ∨ ∃ host, ∀ s, EX s → va_Nw (.methodLinkNest own i y host) s
def tm_okm (tbl : List Cond) (own : String) (i : Nat) (y : MethodName) (cd : ByteArray) (n : Nat) : Prop := Cond.methodLink own i y ∈ tbl ∧ Cond.static y ∈ tbl ∧ Cond.initialized "java/lang/Math" ∈ tbl ∧ Cond.code y cd n (some .int) ∈ tbl
def tm_okr (G : tm_G) (cl : List vw_C) (tbl : List Cond) (K : String) (EX : State → Prop) (M pc : Nat) (e : tm_N) : Prop := match e with
  | (.ldc i, a, b) => (b = 0 → Jvm.Cond.constant (tm_mt G M).1.cls i (Int32.ofNat a) ∈ tbl) ∧ (b ≠ 0 → ∃ tx, ∀ s, EX s → vk_R (tm_mt G M).1.cls i tx (tm_sa G a) s)
  | (.ldc_w i, a, b) => (b = 0 → Jvm.Cond.constant (tm_mt G M).1.cls i (Int32.ofNat a) ∈ tbl) ∧ (b ≠ 0 → ∃ tx, ∀ s, EX s → vk_R (tm_mt G M).1.cls i tx (tm_sa G a) s)
  | (.ldc2_w i, a, _) => Jvm.Cond.constantLong (tm_mt G M).1.cls i (Int64.ofNat a) ∈ tbl
  | (.goto off, a, _) => (pc : Int) + off = (a : Int)
  | (.ifCond _ off, a, _) => (pc : Int) + off = (a : Int)
  | (.if_icmp _ off, a, _) => (pc : Int) + off = (a : Int)
  | (.getfield i, a, b) => if a = 200 then (if b = 0 then Cond.fieldLink (tm_mt G M).1.cls i "java/lang/String" "value" "[B" ∈ tbl else Cond.fieldLink (tm_mt G M).1.cls i "java/lang/String" "coder" "B" ∈ tbl) else tm_okf cl tbl (tm_mt G M).1.cls i a b
  | (.getstatic i, a, _) => if a = 0 then Cond.fieldLink (tm_mt G M).1.cls i "java/lang/String" "COMPACT_STRINGS" "Z" ∈ tbl else Cond.fieldLink (tm_mt G M).1.cls i "jdk/internal/util/Preconditions" "SIOOBE_FORMATTER" "Ljava/util/function/BiFunction;" ∈ tbl
  | (.putfield i, a, b) => tm_okp G cl tbl (tm_mt G M).1 i a b
  | (.aastore, a, _) => ∃ r : vw_C, cl[a]? = some r ∧ r.1 = K
  | (.newarray t, _, _) => Cond.arrayClass (newarray.typeOf t) ∈ tbl
  | (.anewarray i, _, _) => Cond.classLink (tm_mt G M).1.cls i K ∈ tbl ∧ ∀ s, EX s → va_AO K s
  | (.new i, a, _) => if a = 301 then (tm_mt G M).2.2.2.2 = 311 else tm_okn G cl tbl (tm_mt G M).1.cls i a
  | (.invokevirtual i, a, b) => if 1000 ≤ a then True else tm_okc G tbl a b ∧ Cond.methodLink (tm_mt G M).1.cls i (tm_mt G a).1 ∈ tbl ∧ Cond.instanceMethod (tm_mt G a).1 ∈ tbl ∧ Cond.selects (tm_mt G a).1.cls (tm_mt G a).1 (tm_mt G a).1 ∈ tbl ∧ (((tm_mt G a).2.2.2.2 = 200 ∧ (tm_mt G a).1.cls = "java/lang/String") ∨ ∃ (T : u_T) (N : Nat), cl[(tm_mt G a).2.2.2.2]? = some ((tm_mt G a).1.cls, T, N)) ∧ cl[200]? = none
  | (.invokespecial i, a, b) => if b = 1000 then (Cond.methodLink (tm_mt G M).1.cls i Lib.objectInit ∈ tbl ∧ Cond.instanceMethod Lib.objectInit ∈ tbl ∧ Cond.code Lib.objectInit ⟨#[0xb1]⟩ 1 none ∈ tbl) else
      tm_okc G tbl a b ∧ tm_okl tbl EX (tm_mt G M).1.cls i (tm_mt G a).1 ∧ (tm_mt G a).1.name = "<init>" ∧ Cond.instanceMethod (tm_mt G a).1 ∈ tbl ∧ (tm_mt G a).2.2.2.1 = none
  | (.invokestatic i, a, b) => if b = 1000 then (Cond.methodLink (tm_mt G M).1.cls i arraycopyName ∈ tbl ∧ Cond.native arraycopyName ∈ tbl ∧ Cond.static arraycopyName ∈ tbl ∧ Cond.initialized "java/lang/System" ∈ tbl) else if b = 1001 then tm_okm tbl (tm_mt G M).1.cls i Lib.Math.max.name Lib.Math.max.code 2 else if b = 1002 then tm_okm tbl (tm_mt G M).1.cls i Lib.Math.min.name Lib.Math.min.code 2 else if b = 1003 then tm_okm tbl (tm_mt G M).1.cls i Lib.Math.abs.name Lib.Math.abs.code 1 else if 1000 ≤ a then True else
      tm_okc G tbl a b ∧ tm_okl tbl EX (tm_mt G M).1.cls i (tm_mt G a).1 ∧ Cond.static (tm_mt G a).1 ∈ tbl
  | (.ireturn, a, _) => (tm_mt G M).2.2.2.1 = some (tm_rt a)
  | (.lreturn, _, _) => (tm_mt G M).2.2.2.1 = some .long
  | (.areturn, _, _) => ∃ rt, (tm_mt G M).2.2.2.1 = some rt ∧ ((∃ n, rt = .object n) ∨ ∃ t, rt = .array t)
  | (.return_, _, _) => (tm_mt G M).2.2.2.1 = none
  | _ => True
def tm_ok (G : tm_G) (cl : List vw_C) (tbl : List Cond) (K : String) (EX : State → Prop) (M pc : Nat) (e : tm_N) : Prop :=
  (∃ n, decode (tm_mt G M).2.1 pc = .ok (e.1, n) ∧ (tm_len e.1 = 0 ∨ n = tm_len e.1)) ∧ tm_okr G cl tbl K EX M pc e
section TMS
variable {p : Program} {l : Launch} {e : Env} {R : Room} {s : State} {m : MethodId} {args : Array Value} {below : List Frame} {meth : Method} {c : Code} {H : Heap} {locs : List Loc} {cells slots : Nat} {Q : State → Prop}
variable {cc : ByteArray} {pc : Nat} {lsC : Array Slot}
variable {G : tm_G} {cl : List vw_C} {tbl : List Cond} {D : va_G} {tc : Nat → ClassId} {lo : Nat} {K : String} {EX : State → Prop} {M d pc' nL : Nat} {ls ls' st st' : List Value} {h h1 : tm_H}
/-- the heap is no larger than what was made -/
theorem tm_size {g : JFrame} (hz : h.1 = s.heap.size + cells) (hw : tm_HW D cl tc lo h H) (k : H.size = h.1 → W p l e R s m args below meth c H locs cells slots Q g) : W p l e R s m args below meth c H locs cells slots Q g := by
  intro T hT X
  have h1 : (T.setVm s.vm).heap.size ≤ s.heap.size + cells := X.same.2.2.1
  have h2 : T.heap.size ≤ s.heap.size + cells := h1
  refine k ?_ T hT X
  have := hw.2.1
  rw [hT] at h2
  omega
theorem tm_i1_r {f : Int32 → Value} (row : ∀ (x : Int32) (r : List Value), W p l e R s m args below meth c H locs cells slots Q (F0 m (pc + 1) lsC (f x :: r)) → W p l e R s m args below meth c H locs cells slots Q (F0 m pc lsC (.int x :: r))) (hs : tm_i1 f pc ls st h = some (.inl (pc', ls', st', h1))) (kk : h1 = h → ls' = ls → W p l e R s m args below meth c H locs cells slots Q (F0 m pc' lsC st')) : W p l e R s m args below meth c H locs cells slots Q (F0 m pc lsC st) := by
  unfold tm_i1 at hs
  split at hs
  · cases hs
    exact row _ _ (kk rfl rfl)
  · cases hs
theorem tm_i2_r {f : Int32 → Int32 → Value} (row : ∀ (x y : Int32) (r : List Value), W p l e R s m args below meth c H locs cells slots Q (F0 m (pc + 1) lsC (f x y :: r)) → W p l e R s m args below meth c H locs cells slots Q (F0 m pc lsC (.int y :: .int x :: r))) (hs : tm_i2 f pc ls st h = some (.inl (pc', ls', st', h1))) (kk : h1 = h → ls' = ls → W p l e R s m args below meth c H locs cells slots Q (F0 m pc' lsC st')) : W p l e R s m args below meth c H locs cells slots Q (F0 m pc lsC st) := by
  unfold tm_i2 at hs
  split at hs
  · cases hs
    exact row _ _ _ (kk rfl rfl)
  · cases hs
theorem tm_d2_r {f : Int32 → Int32 → Value} (row : ∀ (x y : Int32) (r : List Value), ¬ y = 0 → W p l e R s m args below meth c H locs cells slots Q (F0 m (pc + 1) lsC (f x y :: r)) → W p l e R s m args below meth c H locs cells slots Q (F0 m pc lsC (.int y :: .int x :: r))) (hs : tm_d2 f pc ls st h = some (.inl (pc', ls', st', h1))) (kk : h1 = h → ls' = ls → W p l e R s m args below meth c H locs cells slots Q (F0 m pc' lsC st')) : W p l e R s m args below meth c H locs cells slots Q (F0 m pc lsC st) := by
  unfold tm_d2 at hs
  split at hs
  · split at hs
    · cases hs
    · rename_i hy
      cases hs
      exact row _ _ _ hy (kk rfl rfl)
  · cases hs
theorem tm_l1_r {f : Int64 → Value} (row : ∀ (x : Int64) (r : List Value), W p l e R s m args below meth c H locs cells slots Q (F0 m (pc + 1) lsC (f x :: r)) → W p l e R s m args below meth c H locs cells slots Q (F0 m pc lsC (.long x :: r))) (hs : tm_l1 f pc ls st h = some (.inl (pc', ls', st', h1))) (kk : h1 = h → ls' = ls → W p l e R s m args below meth c H locs cells slots Q (F0 m pc' lsC st')) : W p l e R s m args below meth c H locs cells slots Q (F0 m pc lsC st) := by
  unfold tm_l1 at hs
  split at hs
  · cases hs
    exact row _ _ (kk rfl rfl)
  · cases hs
theorem tm_l2_r {f : Int64 → Int64 → Value} (row : ∀ (x y : Int64) (r : List Value), W p l e R s m args below meth c H locs cells slots Q (F0 m (pc + 1) lsC (f x y :: r)) → W p l e R s m args below meth c H locs cells slots Q (F0 m pc lsC (.long y :: .long x :: r))) (hs : tm_l2 f pc ls st h = some (.inl (pc', ls', st', h1))) (kk : h1 = h → ls' = ls → W p l e R s m args below meth c H locs cells slots Q (F0 m pc' lsC st')) : W p l e R s m args below meth c H locs cells slots Q (F0 m pc lsC st) := by
  unfold tm_l2 at hs
  split at hs
  · cases hs
    exact row _ _ _ (kk rfl rfl)
  · cases hs
theorem tm_e2_r {f : Int64 → Int64 → Value} (row : ∀ (x y : Int64) (r : List Value), ¬ y = 0 → W p l e R s m args below meth c H locs cells slots Q (F0 m (pc + 1) lsC (f x y :: r)) → W p l e R s m args below meth c H locs cells slots Q (F0 m pc lsC (.long y :: .long x :: r))) (hs : tm_e2 f pc ls st h = some (.inl (pc', ls', st', h1))) (kk : h1 = h → ls' = ls → W p l e R s m args below meth c H locs cells slots Q (F0 m pc' lsC st')) : W p l e R s m args below meth c H locs cells slots Q (F0 m pc lsC st) := by
  unfold tm_e2 at hs
  split at hs
  · split at hs
    · cases hs
    · rename_i hy
      cases hs
      exact row _ _ _ hy (kk rfl rfl)
  · cases hs
theorem tm_s2_r {f : Int64 → Int32 → Value} (row : ∀ (x : Int64) (y : Int32) (r : List Value), W p l e R s m args below meth c H locs cells slots Q (F0 m (pc + 1) lsC (f x y :: r)) → W p l e R s m args below meth c H locs cells slots Q (F0 m pc lsC (.int y :: .long x :: r))) (hs : tm_s2 f pc ls st h = some (.inl (pc', ls', st', h1))) (kk : h1 = h → ls' = ls → W p l e R s m args below meth c H locs cells slots Q (F0 m pc' lsC st')) : W p l e R s m args below meth c H locs cells slots Q (F0 m pc lsC st) := by
  unfold tm_s2 at hs
  split at hs
  · cases hs
    exact row _ _ _ (kk rfl rfl)
  · cases hs
theorem tm_ldi_r {n i : Nat} (hL : tm_LR lsC nL ls) (row : ∀ (x : Int32) (r : List Value), lsC[i]? = some (.val (.int x)) → W p l e R s m args below meth c H locs cells slots Q (F0 m (pc + n) lsC (.int x :: r)) → W p l e R s m args below meth c H locs cells slots Q (F0 m pc lsC r)) (hs : tm_ldi n i pc ls st h = some (.inl (pc', ls', st', h1))) (kk : h1 = h → ls' = ls → W p l e R s m args below meth c H locs cells slots Q (F0 m pc' lsC st')) : W p l e R s m args below meth c H locs cells slots Q (F0 m pc lsC st) := by
  unfold tm_ldi at hs
  split at hs
  · rename_i hi
    cases hs
    exact row _ _ (hL.at hi (fun k q => by cases q)) (kk rfl rfl)
  · cases hs
theorem tm_ldl_r {n i : Nat} (hL : tm_LR lsC nL ls) (row : ∀ (x : Int64) (r : List Value), lsC[i]? = some (.val (.long x)) → W p l e R s m args below meth c H locs cells slots Q (F0 m (pc + n) lsC (.long x :: r)) → W p l e R s m args below meth c H locs cells slots Q (F0 m pc lsC r)) (hs : tm_ldl n i pc ls st h = some (.inl (pc', ls', st', h1))) (kk : h1 = h → ls' = ls → W p l e R s m args below meth c H locs cells slots Q (F0 m pc' lsC st')) : W p l e R s m args below meth c H locs cells slots Q (F0 m pc lsC st) := by
  unfold tm_ldl at hs
  split at hs
  · rename_i hi
    cases hs
    exact row _ _ (hL.at hi (fun k q => by cases q)) (kk rfl rfl)
  · cases hs
theorem tm_lda_r {n i : Nat} (hL : tm_LR lsC nL ls) (row : ∀ (x : Nat) (r : List Value), lsC[i]? = some (.val (.ref x)) → W p l e R s m args below meth c H locs cells slots Q (F0 m (pc + n) lsC (.ref x :: r)) → W p l e R s m args below meth c H locs cells slots Q (F0 m pc lsC r)) (hs : tm_lda n i pc ls st h = some (.inl (pc', ls', st', h1))) (kk : h1 = h → ls' = ls → W p l e R s m args below meth c H locs cells slots Q (F0 m pc' lsC st')) : W p l e R s m args below meth c H locs cells slots Q (F0 m pc lsC st) := by
  unfold tm_lda at hs
  split at hs
  · rename_i hi
    cases hs
    exact row _ _ (hL.at hi (fun k q => by cases q)) (kk rfl rfl)
  · cases hs
theorem tm_sti_r {n i : Nat} (hL : tm_LR lsC nL ls) (row : ∀ (x : Int32) (r : List Value), i < nL → (∀ lsD : Array Slot, lv_has lsD nL ((i, Value.int x) :: (tm_pl ls).filter (fun q => !(q.1 == i) && !(q.1 + 1 == i && q.2.category == 2))) → W p l e R s m args below meth c H locs cells slots Q (F0 m (pc + n) lsD r)) → W p l e R s m args below meth c H locs cells slots Q (F0 m pc lsC (.int x :: r))) (hs : tm_sti n i pc ls st h = some (.inl (pc', ls', st', h1))) (kk : ∀ lsD, h1 = h → tm_LR lsD nL ls' → W p l e R s m args below meth c H locs cells slots Q (F0 m pc' lsD st')) : W p l e R s m args below meth c H locs cells slots Q (F0 m pc lsC st) := by
  unfold tm_sti at hs
  split at hs
  · split at hs
    · rename_i hi
      cases hs
      exact row _ _ (by rw [← hL.1]; exact (tm_set1_i hi).1) (fun lsD hD => kk lsD rfl (hL.set1 hi hD))
    · cases hs
  · cases hs
theorem tm_sta_r {n i : Nat} (hL : tm_LR lsC nL ls) (row : ∀ (x : Nat) (r : List Value), i < nL → (∀ lsD : Array Slot, lv_has lsD nL ((i, Value.ref x) :: (tm_pl ls).filter (fun q => !(q.1 == i) && !(q.1 + 1 == i && q.2.category == 2))) → W p l e R s m args below meth c H locs cells slots Q (F0 m (pc + n) lsD r)) → W p l e R s m args below meth c H locs cells slots Q (F0 m pc lsC (.ref x :: r))) (hs : tm_sta n i pc ls st h = some (.inl (pc', ls', st', h1))) (kk : ∀ lsD, h1 = h → tm_LR lsD nL ls' → W p l e R s m args below meth c H locs cells slots Q (F0 m pc' lsD st')) : W p l e R s m args below meth c H locs cells slots Q (F0 m pc lsC st) := by
  unfold tm_sta at hs
  split at hs
  · split at hs
    · rename_i hi
      cases hs
      exact row _ _ (by rw [← hL.1]; exact (tm_set1_i hi).1) (fun lsD hD => kk lsD rfl (hL.set1 hi hD))
    · cases hs
  · cases hs
theorem tm_stl_r {n i : Nat} (hL : tm_LR lsC nL ls) (row : ∀ (x : Int64) (r : List Value), i + 1 < nL → (∀ lsD : Array Slot, lv_has lsD nL ((i, Value.long x) :: (tm_pl ls).filter (fun q => !(q.1 == i) && (!(q.1 == i + 1) && !(q.1 + 1 == i && q.2.category == 2)))) → W p l e R s m args below meth c H locs cells slots Q (F0 m (pc + n) lsD r)) → W p l e R s m args below meth c H locs cells slots Q (F0 m pc lsC (.long x :: r))) (hs : tm_stl n i pc ls st h = some (.inl (pc', ls', st', h1))) (kk : ∀ lsD, h1 = h → tm_LR lsD nL ls' → W p l e R s m args below meth c H locs cells slots Q (F0 m pc' lsD st')) : W p l e R s m args below meth c H locs cells slots Q (F0 m pc lsC st) := by
  unfold tm_stl at hs
  split at hs
  · split at hs
    · rename_i hi
      cases hs
      exact row _ _ (by rw [← hL.1]; exact (tm_set2_i hi).1) (fun lsD hD => kk lsD rfl (hL.set2 hi hD))
    · cases hs
  · cases hs
theorem tm_inc_r {i : Nat} {k : Int} (hx : p.tables.exec = Jvm.exec) (hb : c.code = cc) (hd : decode cc pc = .ok (.iinc i k, 3)) (hL : tm_LR lsC nL ls) (hs : tm_inc i k pc ls st h = some (.inl (pc', ls', st', h1))) (kk : ∀ lsD, h1 = h → tm_LR lsD nL ls' → W p l e R s m args below meth c H locs cells slots Q (F0 m pc' lsD st')) : W p l e R s m args below meth c H locs cells slots Q (F0 m pc lsC st) := by
  unfold tm_inc at hs
  split at hs
  · rename_i x hi
    split at hs
    · rename_i hq
      cases hs
      obtain ⟨j, hj⟩ := List.getElem?_of_mem (tm_pl_in.mpr ⟨hi, fun k q => by cases q⟩)
      exact lv_iinc hx hb hd hL.2 hj rfl (by rw [← hL.1]; exact (tm_set1_i hq).1) rfl (fun lsD hD => kk lsD rfl (hL.set1 hq hD))
    · cases hs
  · cases hs
end TMS
