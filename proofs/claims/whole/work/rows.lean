section
/-! THE THIN MACHINE: a plain function that runs a method's decoded instructions over a heap that is a function from addresses to cells. Nothing here speaks of one program: the tables are parameters. -/
abbrev tm_E : Type := (Nat × vp_A) ⊕ (Nat × List Value)
/-- the next address, the slots made so far, the cells -/
abbrev tm_H : Type := Nat × Nat × (Nat → tm_E)
/-- an instruction and two numbers that belong to it -/
abbrev tm_N : Type := Instr × Nat × Nat
/-- a method: name, code, locals, what it returns, the number of its class -/
abbrev tm_M : Type := MethodName × ByteArray × Nat × Option FieldType × Nat
abbrev tm_O : Type := (Nat × List Value × List Value × tm_H) ⊕ (Option Value ⊕ (Nat × List Value × List Value))
def tm_up (f : Nat → tm_E) (a : Nat) (e : tm_E) : Nat → tm_E := fun q => if q = a then e else f q
theorem tm_up_s {f : Nat → tm_E} {a : Nat} {e : tm_E} : tm_up f a e a = e := if_pos rfl
theorem tm_up_n {f : Nat → tm_E} {a b : Nat} {e : tm_E} (h : b ≠ a) : tm_up f a e b = f b := if_neg h
def tm_put (h : tm_H) (a : Nat) (e : tm_E) : tm_H := (h.1, h.2.1, tm_up h.2.2 a e)
def tm_new (h : tm_H) (k : Nat) (e : tm_E) : tm_H := (h.1 + 1, h.2.1 + k, tm_up h.2.2 h.1 e)
/-- the default of a place that holds nothing -/
abbrev tm_z : Value := .retAddr 0
def tm_set1 : List Value → Nat → Value → Option (List Value)
  | [], _, _ => none
  | _ :: t, 0, v => some (v :: t)
  | x :: t, i + 1, v => if i = 0 ∧ x.category = 2 then none else match tm_set1 t i v with
    | some t' => some (x :: t')
    | none => none
def tm_set2 : List Value → Nat → Value → Option (List Value)
  | [], _, _ => none
  | [_], _, _ => none
  | _ :: _ :: t, 0, v => some (v :: tm_z :: t)
  | x :: y :: t, i + 1, v => if i = 0 ∧ x.category = 2 then none else match tm_set2 (y :: t) i v with
    | some t' => some (x :: t')
    | none => none
def tm_ex : List Value → List Value
  | [] => []
  | v :: t => if v.category = 2 then v :: tm_z :: tm_ex t else v :: tm_ex t
def tm_ent (vs : List Value) (n : Nat) : List Value := tm_ex vs ++ List.replicate (n - (tm_ex vs).length) tm_z
def tm_len : Instr → Nat
  | .bipush _ => 2
  | .sipush _ => 3
  | .ldc _ => 2
  | .ldc_w _ => 3
  | .ldc2_w _ => 3
  | .iload _ => 2
  | .lload _ => 2
  | .aload _ => 2
  | .istore _ => 2
  | .lstore _ => 2
  | .astore _ => 2
  | .iinc _ _ => 3
  | .goto _ => 3
  | .ifCond _ _ => 3
  | .if_icmp _ _ => 3
  | .getfield _ => 3
  | .putfield _ => 3
  | .new _ => 3
  | .newarray _ => 2
  | .anewarray _ => 3
  | .invokevirtual _ => 3
  | .invokespecial _ => 3
  | .invokestatic _ => 3
  | .tableswitch _ _ _ _ => 0
  | .lookupswitch _ _ => 0
  | _ => 1
def tm_nx (pc : Nat) (ls st : List Value) (h : tm_H) : Option tm_O := some (.inl (pc, ls, st, h))
def tm_i1 (f : Int32 → Value) (pc : Nat) (ls st : List Value) (h : tm_H) : Option tm_O := match st with
  | .int x :: r => tm_nx (pc + 1) ls (f x :: r) h
  | _ => none
def tm_i2 (f : Int32 → Int32 → Value) (pc : Nat) (ls st : List Value) (h : tm_H) : Option tm_O := match st with
  | .int y :: .int x :: r => tm_nx (pc + 1) ls (f x y :: r) h
  | _ => none
def tm_d2 (f : Int32 → Int32 → Value) (pc : Nat) (ls st : List Value) (h : tm_H) : Option tm_O := match st with
  | .int y :: .int x :: r => if y = 0 then none else tm_nx (pc + 1) ls (f x y :: r) h
  | _ => none
def tm_l1 (f : Int64 → Value) (pc : Nat) (ls st : List Value) (h : tm_H) : Option tm_O := match st with
  | .long x :: r => tm_nx (pc + 1) ls (f x :: r) h
  | _ => none
def tm_l2 (f : Int64 → Int64 → Value) (pc : Nat) (ls st : List Value) (h : tm_H) : Option tm_O := match st with
  | .long y :: .long x :: r => tm_nx (pc + 1) ls (f x y :: r) h
  | _ => none
def tm_e2 (f : Int64 → Int64 → Value) (pc : Nat) (ls st : List Value) (h : tm_H) : Option tm_O := match st with
  | .long y :: .long x :: r => if y = 0 then none else tm_nx (pc + 1) ls (f x y :: r) h
  | _ => none
def tm_s2 (f : Int64 → Int32 → Value) (pc : Nat) (ls st : List Value) (h : tm_H) : Option tm_O := match st with
  | .int y :: .long x :: r => tm_nx (pc + 1) ls (f x y :: r) h
  | _ => none
def tm_ldi (n i pc : Nat) (ls st : List Value) (h : tm_H) : Option tm_O := match ls[i]? with
  | some (.int x) => tm_nx (pc + n) ls (.int x :: st) h
  | _ => none
def tm_ldl (n i pc : Nat) (ls st : List Value) (h : tm_H) : Option tm_O := match ls[i]? with
  | some (.long x) => tm_nx (pc + n) ls (.long x :: st) h
  | _ => none
def tm_lda (n i pc : Nat) (ls st : List Value) (h : tm_H) : Option tm_O := match ls[i]? with
  | some (.ref x) => tm_nx (pc + n) ls (.ref x :: st) h
  | _ => none
def tm_sti (n i pc : Nat) (ls st : List Value) (h : tm_H) : Option tm_O := match st with
  | .int x :: r => match tm_set1 ls i (.int x) with
    | some ls' => tm_nx (pc + n) ls' r h
    | none => none
  | _ => none
def tm_sta (n i pc : Nat) (ls st : List Value) (h : tm_H) : Option tm_O := match st with
  | .ref x :: r => match tm_set1 ls i (.ref x) with
    | some ls' => tm_nx (pc + n) ls' r h
    | none => none
  | _ => none
def tm_stl (n i pc : Nat) (ls st : List Value) (h : tm_H) : Option tm_O := match st with
  | .long x :: r => match tm_set2 ls i (.long x) with
    | some ls' => tm_nx (pc + n) ls' r h
    | none => none
  | _ => none
def tm_inc (i : Nat) (k : Int) (pc : Nat) (ls st : List Value) (h : tm_H) : Option tm_O := match ls[i]? with
  | some (.int x) => match tm_set1 ls i (.int (x + Int32.ofInt k)) with
    | some ls' => tm_nx (pc + 3) ls' st h
    | none => none
  | _ => none
def tm_b1 (c : Jvm.ClassFile.Cond) (x : Int32) (t f : Option tm_O) : Option tm_O := match c with
  | .eq => if x = 0 then t else f
  | .ne => if x = 0 then f else t
  | .lt => if x < 0 then t else f
  | .ge => if 0 ≤ x then t else f
  | .gt => if 0 < x then t else f
  | .le => if x ≤ 0 then t else f
def tm_b2 (c : Jvm.ClassFile.Cond) (x y : Int32) (t f : Option tm_O) : Option tm_O := match c with
  | .eq => if x = y then t else f
  | .ne => if x = y then f else t
  | .lt => if x < y then t else f
  | .ge => if y ≤ x then t else f
  | .gt => if y < x then t else f
  | .le => if x ≤ y then t else f
def tm_jmp (pc : Nat) (off : Int) (ls st : List Value) (h : tm_H) : Option tm_O := if 0 ≤ (pc : Int) + off then tm_nx ((pc : Int) + off).toNat ls st h else none
/-- the tables of a program: instructions, methods, types of fields, fields of a new object, addresses of strings, the script (address, length, contents), methods that are known by what they do -/
abbrev tm_G : Type := (Nat → Nat → Option tm_N) × (Nat → tm_M) × (Nat → Nat → FieldType) × (Nat → List Value) × (Nat → Nat) × (Nat × Nat × (Nat → Int32)) × (Nat → Nat → List Value → tm_H → Option (Option Value × tm_H))
abbrev tm_ft (G : tm_G) : Nat → Nat → Option tm_N := G.1
abbrev tm_mt (G : tm_G) : Nat → tm_M := G.2.1
abbrev tm_fy (G : tm_G) : Nat → Nat → FieldType := G.2.2.1
abbrev tm_dv (G : tm_G) : Nat → List Value := G.2.2.2.1
abbrev tm_sa (G : tm_G) : Nat → Nat := G.2.2.2.2.1
abbrev tm_sc (G : tm_G) : Nat × Nat × (Nat → Int32) := G.2.2.2.2.2.1
abbrev tm_xt (G : tm_G) : Nat → Nat → List Value → tm_H → Option (Option Value × tm_H) := G.2.2.2.2.2.2
def tm_cs (st : List Value) : Nat := (st.map fun v => v.category).sum
def tm_ldc (G : tm_G) (n a b pc : Nat) (ls st : List Value) (h : tm_H) : Option tm_O := if b = 0 then tm_nx (pc + n) ls (.int (Int32.ofNat a) :: st) h else tm_nx (pc + n) ls (.ref (tm_sa G a) :: st) h
def tm_get (ci k pc : Nat) (ls st : List Value) (h : tm_H) : Option tm_O := match st with
  | .ref o :: r => match h.2.2 o with
    | .inr (c, fs) => if c = ci then match fs[k]? with
      | some v => tm_nx (pc + 3) ls (v :: r) h
      | none => none else none
    | _ => none
  | _ => none
def tm_set (G : tm_G) (ci k pc : Nat) (ls st : List Value) (h : tm_H) : Option tm_O := match st with
  | v :: .ref o :: r => match h.2.2 o with
    | .inr (c, fs) => if c = ci ∧ k < fs.length ∧ narrow (tm_fy G ci k) v = v ∧ fits (tm_fy G ci k) v = true then tm_nx (pc + 3) ls r (tm_put h o (.inr (ci, fs.set k v))) else none
    | _ => none
  | _ => none
def tm_ild (G : tm_G) (pc : Nat) (ls st : List Value) (h : tm_H) : Option tm_O := match st with
  | .int i :: .ref a :: r => match h.2.2 a with
    | .inl (0, n, .inl f) => if i < 0 ∨ n ≤ i.toNatClampNeg then none else tm_nx (pc + 1) ls (.int (f i.toNatClampNeg) :: r) h
    | .inl (101, _) => if a = (tm_sc G).1 then (if i < 0 ∨ (tm_sc G).2.1 ≤ i.toNatClampNeg then none else tm_nx (pc + 1) ls (.int ((tm_sc G).2.2 i.toNatClampNeg) :: r) h) else none
    | _ => none
  | _ => none
def tm_bld (pc : Nat) (ls st : List Value) (h : tm_H) : Option tm_O := match st with
  | .int i :: .ref a :: r => match h.2.2 a with
    | .inl (1, n, .inl f) => if i < 0 ∨ n ≤ i.toNatClampNeg then none else tm_nx (pc + 1) ls (.int (f i.toNatClampNeg) :: r) h
    | .inl (4, n, .inl f) => if i < 0 ∨ n ≤ i.toNatClampNeg then none else tm_nx (pc + 1) ls (.int (f i.toNatClampNeg) :: r) h
    | _ => none
  | _ => none
def tm_cld (pc : Nat) (ls st : List Value) (h : tm_H) : Option tm_O := match st with
  | .int i :: .ref a :: r => match h.2.2 a with
    | .inl (2, n, .inl f) => if i < 0 ∨ n ≤ i.toNatClampNeg then none else tm_nx (pc + 1) ls (.int (f i.toNatClampNeg) :: r) h
    | _ => none
  | _ => none
def tm_lld (pc : Nat) (ls st : List Value) (h : tm_H) : Option tm_O := match st with
  | .int i :: .ref a :: r => match h.2.2 a with
    | .inl (3, n, .inr (.inl f)) => if i < 0 ∨ n ≤ i.toNatClampNeg then none else tm_nx (pc + 1) ls (.long (f i.toNatClampNeg) :: r) h
    | _ => none
  | _ => none
def tm_ald (pc : Nat) (ls st : List Value) (h : tm_H) : Option tm_O := match st with
  | .int i :: .ref a :: r => match h.2.2 a with
    | .inl (5, n, .inr (.inr (.inr (.inr f)))) => if i < 0 ∨ n ≤ i.toNatClampNeg then none else tm_nx (pc + 1) ls (va_rf (f i.toNatClampNeg) :: r) h
    | _ => none
  | _ => none
def tm_isr (pc : Nat) (ls st : List Value) (h : tm_H) : Option tm_O := match st with
  | .int x :: .int i :: .ref a :: r => match h.2.2 a with
    | .inl (0, n, .inl f) => if i < 0 ∨ n ≤ i.toNatClampNeg then none else tm_nx (pc + 1) ls r (tm_put h a (.inl (0, n, .inl (upd f i.toNatClampNeg x))))
    | _ => none
  | _ => none
def tm_bsr (pc : Nat) (ls st : List Value) (h : tm_H) : Option tm_O := match st with
  | .int x :: .int i :: .ref a :: r => match h.2.2 a with
    | .inl (1, n, .inl f) => if i < 0 ∨ n ≤ i.toNatClampNeg then none else tm_nx (pc + 1) ls r (tm_put h a (.inl (1, n, .inl (upd f i.toNatClampNeg (vp_nar .byte x)))))
    | .inl (4, n, .inl f) => if i < 0 ∨ n ≤ i.toNatClampNeg then none else tm_nx (pc + 1) ls r (tm_put h a (.inl (4, n, .inl (upd f i.toNatClampNeg (vp_nar .boolean x)))))
    | _ => none
  | _ => none
def tm_csr (pc : Nat) (ls st : List Value) (h : tm_H) : Option tm_O := match st with
  | .int x :: .int i :: .ref a :: r => match h.2.2 a with
    | .inl (2, n, .inl f) => if i < 0 ∨ n ≤ i.toNatClampNeg then none else tm_nx (pc + 1) ls r (tm_put h a (.inl (2, n, .inl (upd f i.toNatClampNeg (vp_nar .char x)))))
    | _ => none
  | _ => none
def tm_lsr (pc : Nat) (ls st : List Value) (h : tm_H) : Option tm_O := match st with
  | .long x :: .int i :: .ref a :: r => match h.2.2 a with
    | .inl (3, n, .inr (.inl f)) => if i < 0 ∨ n ≤ i.toNatClampNeg then none else tm_nx (pc + 1) ls r (tm_put h a (.inl (3, n, .inr (.inl (vp_updL f i.toNatClampNeg x)))))
    | _ => none
  | _ => none
def tm_asr (ci pc : Nat) (ls st : List Value) (h : tm_H) : Option tm_O := match st with
  | .ref v :: .int i :: .ref a :: r => match h.2.2 a, h.2.2 v with
    | .inl (5, n, .inr (.inr (.inr (.inr f)))), .inr (c, _) => if c = ci then (if i < 0 ∨ n ≤ i.toNatClampNeg then none else tm_nx (pc + 1) ls r (tm_put h a (.inl (5, n, .inr (.inr (.inr (.inr (va_up f i.toNatClampNeg (some v))))))))) else none
    | _, _ => none
  | _ => none
def tm_aln (G : tm_G) (pc : Nat) (ls st : List Value) (h : tm_H) : Option tm_O := match st with
  | .ref a :: r => match h.2.2 a with
    | .inl (t, n, _) => if t < 6 then tm_nx (pc + 1) ls (.int (Int32.ofNat n) :: r) h else if t = 101 ∧ a = (tm_sc G).1 then tm_nx (pc + 1) ls (.int (Int32.ofNat (tm_sc G).2.1) :: r) h else none
    | _ => none
  | _ => none
def tm_nar (t : Nat) (z : Nat → (Nat → Int32) ⊕ (Nat → Int64) ⊕ (Nat → UInt32) ⊕ (Nat → UInt64) ⊕ (Nat → Option Nat)) (len pc : Nat) (ls st : List Value) (h : tm_H) : Option tm_O := match st with
  | .int n :: r => if n < 0 ∨ 60000000 < n.toNatClampNeg then none else tm_nx (pc + len) ls (.ref h.1 :: r) (tm_new h n.toNatClampNeg (.inl (t, n.toNatClampNeg, z 0)))
  | _ => none
def tm_pop (n : Nat) (st : List Value) : List Value × List Value := ((st.take n).reverse, st.drop n)
def tm_cv (G : tm_G) (a b : Nat) (st : List Value) (h : tm_H) : Option tm_O := match tm_pop b st with
  | (as, .ref o :: r) => if 1000 ≤ a then (if as.length = b ∧ tm_cs r ≤ 8 then some (.inr (.inr (a, .ref o :: as, r))) else none) else match h.2.2 o with
    | .inr (c, _) => if c = (tm_mt G a).2.2.2.2 ∧ as.length = b ∧ tm_cs r ≤ 8 then some (.inr (.inr (a, .ref o :: as, r))) else none
    | _ => none
  | _ => none
def tm_ci (a b : Nat) (st : List Value) : Option tm_O := match tm_pop b st with
  | (as, .ref o :: r) => if as.length = b ∧ tm_cs r ≤ 8 then some (.inr (.inr (a, .ref o :: as, r))) else none
  | _ => none
def tm_ca (a b : Nat) (st : List Value) : Option tm_O := match tm_pop b st with
  | (as, r) => if as.length = b ∧ tm_cs r ≤ 8 then some (.inr (.inr (a, as, r))) else none
def tm_oi (d pc : Nat) (ls st : List Value) (h : tm_H) : Option tm_O := match st with
  | .ref _ :: r => if 1 ≤ d ∧ tm_cs r ≤ 8 then tm_nx (pc + 3) ls r h else none
  | _ => none
/-- System.arraycopy of ints -/
def tm_cp (d pc : Nat) (ls st : List Value) (h : tm_H) : Option tm_O := match st with
  | .int n :: .int dp :: .ref b :: .int sp :: .ref a :: r => match h.2.2 a, h.2.2 b with
    | .inl (0, n0, .inl f), .inl (0, n1, .inl g) => if 1 ≤ d ∧ tm_cs r ≤ 8 ∧ ¬ sp < 0 ∧ ¬ dp < 0 ∧ ¬ n < 0 ∧ sp.toNatClampNeg + n.toNatClampNeg ≤ n0 ∧ dp.toNatClampNeg + n.toNatClampNeg ≤ n1 then tm_nx (pc + 3) ls r (tm_put h b (.inl (0, n1, .inl (va_cpy f g sp.toNatClampNeg dp.toNatClampNeg n.toNatClampNeg)))) else none
    | _, _ => none
  | _ => none
def tm_mx (d pc : Nat) (ls st : List Value) (h : tm_H) : Option tm_O := match st with
  | .int y :: .int x :: r => if 1 ≤ d ∧ tm_cs r ≤ 8 then tm_nx (pc + 3) ls (.int (if x < y then y else x) :: r) h else none
  | _ => none
def tm_mn (d pc : Nat) (ls st : List Value) (h : tm_H) : Option tm_O := match st with
  | .int y :: .int x :: r => if 1 ≤ d ∧ tm_cs r ≤ 8 then tm_nx (pc + 3) ls (.int (if y < x then y else x) :: r) h else none
  | _ => none
def tm_ab (d pc : Nat) (ls st : List Value) (h : tm_H) : Option tm_O := match st with
  | .int x :: r => if 1 ≤ d ∧ tm_cs r ≤ 8 then tm_nx (pc + 3) ls (.int (if 0 ≤ x then x else 0 - x) :: r) h else none
  | _ => none
def tm_tsw (pc : Nat) (dflt lo hi : Int) (offs : Array Int) (ls st : List Value) (h : tm_H) : Option tm_O := match st with
  | .int x :: r => if x.toInt < lo ∨ hi < x.toInt then tm_jmp pc dflt ls r h else match offs[(x.toInt - lo).toNat]? with
    | some off => tm_jmp pc off ls r h
    | none => none
  | _ => none
def tm_lsw (pc : Nat) (dflt : Int) (ps : Array (Int × Int)) (ls st : List Value) (h : tm_H) : Option tm_O := match st with
  | .int x :: r => if (ps.toList.zip (ps.toList.drop 1)).all (fun (a, next) => a.1 < next.1) = true then tm_jmp pc (Op.lookupswitch.offset ps.toList dflt x.toInt) ls r h else none
  | _ => none
def tm_nw (G : tm_G) (ci pc : Nat) (ls st : List Value) (h : tm_H) : Option tm_O := tm_nx (pc + 3) ls (.ref h.1 :: st) (tm_new h (tm_dv G ci).length (.inr (ci, tm_dv G ci)))
def tm_rt : Nat → FieldType
  | 0 => .int
  | 1 => .boolean
  | 2 => .char
  | 3 => .byte
  | _ => .short
def tm_stp (G : tm_G) (d : Nat) (e : tm_N) (pc : Nat) (ls st : List Value) (h : tm_H) : Option tm_O := match e with
  | (.iconst k, _, _) => tm_nx (pc + 1) ls (.int (Int32.ofInt k) :: st) h
  | (.bipush k, _, _) => tm_nx (pc + 2) ls (.int (Int8.ofInt k).toInt32 :: st) h
  | (.sipush k, _, _) => tm_nx (pc + 3) ls (.int (Int16.ofInt k).toInt32 :: st) h
  | (.lconst k, _, _) => tm_nx (pc + 1) ls (.long (Int64.ofNat k) :: st) h
  | (.ldc _, a, b) => tm_ldc G 2 a b pc ls st h
  | (.ldc_w _, a, b) => tm_ldc G 3 a b pc ls st h
  | (.ldc2_w _, a, _) => tm_nx (pc + 3) ls (.long (Int64.ofNat a) :: st) h
  | (.iload i, _, _) => tm_ldi 2 i pc ls st h
  | (.iload_n i, _, _) => tm_ldi 1 i pc ls st h
  | (.lload i, _, _) => tm_ldl 2 i pc ls st h
  | (.lload_n i, _, _) => tm_ldl 1 i pc ls st h
  | (.aload i, _, _) => tm_lda 2 i pc ls st h
  | (.aload_n i, _, _) => tm_lda 1 i pc ls st h
  | (.istore i, _, _) => tm_sti 2 i pc ls st h
  | (.istore_n i, _, _) => tm_sti 1 i pc ls st h
  | (.lstore i, _, _) => tm_stl 2 i pc ls st h
  | (.lstore_n i, _, _) => tm_stl 1 i pc ls st h
  | (.astore i, _, _) => tm_sta 2 i pc ls st h
  | (.astore_n i, _, _) => tm_sta 1 i pc ls st h
  | (.iinc i k, _, _) => tm_inc i k pc ls st h
  | (.iadd, _, _) => tm_i2 (fun x y => .int (x + y)) pc ls st h
  | (.isub, _, _) => tm_i2 (fun x y => .int (x - y)) pc ls st h
  | (.imul, _, _) => tm_i2 (fun x y => .int (x * y)) pc ls st h
  | (.iand, _, _) => tm_i2 (fun x y => .int (x &&& y)) pc ls st h
  | (.ior, _, _) => tm_i2 (fun x y => .int (x ||| y)) pc ls st h
  | (.ixor, _, _) => tm_i2 (fun x y => .int (x ^^^ y)) pc ls st h
  | (.ishl, _, _) => tm_i2 (fun x y => .int (x <<< (y &&& 31))) pc ls st h
  | (.ishr, _, _) => tm_i2 (fun x y => .int (x >>> (y &&& 31))) pc ls st h
  | (.iushr, _, _) => tm_i2 (fun x y => .int (x.toUInt32 >>> (y.toUInt32 &&& Int32.toUInt32 31)).toInt32) pc ls st h
  | (.idiv, _, _) => tm_d2 (fun x y => .int (x / y)) pc ls st h
  | (.irem, _, _) => tm_d2 (fun x y => .int (x - x / y * y)) pc ls st h
  | (.ineg, _, _) => tm_i1 (fun x => .int (-x)) pc ls st h
  | (.i2l, _, _) => tm_i1 (fun x => .long x.toInt64) pc ls st h
  | (.i2b, _, _) => tm_i1 (fun x => .int x.toInt8.toInt32) pc ls st h
  | (.i2s, _, _) => tm_i1 (fun x => .int x.toInt16.toInt32) pc ls st h
  | (.i2c, _, _) => tm_i1 (fun x => .int (x.toUInt32 % 65536).toInt32) pc ls st h
  | (.l2i, _, _) => tm_l1 (fun x => .int x.toInt32) pc ls st h
  | (.ladd, _, _) => tm_l2 (fun x y => .long (x + y)) pc ls st h
  | (.lmul, _, _) => tm_l2 (fun x y => .long (x * y)) pc ls st h
  | (.land, _, _) => tm_l2 (fun x y => .long (x &&& y)) pc ls st h
  | (.lor, _, _) => tm_l2 (fun x y => .long (x ||| y)) pc ls st h
  | (.lxor, _, _) => tm_l2 (fun x y => .long (x ^^^ y)) pc ls st h
  | (.lcmp, _, _) => tm_l2 (fun x y => .int (lg_cmp x y)) pc ls st h
  | (.ldiv, _, _) => tm_e2 (fun x y => .long (x / y)) pc ls st h
  | (.lrem, _, _) => tm_e2 (fun x y => .long (x - x / y * y)) pc ls st h
  | (.lshl, _, _) => tm_s2 (fun x y => .long (x <<< (y.toInt64 &&& 63))) pc ls st h
  | (.lushr, _, _) => tm_s2 (fun x y => .long (x.toUInt64 >>> (y.toInt64.toUInt64 &&& Int64.toUInt64 63)).toInt64) pc ls st h
  | (.dup, _, _) => match st with
    | v :: r => if v.category = 1 then tm_nx (pc + 1) ls (v :: v :: r) h else none
    | _ => none
  | (.pop, _, _) => match st with
    | v :: r => if v.category = 1 then tm_nx (pc + 1) ls r h else none
    | _ => none
  | (.dup2, _, _) => match st with
    | v :: w :: r => if v.category = 1 ∧ w.category = 1 then tm_nx (pc + 1) ls (v :: w :: v :: w :: r) h else none
    | _ => none
  | (.dup_x1, _, _) => match st with
    | v :: w :: r => if v.category = 1 ∧ w.category = 1 then tm_nx (pc + 1) ls (v :: w :: v :: r) h else none
    | _ => none
  | (.goto _, a, _) => tm_nx a ls st h
  | (.ifCond c _, a, _) => match st with
    | .int x :: r => tm_b1 c x (tm_nx a ls r h) (tm_nx (pc + 3) ls r h)
    | _ => none
  | (.if_icmp c _, a, _) => match st with
    | .int y :: .int x :: r => tm_b2 c x y (tm_nx a ls r h) (tm_nx (pc + 3) ls r h)
    | _ => none
  | (.tableswitch dflt lo hi offs, _, _) => tm_tsw pc dflt lo hi offs ls st h
  | (.lookupswitch dflt ps, _, _) => tm_lsw pc dflt ps ls st h
  | (.getfield _, a, b) => tm_get a b pc ls st h
  | (.putfield _, a, b) => tm_set G a b pc ls st h
  | (.iaload, _, _) => tm_ild G pc ls st h
  | (.baload, _, _) => tm_bld pc ls st h
  | (.caload, _, _) => tm_cld pc ls st h
  | (.laload, _, _) => tm_lld pc ls st h
  | (.aaload, _, _) => tm_ald pc ls st h
  | (.iastore, _, _) => tm_isr pc ls st h
  | (.bastore, _, _) => tm_bsr pc ls st h
  | (.castore, _, _) => tm_csr pc ls st h
  | (.lastore, _, _) => tm_lsr pc ls st h
  | (.aastore, a, _) => tm_asr a pc ls st h
  | (.arraylength, _, _) => tm_aln G pc ls st h
  | (.newarray .int, _, _) => tm_nar 0 (fun _ => .inl (fun _ => 0)) 2 pc ls st h
  | (.newarray .byte, _, _) => tm_nar 1 (fun _ => .inl (fun _ => 0)) 2 pc ls st h
  | (.newarray .char, _, _) => tm_nar 2 (fun _ => .inl (fun _ => 0)) 2 pc ls st h
  | (.newarray .long, _, _) => tm_nar 3 (fun _ => .inr (.inl (fun _ => 0))) 2 pc ls st h
  | (.newarray .boolean, _, _) => tm_nar 4 (fun _ => .inl (fun _ => 0)) 2 pc ls st h
  | (.anewarray _, _, _) => tm_nar 5 (fun _ => .inr (.inr (.inr (.inr (fun _ => none))))) 3 pc ls st h
  | (.new _, a, _) => tm_nw G a pc ls st h
  | (.invokevirtual _, a, b) => tm_cv G a b st h
  | (.invokespecial _, a, b) => if b = 1000 then tm_oi d pc ls st h else tm_ci a b st
  | (.invokestatic _, a, b) => if b = 1000 then tm_cp d pc ls st h else if b = 1001 then tm_mx d pc ls st h else if b = 1002 then tm_mn d pc ls st h else if b = 1003 then tm_ab d pc ls st h else tm_ca a b st
  | (.ireturn, a, _) => match st with
    | [.int v] => if narrow (tm_rt a) (.int v) = .int v then some (.inr (.inl (some (.int v)))) else none
    | _ => none
  | (.lreturn, _, _) => match st with
    | [.long v] => some (.inr (.inl (some (.long v))))
    | _ => none
  | (.areturn, _, _) => match st with
    | [.ref v] => some (.inr (.inl (some (.ref v))))
    | _ => none
  | (.return_, _, _) => match st with
    | [] => some (.inr (.inl none))
    | _ => none
  | _ => none
def tm_run (G : tm_G) : Nat → Nat → Nat → Nat → List Value → List Value → tm_H → Option (Option Value × tm_H)
  | 0, _, _, _, _, _, _ => none
  | n + 1, d, M, pc, ls, st, h => match tm_ft G M pc with
    | none => none
    | some e => match tm_stp G d e pc ls st h with
      | none => none
      | some (.inl (pc', ls', st', h')) => tm_run G n d M pc' ls' st' h'
      | some (.inr (.inl r)) => some (r, h)
      | some (.inr (.inr (mi, as, rest))) => match d with
        | 0 => none
        | d' + 1 => match (if mi < 1000 ∧ (tm_ex as).length ≤ (tm_mt G mi).2.2.1 then tm_run G n d' mi 0 (tm_ent as (tm_mt G mi).2.2.1) [] h else tm_xt G mi d' as h) with
          | none => none
          | some (r, h') => tm_run G n (d' + 1) M (pc + 3) ls (r.toList ++ rest) h'
end
section
/-! the world of the thin machine: its cells as a list, where the machine's heap holds them -/
def tm_ce (tc : Nat → ClassId) : tm_E → va_E
  | .inl (t, x) => .inl (tc t, x)
  | .inr o => .inr o
def tm_WL (lo : Nat) (tc : Nat → ClassId) (h : tm_H) : va_W := (List.range (h.1 - lo)).map (fun i => (lo + i, tm_ce tc (h.2.2 (lo + i))))
theorem tm_WL_i {lo : Nat} {tc : Nat → ClassId} {h : tm_H} {i : Nat} {q : Nat × va_E} (hq : (tm_WL lo tc h)[i]? = some q) : i < h.1 - lo ∧ q = (lo + i, tm_ce tc (h.2.2 (lo + i))) := by
  unfold tm_WL at hq
  rw [List.getElem?_map] at hq
  cases hr : (List.range (h.1 - lo))[i]? with
  | none => rw [hr] at hq; cases hq
  | some j =>
    rw [hr] at hq
    obtain ⟨h1, h2⟩ := List.getElem?_eq_some_iff.mp hr
    rw [List.getElem_range] at h2
    subst h2
    rw [List.length_range] at h1
    exact ⟨h1, (Option.some.inj hq).symm⟩
theorem tm_WL_at {lo : Nat} {tc : Nat → ClassId} {h : tm_H} {a : Nat} (h1 : lo ≤ a) (h2 : a < h.1) : (tm_WL lo tc h)[a - lo]? = some (a, tm_ce tc (h.2.2 a)) := by
  unfold tm_WL
  rw [List.getElem?_map, List.getElem?_range (by omega)]
  simp only [Option.map_some]
  rw [show lo + (a - lo) = a by omega]
theorem tm_WL_len {lo : Nat} {tc : Nat → ClassId} {h : tm_H} : (tm_WL lo tc h).length = h.1 - lo := by simp [tm_WL]
theorem tm_WL_put {lo : Nat} {tc : Nat → ClassId} {h : tm_H} {a : Nat} {e : tm_E} (h1 : lo ≤ a) (_h2 : a < h.1) : (tm_WL lo tc h).set (a - lo) (a, tm_ce tc e) = tm_WL lo tc (tm_put h a e) := by
  apply List.ext_getElem?
  intro i
  rw [List.getElem?_set]
  by_cases hi : a - lo = i
  · subst hi
    rw [if_pos rfl, tm_WL_len, if_pos (by omega)]
    have := tm_WL_at (tc := tc) (h := tm_put h a e) h1 _h2
    rw [this]
    simp [tm_put, tm_up]
  · rw [if_neg hi]
    unfold tm_WL
    rw [List.getElem?_map, List.getElem?_map]
    by_cases hl : i < h.1 - lo
    · rw [List.getElem?_range hl, show (List.range ((tm_put h a e).1 - lo))[i]? = some i from List.getElem?_range hl]
      simp only [Option.map_some, tm_put, tm_up]
      rw [if_neg (by omega)]
    · rw [List.getElem?_eq_none (by simp; omega), List.getElem?_eq_none (by simp [tm_put]; omega)]
      rfl
theorem tm_WL_new {lo : Nat} {tc : Nat → ClassId} {h : tm_H} {k : Nat} {e : tm_E} (h1 : lo ≤ h.1) : tm_WL lo tc h ++ [(h.1, tm_ce tc e)] = tm_WL lo tc (tm_new h k e) := by
  apply List.ext_getElem?
  intro i
  by_cases hl : i < h.1 - lo
  · rw [List.getElem?_append_left (by rw [tm_WL_len]; exact hl)]
    unfold tm_WL
    rw [List.getElem?_map, List.getElem?_map, List.getElem?_range hl, List.getElem?_range (show i < (tm_new h k e).1 - lo by show i < h.1 + 1 - lo; omega)]
    simp only [Option.map_some, tm_new, tm_up]
    rw [if_neg (by omega)]
  · rw [List.getElem?_append_right (by rw [tm_WL_len]; omega), tm_WL_len]
    by_cases he : i = h.1 - lo
    · subst he
      have := tm_WL_at (lo := lo) (tc := tc) (h := tm_new h k e) (a := h.1) h1 (by show h.1 < h.1 + 1; omega)
      rw [this]
      simp [tm_new, tm_up]
    · rw [List.getElem?_eq_none (by simp; omega), List.getElem?_eq_none (by rw [tm_WL_len]; show h.1 + 1 - lo ≤ i; omega)]
theorem tm_WL_D {lo : Nat} {tc : Nat → ClassId} {h : tm_H} : va_D (fun q => lo ≤ q) (tm_WL lo tc h) := by
  refine ⟨fun i j x y hx hy hxy => ?_, fun k q hq => ?_⟩
  · obtain ⟨-, rfl⟩ := tm_WL_i hx
    obtain ⟨-, rfl⟩ := tm_WL_i hy
    dsimp only at hxy
    omega
  · obtain ⟨-, rfl⟩ := tm_WL_i hq
    exact Nat.le_add_right lo k
/-- a cell that is none: nothing of the machine's heap is said of it -/
def tm_gh (e : tm_E) : Prop := ∃ (t : Nat) (x : vp_A), e = .inl (t, x) ∧ 50 ≤ t
/-- the machine's heap holds the thin machine's -/
def tm_HW (D : va_G) (cl : List vw_C) (tc : Nat → ClassId) (lo : Nat) (h : tm_H) (H : Heap) : Prop := lo ≤ h.1 ∧ h.1 ≤ H.size ∧ va_P D cl (tm_WL lo tc h) H ∧ ∀ a, (a < lo ∨ h.1 ≤ a) → tm_gh (h.2.2 a)
theorem tm_HW.lv {D : va_G} {cl : List vw_C} {tc : Nat → ClassId} {lo : Nat} {h : tm_H} {H : Heap} (w : tm_HW D cl tc lo h H) {a : Nat} (hn : ¬ tm_gh (h.2.2 a)) : lo ≤ a ∧ a < h.1 := by
  constructor
  · exact Nat.not_lt.mp fun q => hn (w.2.2.2 a (Or.inl q))
  · exact Nat.not_le.mp fun q => hn (w.2.2.2 a (Or.inr q))
theorem tm_HW.obj {D : va_G} {cl : List vw_C} {tc : Nat → ClassId} {lo : Nat} {h : tm_H} {H : Heap} (w : tm_HW D cl tc lo h H) {a c : Nat} {fs : List Value} (he : h.2.2 a = .inr (c, fs)) : lo ≤ a ∧ a < h.1 ∧ (tm_WL lo tc h)[a - lo]? = some (a, .inr (c, fs)) := by
  have h1 := w.lv (a := a) (by rw [he]; rintro ⟨t, x, e, -⟩; cases e)
  refine ⟨h1.1, h1.2, ?_⟩
  rw [tm_WL_at h1.1 h1.2, he]
  rfl
theorem tm_HW.arr {D : va_G} {cl : List vw_C} {tc : Nat → ClassId} {lo : Nat} {h : tm_H} {H : Heap} (w : tm_HW D cl tc lo h H) {a t : Nat} {x : vp_A} (he : h.2.2 a = .inl (t, x)) (ht : t < 50) : lo ≤ a ∧ a < h.1 ∧ (tm_WL lo tc h)[a - lo]? = some (a, .inl (tc t, x)) := by
  have h1 := w.lv (a := a) (by rw [he]; rintro ⟨t, x, e, h⟩; cases e; omega)
  refine ⟨h1.1, h1.2, ?_⟩
  rw [tm_WL_at h1.1 h1.2, he]
  rfl
theorem tm_HW.put {D : va_G} {cl : List vw_C} {tc : Nat → ClassId} {lo : Nat} {h : tm_H} {H H1 : Heap} (w : tm_HW D cl tc lo h H) {a : Nat} {e : tm_E} (h1 : lo ≤ a) (h2 : a < h.1) (hP : va_P D cl ((tm_WL lo tc h).set (a - lo) (a, tm_ce tc e)) H1) : tm_HW D cl tc lo (tm_put h a e) H1 := by
  rw [tm_WL_put h1 h2] at hP
  refine ⟨w.1, ?_, hP, fun b hb => ?_⟩
  · have := (hP _ _ (tm_WL_at (h := tm_put h a e) (a := h.1 - 1) (by omega) (by show h.1 - 1 < h.1; omega))).lt
    show h.1 ≤ H1.size
    dsimp only at this
    omega
  · show tm_gh (tm_up h.2.2 a e b)
    have hb' : b < lo ∨ h.1 ≤ b := hb
    rw [tm_up_n (by omega)]
    exact w.2.2.2 b hb
theorem tm_HW.new {D : va_G} {cl : List vw_C} {tc : Nat → ClassId} {lo : Nat} {h : tm_H} {H H1 : Heap} (w : tm_HW D cl tc lo h H) {k q : Nat} {e : tm_E} (hP : va_P D cl (tm_WL lo tc h ++ [(q, tm_ce tc e)]) H1) (hD : va_D (fun q => lo ≤ q) (tm_WL lo tc h ++ [(q, tm_ce tc e)])) (hz : H1.size ≤ h.1 + 1) : q = h.1 ∧ tm_HW D cl tc lo (tm_new h k e) H1 := by
  have hq : (tm_WL lo tc h ++ [(q, tm_ce tc e)])[h.1 - lo]? = some (q, tm_ce tc e) := by
    rw [List.getElem?_append_right (by rw [tm_WL_len]; omega), tm_WL_len]
    simp
  have h1 := (hP _ _ hq).lt
  have h2 := hD.2 _ _ hq
  dsimp only at h1 h2
  have hw := w.1
  have hqq : q = h.1 := by
    by_cases hl : q < h.1
    · have h3 : (tm_WL lo tc h ++ [(q, tm_ce tc e)])[q - lo]? = some (q, tm_ce tc (h.2.2 q)) := by
        rw [List.getElem?_append_left (by rw [tm_WL_len]; omega)]
        exact tm_WL_at h2 hl
      have := hD.1 _ _ _ _ h3 hq rfl
      omega
    · omega
  subst hqq
  rw [tm_WL_new (k := k) w.1] at hP
  refine ⟨rfl, Nat.le_succ_of_le w.1, ?_, hP, fun b hb => ?_⟩
  · show h.1 + 1 ≤ H1.size
    omega
  · show tm_gh (tm_up h.2.2 h.1 e b)
    have hb' : b < lo ∨ h.1 + 1 ≤ b := hb
    rw [tm_up_n (by omega)]
    exact w.2.2.2 b (by omega)
/-! locals -/
def tm_pv (i : Nat) (v : Value) : Option (Nat × Value) := match v with
  | .retAddr _ => none
  | v => some (i, v)
theorem tm_pv_i {i j : Nat} {v w : Value} : tm_pv i v = some (j, w) ↔ i = j ∧ v = w ∧ ∀ k, v ≠ .retAddr k := by
  cases v <;> simp [tm_pv]
def tm_pl (ls : List Value) : List (Nat × Value) := (List.range ls.length).filterMap (fun i => ls[i]?.bind (tm_pv i))
theorem tm_pl_in {ls : List Value} {i : Nat} {v : Value} : (i, v) ∈ tm_pl ls ↔ ls[i]? = some v ∧ ∀ k, v ≠ .retAddr k := by
  unfold tm_pl
  rw [List.mem_filterMap]
  constructor
  · rintro ⟨j, hj, h⟩
    cases hv : ls[j]? with
    | none => rw [hv] at h; cases h
    | some w =>
      rw [hv] at h
      obtain ⟨rfl, rfl, h3⟩ := tm_pv_i.mp h
      exact ⟨hv, h3⟩
  · rintro ⟨h1, h2⟩
    refine ⟨i, List.mem_range.mpr (List.getElem?_eq_some_iff.mp h1).1, ?_⟩
    rw [h1]
    exact tm_pv_i.mpr ⟨rfl, rfl, h2⟩
def tm_LR (lsC : Array Slot) (n : Nat) (ls : List Value) : Prop := ls.length = n ∧ lv_has lsC n (tm_pl ls)
theorem tm_LR.at {lsC : Array Slot} {n : Nat} {ls : List Value} (h : tm_LR lsC n ls) {i : Nat} {v : Value} (hi : ls[i]? = some v) (hv : ∀ k, v ≠ .retAddr k) : lsC[i]? = some (.val v) := h.2.2.2 (i, v) (tm_pl_in.mpr ⟨hi, hv⟩)
theorem tm_set1_i : ∀ {ls ls' : List Value} {i : Nat} {v : Value}, tm_set1 ls i v = some ls' → i < ls.length ∧ ls' = ls.set i v ∧ ∀ j w, j + 1 = i → ls[j]? = some w → w.category ≠ 2
  | [], _, _, _, h => by simp [tm_set1] at h
  | x :: t, ls', 0, v, h => by
    simp only [tm_set1, Option.some.injEq] at h
    subst h
    exact ⟨by simp, rfl, fun j w h _ => by omega⟩
  | x :: t, ls', i + 1, v, h => by
    simp only [tm_set1] at h
    split at h
    · cases h
    · rename_i hc
      cases hs : tm_set1 t i v with
      | none => rw [hs] at h; cases h
      | some t' =>
        rw [hs] at h
        cases h
        obtain ⟨h1, h2, h3⟩ := tm_set1_i hs
        refine ⟨by simp; omega, by rw [h2]; rfl, fun j w hj hw => ?_⟩
        cases j with
        | zero =>
          simp only [List.getElem?_cons_zero, Option.some.injEq] at hw
          subst hw
          exact fun e => hc ⟨by omega, e⟩
        | succ j => exact h3 j w (by omega) (by simpa using hw)
theorem tm_set2_i : ∀ {ls ls' : List Value} {i : Nat} {v : Value}, tm_set2 ls i v = some ls' → i + 1 < ls.length ∧ ls' = (ls.set i v).set (i + 1) tm_z ∧ ∀ j w, j + 1 = i → ls[j]? = some w → w.category ≠ 2
  | [], _, _, _, h => by simp [tm_set2] at h
  | [x], _, _, _, h => by simp [tm_set2] at h
  | x :: y :: t, ls', 0, v, h => by
    simp only [tm_set2, Option.some.injEq] at h
    subst h
    exact ⟨by simp, rfl, fun j w h _ => by omega⟩
  | x :: y :: t, ls', i + 1, v, h => by
    simp only [tm_set2] at h
    split at h
    · cases h
    · rename_i hc
      cases hs : tm_set2 (y :: t) i v with
      | none => rw [hs] at h; cases h
      | some t' =>
        rw [hs] at h
        cases h
        obtain ⟨h1, h2, h3⟩ := tm_set2_i hs
        refine ⟨by simp only [List.length_cons] at h1 ⊢; omega, by rw [h2]; rfl, fun j w hj hw => ?_⟩
        cases j with
        | zero =>
          simp only [List.getElem?_cons_zero, Option.some.injEq] at hw
          subst hw
          exact fun e => hc ⟨by omega, e⟩
        | succ j => exact h3 j w (by omega) (by simpa using hw)
theorem tm_LR.set1 {lsC : Array Slot} {n : Nat} {ls ls' : List Value} (h : tm_LR lsC n ls) {i : Nat} {v : Value} (hs : tm_set1 ls i v = some ls') {lsD : Array Slot} (hD : lv_has lsD n ((i, v) :: (tm_pl ls).filter (fun q => !(q.1 == i) && !(q.1 + 1 == i && q.2.category == 2)))) : tm_LR lsD n ls' := by
  obtain ⟨h1, rfl, h3⟩ := tm_set1_i hs
  refine ⟨by rw [List.length_set]; exact h.1, hD.1, hD.2.1, ?_⟩
  rintro ⟨j, w⟩ hq
  obtain ⟨g1, g2⟩ := tm_pl_in.mp hq
  apply hD.2.2
  rw [List.getElem?_set] at g1
  by_cases hj : i = j
  · subst hj
    rw [if_pos rfl, if_pos h1] at g1
    cases g1
    exact List.mem_cons_self
  · rw [if_neg hj] at g1
    refine List.mem_cons_of_mem _ (List.mem_filter.mpr ⟨tm_pl_in.mpr ⟨g1, g2⟩, ?_⟩)
    have h4 : (j == i) = false := by simpa using fun e : j = i => hj e.symm
    dsimp only
    rw [h4]
    by_cases hk : j + 1 = i
    · have := h3 j w hk g1
      simp [this]
    · simp [hk]
theorem tm_LR.set2 {lsC : Array Slot} {n : Nat} {ls ls' : List Value} (h : tm_LR lsC n ls) {i : Nat} {v : Value} (hs : tm_set2 ls i v = some ls') {lsD : Array Slot} (hD : lv_has lsD n ((i, v) :: (tm_pl ls).filter (fun q => !(q.1 == i) && (!(q.1 == i + 1) && !(q.1 + 1 == i && q.2.category == 2))))) : tm_LR lsD n ls' := by
  obtain ⟨h1, rfl, h3⟩ := tm_set2_i hs
  refine ⟨by rw [List.length_set, List.length_set]; exact h.1, hD.1, hD.2.1, ?_⟩
  rintro ⟨j, w⟩ hq
  obtain ⟨g1, g2⟩ := tm_pl_in.mp hq
  apply hD.2.2
  rw [List.getElem?_set] at g1
  by_cases hj1 : i + 1 = j
  · subst hj1
    rw [if_pos rfl, if_pos (by rw [List.length_set]; exact h1)] at g1
    cases g1
    exact absurd rfl (g2 0)
  rw [if_neg hj1, List.getElem?_set] at g1
  by_cases hj : i = j
  · subst hj
    rw [if_pos rfl, if_pos (by omega)] at g1
    cases g1
    exact List.mem_cons_self
  · rw [if_neg hj] at g1
    refine List.mem_cons_of_mem _ (List.mem_filter.mpr ⟨tm_pl_in.mpr ⟨g1, g2⟩, ?_⟩)
    have h4 : (j == i) = false := by simpa using fun e : j = i => hj e.symm
    have h5 : (j == i + 1) = false := by simpa using fun e : j = i + 1 => hj1 e.symm
    dsimp only
    rw [h4, h5]
    by_cases hk : j + 1 = i
    · have := h3 j w hk g1
      simp [this]
    · simp [hk]
theorem tm_ex_len (vs : List Value) : (lg_sl vs).length = (tm_ex vs).length := by
  induction vs with
  | nil => rfl
  | cons v t ih =>
    have e : lg_sl (v :: t) = (if v.category = 2 then [.val v, .second] else [.val v]) ++ lg_sl t := by simp only [lg_sl, List.flatMap_cons]
    have e2 : tm_ex (v :: t) = if v.category = 2 then v :: tm_z :: tm_ex t else v :: tm_ex t := rfl
    rw [e, e2, List.length_append, ih]
    by_cases h : v.category = 2
    · rw [if_pos h, if_pos h]
      simp only [List.length_cons, List.length_nil]
      omega
    · rw [if_neg h, if_neg h]
      simp only [List.length_cons, List.length_nil]
      omega
theorem tm_ex_in : ∀ (vs : List Value) (k i : Nat) (v : Value), (tm_ex vs)[i]? = some v → (∀ n, v ≠ .retAddr n) → (k + i, v) ∈ lv_args k vs
  | [], k, i, v, h, _ => by simp [tm_ex] at h
  | x :: t, k, i, v, h, hv => by
    unfold tm_ex at h
    unfold lv_args
    by_cases hc : x.category = 2
    · rw [if_pos hc] at h ⊢
      match i, h with
      | 0, h => simp only [List.getElem?_cons_zero, Option.some.injEq] at h; subst h; exact List.mem_cons_self
      | 1, h => simp only [List.getElem?_cons_succ, List.getElem?_cons_zero, Option.some.injEq] at h; exact absurd h.symm (hv 0)
      | i + 2, h =>
        have := tm_ex_in t (k + 2) i v (by simpa using h) hv
        rw [show k + (i + 2) = k + 2 + i by omega]
        exact List.mem_cons_of_mem _ this
    · rw [if_neg hc] at h ⊢
      match i, h with
      | 0, h => simp only [List.getElem?_cons_zero, Option.some.injEq] at h; subst h; exact List.mem_cons_self
      | i + 1, h =>
        have := tm_ex_in t (k + 1) i v (by simpa using h) hv
        rw [show k + (i + 1) = k + 1 + i by omega]
        exact List.mem_cons_of_mem _ this
theorem tm_LR.ent {vs : List Value} {n : Nat} (h : (tm_ex vs).length ≤ n) : tm_LR ((lg_sl vs ++ List.replicate (n - (lg_sl vs).length) Slot.unset).toArray) n (tm_ent vs n) := by
  have hl := lv_entry vs (n := n) (by rw [tm_ex_len]; exact h)
  refine ⟨by simp [tm_ent]; omega, hl.1, hl.2.1, ?_⟩
  rintro ⟨j, w⟩ hq
  obtain ⟨g1, g2⟩ := tm_pl_in.mp hq
  apply hl.2.2
  unfold tm_ent at g1
  by_cases hj : j < (tm_ex vs).length
  · rw [List.getElem?_append_left hj] at g1
    have := tm_ex_in vs 0 j w g1 g2
    rwa [Nat.zero_add] at this
  · rw [List.getElem?_append_right (by omega), List.getElem?_replicate] at g1
    split at g1
    · cases g1
      exact absurd rfl (g2 0)
    · cases g1
end
section
/-! a step of the thin machine is a step of the machine -/
def tm_tys (K : String) (tc : Nat → ClassId) : List (ClassId × FieldType) := [(tc 0, .int), (tc 1, .byte), (tc 2, .char), (tc 3, .long), (tc 4, .boolean), (tc 5, .object K)]
/-- what is known where method M runs: the machine, its code, the words, the classes -/
def tm_C (G : tm_G) (cl : List vw_C) (tbl : List Cond) (D : va_G) (tc : Nat → ClassId) (lo : Nat) (K : String) (EX : State → Prop) (M : Nat) (p : Program) (s : State) (m : MethodId) (args : Array Value) (meth : Method) (c : Code) : Prop :=
  p.tables.exec = Jvm.exec ∧ c.code = (tm_mt G M).2.1 ∧ c.maxLocals = (tm_mt G M).2.2.1 ∧ meth.sig.returnType = (tm_mt G M).2.2.2.1 ∧ s.vm.findClass (tm_mt G M).1.cls = some m.cls ∧ (∀ w ∈ tbl, w.before args s = true) ∧ va_K D cl (tm_tys K tc) s ∧ meth.locks = false ∧ meth.name = (tm_mt G M).1.name ∧ lo ≤ s.heap.size ∧ EX s
def tm_okf (cl : List vw_C) (tbl : List Cond) (own : String) (i a b : Nat) : Prop := ∃ (C : String) (T : u_T) (N : Nat), cl[a]? = some (C, T, N) ∧ b < N ∧ (∀ w ∈ u_ws C T N, w ∈ tbl) ∧ Cond.fieldLink own i (T b).1 (T b).2.1 (T b).2.2.1 ∈ tbl
def tm_okp (G : tm_G) (cl : List vw_C) (tbl : List Cond) (y : MethodName) (i a b : Nat) : Prop := ∃ (C : String) (T : u_T) (N : Nat), cl[a]? = some (C, T, N) ∧ b < N ∧ (∀ w ∈ u_ws C T N, w ∈ tbl) ∧ Cond.fieldLink y.cls i (T b).1 (T b).2.1 (T b).2.2.1 ∈ tbl ∧
  (∀ k, k < N → parseFieldDescriptor (T k).2.2.1 = some (tm_fy G a k)) ∧ (∀ a, a < N → ∀ b, b < N → a ≠ b → (T a).2.1 ≠ (T b).2.1) ∧ ((T b).2.2.2 = false ∨ ((T b).2.2.2 = true ∧ y.name = "<init>" ∧ (T b).1 = y.cls))
def tm_okn (G : tm_G) (cl : List vw_C) (tbl : List Cond) (own : String) (i a : Nat) : Prop := ∃ (C : String) (T : u_T) (N : Nat), cl[a]? = some (C, T, N) ∧ (∀ w ∈ u_ws C T N, w ∈ tbl) ∧ Cond.classLink own i C ∈ tbl ∧ Cond.instantiable C N ∈ tbl ∧ Cond.initialized C ∈ tbl ∧
  (∀ k, k < N → parseFieldDescriptor (T k).2.2.1 = some (tm_fy G a k)) ∧ (tm_dv G a).length = N ∧ ∀ j, j < N → defaultValue (tm_fy G a j) = vp_V (tm_dv G a) j
/-- what a call's method must be -/
def tm_okc (G : tm_G) (tbl : List Cond) (a b : Nat) : Prop := Cond.code (tm_mt G a).1 (tm_mt G a).2.1 (tm_mt G a).2.2.1 (tm_mt G a).2.2.2.1 ∈ tbl ∧ Cond.initialized (tm_mt G a).1.cls ∈ tbl ∧ (tm_mt G a).1.cls ≠ "java/lang/invoke/MethodHandle" ∧ (tm_mt G a).1.cls ≠ "java/lang/invoke/VarHandle" ∧ (parseMethodDescriptor (tm_mt G a).1.desc).map (fun d => d.parameters.length) = some b ∧ (tm_mt G a).2.2.1 ≤ 22
/-- the link of a call: among the words, or between nest mates -/
def tm_okl (tbl : List Cond) (EX : State → Prop) (own : String) (i : Nat) (y : MethodName) : Prop := Cond.methodLink own i y ∈ tbl ∨ ∃ host, ∀ s, EX s → va_Nw (.methodLinkNest own i y host) s
def tm_okm (tbl : List Cond) (own : String) (i : Nat) (y : MethodName) (cd : ByteArray) (n : Nat) : Prop := Cond.methodLink own i y ∈ tbl ∧ Cond.static y ∈ tbl ∧ Cond.initialized "java/lang/Math" ∈ tbl ∧ Cond.code y cd n (some .int) ∈ tbl
def tm_okr (G : tm_G) (cl : List vw_C) (tbl : List Cond) (K : String) (EX : State → Prop) (M pc : Nat) (e : tm_N) : Prop := match e with
  | (.ldc i, a, b) => (b = 0 → Jvm.Cond.constant (tm_mt G M).1.cls i (Int32.ofNat a) ∈ tbl) ∧ (b ≠ 0 → ∃ tx, ∀ s, EX s → vk_R (tm_mt G M).1.cls i tx (tm_sa G a) s)
  | (.ldc_w i, a, b) => (b = 0 → Jvm.Cond.constant (tm_mt G M).1.cls i (Int32.ofNat a) ∈ tbl) ∧ (b ≠ 0 → ∃ tx, ∀ s, EX s → vk_R (tm_mt G M).1.cls i tx (tm_sa G a) s)
  | (.ldc2_w i, a, _) => Jvm.Cond.constantLong (tm_mt G M).1.cls i (Int64.ofNat a) ∈ tbl
  | (.goto off, a, _) => (pc : Int) + off = (a : Int)
  | (.ifCond _ off, a, _) => (pc : Int) + off = (a : Int)
  | (.if_icmp _ off, a, _) => (pc : Int) + off = (a : Int)
  | (.getfield i, a, b) => tm_okf cl tbl (tm_mt G M).1.cls i a b
  | (.putfield i, a, b) => tm_okp G cl tbl (tm_mt G M).1 i a b
  | (.aastore, a, _) => ∃ r : vw_C, cl[a]? = some r ∧ r.1 = K
  | (.newarray t, _, _) => Cond.arrayClass (newarray.typeOf t) ∈ tbl
  | (.anewarray i, _, _) => Cond.classLink (tm_mt G M).1.cls i K ∈ tbl ∧ ∀ s, EX s → va_AO K s
  | (.new i, a, _) => tm_okn G cl tbl (tm_mt G M).1.cls i a
  | (.invokevirtual i, a, b) => if 1000 ≤ a then True else tm_okc G tbl a b ∧ Cond.methodLink (tm_mt G M).1.cls i (tm_mt G a).1 ∈ tbl ∧ Cond.instanceMethod (tm_mt G a).1 ∈ tbl ∧ Cond.selects (tm_mt G a).1.cls (tm_mt G a).1 (tm_mt G a).1 ∈ tbl ∧ ∃ (T : u_T) (N : Nat), cl[(tm_mt G a).2.2.2.2]? = some ((tm_mt G a).1.cls, T, N)
  | (.invokespecial i, a, b) => if b = 1000 then (Cond.methodLink (tm_mt G M).1.cls i Lib.objectInit ∈ tbl ∧ Cond.instanceMethod Lib.objectInit ∈ tbl ∧ Cond.code Lib.objectInit ⟨#[0xb1]⟩ 1 none ∈ tbl) else
      tm_okc G tbl a b ∧ tm_okl tbl EX (tm_mt G M).1.cls i (tm_mt G a).1 ∧ (tm_mt G a).1.name = "<init>" ∧ Cond.instanceMethod (tm_mt G a).1 ∈ tbl ∧ (tm_mt G a).2.2.2.1 = none
  | (.invokestatic i, a, b) => if b = 1000 then (Cond.methodLink (tm_mt G M).1.cls i arraycopyName ∈ tbl ∧ Cond.native arraycopyName ∈ tbl ∧ Cond.static arraycopyName ∈ tbl ∧ Cond.initialized "java/lang/System" ∈ tbl) else if b = 1001 then tm_okm tbl (tm_mt G M).1.cls i Lib.Math.max.name Lib.Math.max.code 2 else if b = 1002 then tm_okm tbl (tm_mt G M).1.cls i Lib.Math.min.name Lib.Math.min.code 2 else if b = 1003 then tm_okm tbl (tm_mt G M).1.cls i Lib.Math.abs.name Lib.Math.abs.code 1 else if 1000 ≤ a then True else
      tm_okc G tbl a b ∧ tm_okl tbl EX (tm_mt G M).1.cls i (tm_mt G a).1 ∧ Cond.static (tm_mt G a).1 ∈ tbl
  | (.ireturn, a, _) => (tm_mt G M).2.2.2.1 = some (tm_rt a)
  | (.lreturn, _, _) => (tm_mt G M).2.2.2.1 = some .long
  | (.areturn, _, _) => ∃ rt, (tm_mt G M).2.2.2.1 = some rt ∧ ((∃ n, rt = .object n) ∨ ∃ t, rt = .array t)
  | (.return_, _, _) => (tm_mt G M).2.2.2.1 = none
  | _ => True
def tm_ok (G : tm_G) (cl : List vw_C) (tbl : List Cond) (K : String) (EX : State → Prop) (M pc : Nat) (e : tm_N) : Prop :=
  (∃ n, decode (tm_mt G M).2.1 pc = .ok (e.1, n) ∧ (tm_len e.1 = 0 ∨ n = tm_len e.1)) ∧ tm_okr G cl tbl K EX M pc e
section TMS
variable {p : Program} {l : Launch} {e : Env} {R : Room} {s : State} {m : MethodId} {args : Array Value} {below : List Frame} {meth : Method} {c : Code} {H : Heap} {locs : List Loc} {cells slots : Nat} {Q : State → Prop}
variable {cc : ByteArray} {pc : Nat} {lsC : Array Slot}
variable {G : tm_G} {cl : List vw_C} {tbl : List Cond} {D : va_G} {tc : Nat → ClassId} {lo : Nat} {K : String} {EX : State → Prop} {M d pc' nL : Nat} {ls ls' st st' : List Value} {h h1 : tm_H}
/-- the heap is no larger than what was made -/
theorem tm_size {g : JFrame} (hz : h.1 = s.heap.size + cells) (hw : tm_HW D cl tc lo h H) (k : H.size = h.1 → W p l e R s m args below meth c H locs cells slots Q g) : W p l e R s m args below meth c H locs cells slots Q g := by
  intro T hT X
  have h1 : (T.setVm s.vm).heap.size ≤ s.heap.size + cells := X.same.2.2.1
  have h2 : T.heap.size ≤ s.heap.size + cells := h1
  refine k ?_ T hT X
  have := hw.2.1
  rw [hT] at h2
  omega
theorem tm_i1_r {f : Int32 → Value} (row : ∀ (x : Int32) (r : List Value), W p l e R s m args below meth c H locs cells slots Q (F0 m (pc + 1) lsC (f x :: r)) → W p l e R s m args below meth c H locs cells slots Q (F0 m pc lsC (.int x :: r))) (hs : tm_i1 f pc ls st h = some (.inl (pc', ls', st', h1))) (kk : h1 = h → ls' = ls → W p l e R s m args below meth c H locs cells slots Q (F0 m pc' lsC st')) : W p l e R s m args below meth c H locs cells slots Q (F0 m pc lsC st) := by
  unfold tm_i1 at hs
  split at hs
  · cases hs
    exact row _ _ (kk rfl rfl)
  · cases hs
theorem tm_i2_r {f : Int32 → Int32 → Value} (row : ∀ (x y : Int32) (r : List Value), W p l e R s m args below meth c H locs cells slots Q (F0 m (pc + 1) lsC (f x y :: r)) → W p l e R s m args below meth c H locs cells slots Q (F0 m pc lsC (.int y :: .int x :: r))) (hs : tm_i2 f pc ls st h = some (.inl (pc', ls', st', h1))) (kk : h1 = h → ls' = ls → W p l e R s m args below meth c H locs cells slots Q (F0 m pc' lsC st')) : W p l e R s m args below meth c H locs cells slots Q (F0 m pc lsC st) := by
  unfold tm_i2 at hs
  split at hs
  · cases hs
    exact row _ _ _ (kk rfl rfl)
  · cases hs
theorem tm_d2_r {f : Int32 → Int32 → Value} (row : ∀ (x y : Int32) (r : List Value), ¬ y = 0 → W p l e R s m args below meth c H locs cells slots Q (F0 m (pc + 1) lsC (f x y :: r)) → W p l e R s m args below meth c H locs cells slots Q (F0 m pc lsC (.int y :: .int x :: r))) (hs : tm_d2 f pc ls st h = some (.inl (pc', ls', st', h1))) (kk : h1 = h → ls' = ls → W p l e R s m args below meth c H locs cells slots Q (F0 m pc' lsC st')) : W p l e R s m args below meth c H locs cells slots Q (F0 m pc lsC st) := by
  unfold tm_d2 at hs
  split at hs
  · split at hs
    · cases hs
    · rename_i hy
      cases hs
      exact row _ _ _ hy (kk rfl rfl)
  · cases hs
theorem tm_l1_r {f : Int64 → Value} (row : ∀ (x : Int64) (r : List Value), W p l e R s m args below meth c H locs cells slots Q (F0 m (pc + 1) lsC (f x :: r)) → W p l e R s m args below meth c H locs cells slots Q (F0 m pc lsC (.long x :: r))) (hs : tm_l1 f pc ls st h = some (.inl (pc', ls', st', h1))) (kk : h1 = h → ls' = ls → W p l e R s m args below meth c H locs cells slots Q (F0 m pc' lsC st')) : W p l e R s m args below meth c H locs cells slots Q (F0 m pc lsC st) := by
  unfold tm_l1 at hs
  split at hs
  · cases hs
    exact row _ _ (kk rfl rfl)
  · cases hs
theorem tm_l2_r {f : Int64 → Int64 → Value} (row : ∀ (x y : Int64) (r : List Value), W p l e R s m args below meth c H locs cells slots Q (F0 m (pc + 1) lsC (f x y :: r)) → W p l e R s m args below meth c H locs cells slots Q (F0 m pc lsC (.long y :: .long x :: r))) (hs : tm_l2 f pc ls st h = some (.inl (pc', ls', st', h1))) (kk : h1 = h → ls' = ls → W p l e R s m args below meth c H locs cells slots Q (F0 m pc' lsC st')) : W p l e R s m args below meth c H locs cells slots Q (F0 m pc lsC st) := by
  unfold tm_l2 at hs
  split at hs
  · cases hs
    exact row _ _ _ (kk rfl rfl)
  · cases hs
theorem tm_e2_r {f : Int64 → Int64 → Value} (row : ∀ (x y : Int64) (r : List Value), ¬ y = 0 → W p l e R s m args below meth c H locs cells slots Q (F0 m (pc + 1) lsC (f x y :: r)) → W p l e R s m args below meth c H locs cells slots Q (F0 m pc lsC (.long y :: .long x :: r))) (hs : tm_e2 f pc ls st h = some (.inl (pc', ls', st', h1))) (kk : h1 = h → ls' = ls → W p l e R s m args below meth c H locs cells slots Q (F0 m pc' lsC st')) : W p l e R s m args below meth c H locs cells slots Q (F0 m pc lsC st) := by
  unfold tm_e2 at hs
  split at hs
  · split at hs
    · cases hs
    · rename_i hy
      cases hs
      exact row _ _ _ hy (kk rfl rfl)
  · cases hs
theorem tm_s2_r {f : Int64 → Int32 → Value} (row : ∀ (x : Int64) (y : Int32) (r : List Value), W p l e R s m args below meth c H locs cells slots Q (F0 m (pc + 1) lsC (f x y :: r)) → W p l e R s m args below meth c H locs cells slots Q (F0 m pc lsC (.int y :: .long x :: r))) (hs : tm_s2 f pc ls st h = some (.inl (pc', ls', st', h1))) (kk : h1 = h → ls' = ls → W p l e R s m args below meth c H locs cells slots Q (F0 m pc' lsC st')) : W p l e R s m args below meth c H locs cells slots Q (F0 m pc lsC st) := by
  unfold tm_s2 at hs
  split at hs
  · cases hs
    exact row _ _ _ (kk rfl rfl)
  · cases hs
theorem tm_ldi_r {n i : Nat} (hL : tm_LR lsC nL ls) (row : ∀ (x : Int32) (r : List Value), lsC[i]? = some (.val (.int x)) → W p l e R s m args below meth c H locs cells slots Q (F0 m (pc + n) lsC (.int x :: r)) → W p l e R s m args below meth c H locs cells slots Q (F0 m pc lsC r)) (hs : tm_ldi n i pc ls st h = some (.inl (pc', ls', st', h1))) (kk : h1 = h → ls' = ls → W p l e R s m args below meth c H locs cells slots Q (F0 m pc' lsC st')) : W p l e R s m args below meth c H locs cells slots Q (F0 m pc lsC st) := by
  unfold tm_ldi at hs
  split at hs
  · rename_i hi
    cases hs
    exact row _ _ (hL.at hi (fun k q => by cases q)) (kk rfl rfl)
  · cases hs
theorem tm_ldl_r {n i : Nat} (hL : tm_LR lsC nL ls) (row : ∀ (x : Int64) (r : List Value), lsC[i]? = some (.val (.long x)) → W p l e R s m args below meth c H locs cells slots Q (F0 m (pc + n) lsC (.long x :: r)) → W p l e R s m args below meth c H locs cells slots Q (F0 m pc lsC r)) (hs : tm_ldl n i pc ls st h = some (.inl (pc', ls', st', h1))) (kk : h1 = h → ls' = ls → W p l e R s m args below meth c H locs cells slots Q (F0 m pc' lsC st')) : W p l e R s m args below meth c H locs cells slots Q (F0 m pc lsC st) := by
  unfold tm_ldl at hs
  split at hs
  · rename_i hi
    cases hs
    exact row _ _ (hL.at hi (fun k q => by cases q)) (kk rfl rfl)
  · cases hs
theorem tm_lda_r {n i : Nat} (hL : tm_LR lsC nL ls) (row : ∀ (x : Nat) (r : List Value), lsC[i]? = some (.val (.ref x)) → W p l e R s m args below meth c H locs cells slots Q (F0 m (pc + n) lsC (.ref x :: r)) → W p l e R s m args below meth c H locs cells slots Q (F0 m pc lsC r)) (hs : tm_lda n i pc ls st h = some (.inl (pc', ls', st', h1))) (kk : h1 = h → ls' = ls → W p l e R s m args below meth c H locs cells slots Q (F0 m pc' lsC st')) : W p l e R s m args below meth c H locs cells slots Q (F0 m pc lsC st) := by
  unfold tm_lda at hs
  split at hs
  · rename_i hi
    cases hs
    exact row _ _ (hL.at hi (fun k q => by cases q)) (kk rfl rfl)
  · cases hs
theorem tm_sti_r {n i : Nat} (hL : tm_LR lsC nL ls) (row : ∀ (x : Int32) (r : List Value), i < nL → (∀ lsD : Array Slot, lv_has lsD nL ((i, Value.int x) :: (tm_pl ls).filter (fun q => !(q.1 == i) && !(q.1 + 1 == i && q.2.category == 2))) → W p l e R s m args below meth c H locs cells slots Q (F0 m (pc + n) lsD r)) → W p l e R s m args below meth c H locs cells slots Q (F0 m pc lsC (.int x :: r))) (hs : tm_sti n i pc ls st h = some (.inl (pc', ls', st', h1))) (kk : ∀ lsD, h1 = h → tm_LR lsD nL ls' → W p l e R s m args below meth c H locs cells slots Q (F0 m pc' lsD st')) : W p l e R s m args below meth c H locs cells slots Q (F0 m pc lsC st) := by
  unfold tm_sti at hs
  split at hs
  · split at hs
    · rename_i hi
      cases hs
      exact row _ _ (by rw [← hL.1]; exact (tm_set1_i hi).1) (fun lsD hD => kk lsD rfl (hL.set1 hi hD))
    · cases hs
  · cases hs
theorem tm_sta_r {n i : Nat} (hL : tm_LR lsC nL ls) (row : ∀ (x : Nat) (r : List Value), i < nL → (∀ lsD : Array Slot, lv_has lsD nL ((i, Value.ref x) :: (tm_pl ls).filter (fun q => !(q.1 == i) && !(q.1 + 1 == i && q.2.category == 2))) → W p l e R s m args below meth c H locs cells slots Q (F0 m (pc + n) lsD r)) → W p l e R s m args below meth c H locs cells slots Q (F0 m pc lsC (.ref x :: r))) (hs : tm_sta n i pc ls st h = some (.inl (pc', ls', st', h1))) (kk : ∀ lsD, h1 = h → tm_LR lsD nL ls' → W p l e R s m args below meth c H locs cells slots Q (F0 m pc' lsD st')) : W p l e R s m args below meth c H locs cells slots Q (F0 m pc lsC st) := by
  unfold tm_sta at hs
  split at hs
  · split at hs
    · rename_i hi
      cases hs
      exact row _ _ (by rw [← hL.1]; exact (tm_set1_i hi).1) (fun lsD hD => kk lsD rfl (hL.set1 hi hD))
    · cases hs
  · cases hs
theorem tm_stl_r {n i : Nat} (hL : tm_LR lsC nL ls) (row : ∀ (x : Int64) (r : List Value), i + 1 < nL → (∀ lsD : Array Slot, lv_has lsD nL ((i, Value.long x) :: (tm_pl ls).filter (fun q => !(q.1 == i) && (!(q.1 == i + 1) && !(q.1 + 1 == i && q.2.category == 2)))) → W p l e R s m args below meth c H locs cells slots Q (F0 m (pc + n) lsD r)) → W p l e R s m args below meth c H locs cells slots Q (F0 m pc lsC (.long x :: r))) (hs : tm_stl n i pc ls st h = some (.inl (pc', ls', st', h1))) (kk : ∀ lsD, h1 = h → tm_LR lsD nL ls' → W p l e R s m args below meth c H locs cells slots Q (F0 m pc' lsD st')) : W p l e R s m args below meth c H locs cells slots Q (F0 m pc lsC st) := by
  unfold tm_stl at hs
  split at hs
  · split at hs
    · rename_i hi
      cases hs
      exact row _ _ (by rw [← hL.1]; exact (tm_set2_i hi).1) (fun lsD hD => kk lsD rfl (hL.set2 hi hD))
    · cases hs
  · cases hs
theorem tm_inc_r {i : Nat} {k : Int} (hx : p.tables.exec = Jvm.exec) (hb : c.code = cc) (hd : decode cc pc = .ok (.iinc i k, 3)) (hL : tm_LR lsC nL ls) (hs : tm_inc i k pc ls st h = some (.inl (pc', ls', st', h1))) (kk : ∀ lsD, h1 = h → tm_LR lsD nL ls' → W p l e R s m args below meth c H locs cells slots Q (F0 m pc' lsD st')) : W p l e R s m args below meth c H locs cells slots Q (F0 m pc lsC st) := by
  unfold tm_inc at hs
  split at hs
  · rename_i x hi
    split at hs
    · rename_i hq
      cases hs
      obtain ⟨j, hj⟩ := List.getElem?_of_mem (tm_pl_in.mpr ⟨hi, fun k q => by cases q⟩)
      exact lv_iinc hx hb hd hL.2 hj rfl (by rw [← hL.1]; exact (tm_set1_i hq).1) rfl (fun lsD hD => kk lsD rfl (hL.set1 hq hD))
    · cases hs
  · cases hs
end TMS
end
section
section TMH
variable {p : Program} {l : Launch} {e : Env} {R : Room} {s : State} {m : MethodId} {args : Array Value} {below : List Frame} {meth : Method} {c : Code} {H : Heap} {locs : List Loc} {cells slots : Nat} {Q : State → Prop}
variable {cc : ByteArray} {pc : Nat} {lsC : Array Slot}
variable {G : tm_G} {cl : List vw_C} {tbl : List Cond} {D : va_G} {tc : Nat → ClassId} {lo : Nat} {K : String} {EX : State → Prop} {M d pc' nL : Nat} {ls ls' st st' : List Value} {h h1 : tm_H}
theorem tm_ldcwS (hexec : p.tables.exec = Jvm.exec) (hb : c.code = cc) {own tx : String} {index q : Nat} {rest : List Value} (hown : s.vm.findClass own = some m.cls) (hZ : vk_R own index tx q s) (hdg : decode cc pc = .ok (.ldc_w index, 3))
    (k : W p l e R s m args below meth c H locs cells slots Q (F0 m (pc + 3) lsC (.ref q :: rest))) : W p l e R s m args below meth c H locs cells slots Q (F0 m pc lsC rest) := by
  intro T hT X
  obtain ⟨t, a1, b1⟩ := k T hT X
  refine ⟨t, ?_, b1⟩
  obtain ⟨k, cf, i, a', hk, hcf, hcp, -, hr, hev'⟩ := Cond.stringRef_spec hown hZ.1
  cases hZ.2.symm.trans hev'
  obtain ⟨k', hk', he⟩ := X.warmed.alike.2.2 _ _ hk
  have hr' : k'.resolved[index]? = some (some (.string q)) := by
    rcases X.warmed.entry hk hk' index with h | ⟨h, -⟩
    · rw [h]; exact hr
    · rw [hr] at h; cases h
  jvm_step X.here [hexec, hb, hdg, ldc_w.wp_string (e := e) (s := T) (f := F0 m pc lsC rest) X.here.top hk' (by rw [he]; exact hcf) hcp hr']
  exact a1
theorem tm_get_r {own : String} {i a b : Nat} (hx : p.tables.exec = Jvm.exec) (hb : c.code = cc) (hts : ∀ w ∈ tbl, w.before args s = true) (hown : s.vm.findClass own = some m.cls) (hK : va_K D cl (tm_tys K tc) s) (hok : tm_okf cl tbl own i a b) (hd : decode cc pc = .ok (.getfield i, 3)) (hw : tm_HW D cl tc lo h H) (hs : tm_get a b pc ls st h = some (.inl (pc', ls', st', h1))) (kk : h1 = h → ls' = ls → W p l e R s m args below meth c H locs cells slots Q (F0 m pc' lsC st')) : W p l e R s m args below meth c H locs cells slots Q (F0 m pc lsC st) := by
  unfold tm_get at hs
  split at hs
  · split at hs
    · rename_i ho
      split at hs
      · rename_i hc
        split at hs
        · rename_i hv
          subst hc
          cases hs
          obtain ⟨C, T, N, g1, g2, g3, g4⟩ := hok
          obtain ⟨-, -, q3⟩ := hw.obj ho
          exact va_get hx hb hts g3 hown hK hw.2.2.1 _ q3 g1 b g2 (hts _ g4) (fun x hx => hx) hv hd (kk rfl rfl)
        · cases hs
      · cases hs
    · cases hs
  · cases hs
theorem tm_set_r {y : MethodName} {i a b : Nat} (hx : p.tables.exec = Jvm.exec) (hb : c.code = cc) (hts : ∀ w ∈ tbl, w.before args s = true) (hown : s.vm.findClass y.cls = some m.cls) (hnm : meth.name = y.name) (hK : va_K D cl (tm_tys K tc) s) (hok : tm_okp G cl tbl y i a b) (hd : decode cc pc = .ok (.putfield i, 3)) (hw : tm_HW D cl tc lo h H) (hS : va_S (fun q => lo ≤ q) s.heap H locs) (hs : tm_set G a b pc ls st h = some (.inl (pc', ls', st', h1))) (kk : ∀ (H1 : Heap) (locs1 : List Loc), tm_HW D cl tc lo h1 H1 → va_S (fun q => lo ≤ q) s.heap H1 locs1 → h1.1 = h.1 → h1.2.1 = h.2.1 → ls' = ls → W p l e R s m args below meth c H1 locs1 cells slots Q (F0 m pc' lsC st')) : W p l e R s m args below meth c H locs cells slots Q (F0 m pc lsC st) := by
  unfold tm_set at hs
  split at hs
  · split at hs
    · rename_i ho
      split at hs
      · rename_i hc
        obtain ⟨hc, hl, hn, hf⟩ := hc
        subst hc
        cases hs
        obtain ⟨C, T, N, g1, g2, g3, g4, g5, g6, g7⟩ := hok
        obtain ⟨q1, q2, q3⟩ := hw.obj ho
        rcases g7 with g7 | ⟨g7, g8, g9⟩
        · exact va_put hx hb hts g3 _ g5 g6 hown hK hw.2.2.1 tm_WL_D hS _ q3 g1 b g2 (hts _ g4) (fun x hx => hx) g7 (g5 b g2) hn hf hl hd (fun H1 locs1 hP _ hS1 => kk H1 locs1 (hw.put (e := .inr _) q1 q2 hP) hS1 rfl rfl rfl)
        · exact va_putF hx hb hts g3 _ g5 g6 hown hK hw.2.2.1 tm_WL_D hS _ q3 g1 b g2 (hts _ g4) (fun x hx => hx) g7 (hnm.trans g8) g9 (g5 b g2) hn hf hl hd (fun H1 locs1 hP _ hS1 => kk H1 locs1 (hw.put (e := .inr _) q1 q2 hP) hS1 rfl rfl rfl)
      · cases hs
    · cases hs
  · cases hs
/-- the script, as a method's start knows it -/
def tm_SC (G : tm_G) (lo : Nat) (s : State) : Prop := va_X (tm_sc G).1 (tm_sc G).2.1 (tm_sc G).2.2 s s.heap ∧ (tm_sc G).1 < s.heap.size ∧ (tm_sc G).1 < lo
theorem tm_ild_r (hx : p.tables.exec = Jvm.exec) (hb : c.code = cc) (hK : va_K D cl (tm_tys K tc) s) (hd : decode cc pc = .ok (.iaload, 1)) (hw : tm_HW D cl tc lo h H) (hS : va_S (fun q => lo ≤ q) s.heap H locs) (hsc : tm_SC G lo s) (hs : tm_ild G pc ls st h = some (.inl (pc', ls', st', h1))) (kk : h1 = h → ls' = ls → W p l e R s m args below meth c H locs cells slots Q (F0 m pc' lsC st')) : W p l e R s m args below meth c H locs cells slots Q (F0 m pc lsC st) := by
  unfold tm_ild at hs
  split at hs
  · split at hs
    · rename_i ho
      split at hs
      · cases hs
      · rename_i hi
        cases hs
        obtain ⟨-, -, q3⟩ := hw.arr ho (by decide)
        exact va_iald hx hb hK hw.2.2.1 _ 0 q3 rfl hi hd (kk rfl rfl)
    · split at hs
      · rename_i ha
        split at hs
        · cases hs
        · rename_i hi
          cases hs
          rw [ha]
          exact va_sld hx hb hsc.1 hsc.2.1 (Nat.not_le.mpr hsc.2.2) hS hi hd (kk rfl rfl)
      · cases hs
    · cases hs
  · cases hs
theorem tm_bld_r (hx : p.tables.exec = Jvm.exec) (hb : c.code = cc) (hK : va_K D cl (tm_tys K tc) s) (hd : decode cc pc = .ok (.baload, 1)) (hw : tm_HW D cl tc lo h H) (hs : tm_bld pc ls st h = some (.inl (pc', ls', st', h1))) (kk : h1 = h → ls' = ls → W p l e R s m args below meth c H locs cells slots Q (F0 m pc' lsC st')) : W p l e R s m args below meth c H locs cells slots Q (F0 m pc lsC st) := by
  unfold tm_bld at hs
  split at hs
  · split at hs
    · rename_i ho
      split at hs
      · cases hs
      · rename_i hi
        cases hs
        obtain ⟨-, -, q3⟩ := hw.arr ho (by decide)
        exact va_bald hx hb hK hw.2.2.1 _ 1 q3 rfl hi hd (kk rfl rfl)
    · rename_i ho
      split at hs
      · cases hs
      · rename_i hi
        cases hs
        obtain ⟨-, -, q3⟩ := hw.arr ho (by decide)
        exact va_zald hx hb hK hw.2.2.1 _ 4 q3 rfl hi hd (kk rfl rfl)
    · cases hs
  · cases hs
theorem tm_cld_r (hx : p.tables.exec = Jvm.exec) (hb : c.code = cc) (hK : va_K D cl (tm_tys K tc) s) (hd : decode cc pc = .ok (.caload, 1)) (hw : tm_HW D cl tc lo h H) (hs : tm_cld pc ls st h = some (.inl (pc', ls', st', h1))) (kk : h1 = h → ls' = ls → W p l e R s m args below meth c H locs cells slots Q (F0 m pc' lsC st')) : W p l e R s m args below meth c H locs cells slots Q (F0 m pc lsC st) := by
  unfold tm_cld at hs
  split at hs
  · split at hs
    · rename_i ho
      split at hs
      · cases hs
      · rename_i hi
        cases hs
        obtain ⟨-, -, q3⟩ := hw.arr ho (by decide)
        exact va_cald hx hb hK hw.2.2.1 _ 2 q3 rfl hi hd (kk rfl rfl)
    · cases hs
  · cases hs
theorem tm_lld_r (hx : p.tables.exec = Jvm.exec) (hb : c.code = cc) (hK : va_K D cl (tm_tys K tc) s) (hd : decode cc pc = .ok (.laload, 1)) (hw : tm_HW D cl tc lo h H) (hs : tm_lld pc ls st h = some (.inl (pc', ls', st', h1))) (kk : h1 = h → ls' = ls → W p l e R s m args below meth c H locs cells slots Q (F0 m pc' lsC st')) : W p l e R s m args below meth c H locs cells slots Q (F0 m pc lsC st) := by
  unfold tm_lld at hs
  split at hs
  · split at hs
    · rename_i ho
      split at hs
      · cases hs
      · rename_i hi
        cases hs
        obtain ⟨-, -, q3⟩ := hw.arr ho (by decide)
        exact va_lald hx hb hK hw.2.2.1 _ 3 q3 rfl hi hd (kk rfl rfl)
    · cases hs
  · cases hs
theorem tm_ald_r (hx : p.tables.exec = Jvm.exec) (hb : c.code = cc) (hK : va_K D cl (tm_tys K tc) s) (hd : decode cc pc = .ok (.aaload, 1)) (hw : tm_HW D cl tc lo h H) (hs : tm_ald pc ls st h = some (.inl (pc', ls', st', h1))) (kk : h1 = h → ls' = ls → W p l e R s m args below meth c H locs cells slots Q (F0 m pc' lsC st')) : W p l e R s m args below meth c H locs cells slots Q (F0 m pc lsC st) := by
  unfold tm_ald at hs
  split at hs
  · split at hs
    · rename_i ho
      split at hs
      · cases hs
      · rename_i hi
        cases hs
        obtain ⟨-, -, q3⟩ := hw.arr ho (by decide)
        exact va_aldq hx hb hK hw.2.2.1 _ 5 q3 (C := K) rfl hi hd (kk rfl rfl)
    · cases hs
  · cases hs
theorem tm_isr_r (hx : p.tables.exec = Jvm.exec) (hb : c.code = cc) (hK : va_K D cl (tm_tys K tc) s) (hd : decode cc pc = .ok (.iastore, 1)) (hw : tm_HW D cl tc lo h H) (hS : va_S (fun q => lo ≤ q) s.heap H locs) (hs : tm_isr pc ls st h = some (.inl (pc', ls', st', h1))) (kk : ∀ (H1 : Heap) (locs1 : List Loc), tm_HW D cl tc lo h1 H1 → va_S (fun q => lo ≤ q) s.heap H1 locs1 → h1.1 = h.1 → h1.2.1 = h.2.1 → ls' = ls → W p l e R s m args below meth c H1 locs1 cells slots Q (F0 m pc' lsC st')) : W p l e R s m args below meth c H locs cells slots Q (F0 m pc lsC st) := by
  unfold tm_isr at hs
  split at hs
  · split at hs
    · rename_i ho
      split at hs
      · cases hs
      · rename_i hi
        cases hs
        obtain ⟨q1, q2, q3⟩ := hw.arr ho (by decide)
        exact va_iast hx hb hK hw.2.2.1 tm_WL_D hS _ 0 q3 rfl hi hd (fun H1 locs1 hP _ hS1 => kk H1 locs1 (hw.put (e := .inl (0, _)) q1 q2 hP) hS1 rfl rfl rfl)
    · cases hs
  · cases hs
theorem tm_bsr_r (hx : p.tables.exec = Jvm.exec) (hb : c.code = cc) (hK : va_K D cl (tm_tys K tc) s) (hd : decode cc pc = .ok (.bastore, 1)) (hw : tm_HW D cl tc lo h H) (hS : va_S (fun q => lo ≤ q) s.heap H locs) (hs : tm_bsr pc ls st h = some (.inl (pc', ls', st', h1))) (kk : ∀ (H1 : Heap) (locs1 : List Loc), tm_HW D cl tc lo h1 H1 → va_S (fun q => lo ≤ q) s.heap H1 locs1 → h1.1 = h.1 → h1.2.1 = h.2.1 → ls' = ls → W p l e R s m args below meth c H1 locs1 cells slots Q (F0 m pc' lsC st')) : W p l e R s m args below meth c H locs cells slots Q (F0 m pc lsC st) := by
  unfold tm_bsr at hs
  split at hs
  · split at hs
    · rename_i ho
      split at hs
      · cases hs
      · rename_i hi
        cases hs
        obtain ⟨q1, q2, q3⟩ := hw.arr ho (by decide)
        exact va_bast hx hb hK hw.2.2.1 tm_WL_D hS _ 1 q3 rfl hi hd (fun H1 locs1 hP _ hS1 => kk H1 locs1 (hw.put (e := .inl (1, _)) q1 q2 hP) hS1 rfl rfl rfl)
    · rename_i ho
      split at hs
      · cases hs
      · rename_i hi
        cases hs
        obtain ⟨q1, q2, q3⟩ := hw.arr ho (by decide)
        exact va_zast hx hb hK hw.2.2.1 tm_WL_D hS _ 4 q3 rfl hi hd (fun H1 locs1 hP _ hS1 => kk H1 locs1 (hw.put (e := .inl (4, _)) q1 q2 hP) hS1 rfl rfl rfl)
    · cases hs
  · cases hs
theorem tm_csr_r (hx : p.tables.exec = Jvm.exec) (hb : c.code = cc) (hK : va_K D cl (tm_tys K tc) s) (hd : decode cc pc = .ok (.castore, 1)) (hw : tm_HW D cl tc lo h H) (hS : va_S (fun q => lo ≤ q) s.heap H locs) (hs : tm_csr pc ls st h = some (.inl (pc', ls', st', h1))) (kk : ∀ (H1 : Heap) (locs1 : List Loc), tm_HW D cl tc lo h1 H1 → va_S (fun q => lo ≤ q) s.heap H1 locs1 → h1.1 = h.1 → h1.2.1 = h.2.1 → ls' = ls → W p l e R s m args below meth c H1 locs1 cells slots Q (F0 m pc' lsC st')) : W p l e R s m args below meth c H locs cells slots Q (F0 m pc lsC st) := by
  unfold tm_csr at hs
  split at hs
  · split at hs
    · rename_i ho
      split at hs
      · cases hs
      · rename_i hi
        cases hs
        obtain ⟨q1, q2, q3⟩ := hw.arr ho (by decide)
        exact va_cast hx hb hK hw.2.2.1 tm_WL_D hS _ 2 q3 rfl hi hd (fun H1 locs1 hP _ hS1 => kk H1 locs1 (hw.put (e := .inl (2, _)) q1 q2 hP) hS1 rfl rfl rfl)
    · cases hs
  · cases hs
theorem tm_lsr_r (hx : p.tables.exec = Jvm.exec) (hb : c.code = cc) (hK : va_K D cl (tm_tys K tc) s) (hd : decode cc pc = .ok (.lastore, 1)) (hw : tm_HW D cl tc lo h H) (hS : va_S (fun q => lo ≤ q) s.heap H locs) (hs : tm_lsr pc ls st h = some (.inl (pc', ls', st', h1))) (kk : ∀ (H1 : Heap) (locs1 : List Loc), tm_HW D cl tc lo h1 H1 → va_S (fun q => lo ≤ q) s.heap H1 locs1 → h1.1 = h.1 → h1.2.1 = h.2.1 → ls' = ls → W p l e R s m args below meth c H1 locs1 cells slots Q (F0 m pc' lsC st')) : W p l e R s m args below meth c H locs cells slots Q (F0 m pc lsC st) := by
  unfold tm_lsr at hs
  split at hs
  · split at hs
    · rename_i ho
      split at hs
      · cases hs
      · rename_i hi
        cases hs
        obtain ⟨q1, q2, q3⟩ := hw.arr ho (by decide)
        exact va_last hx hb hK hw.2.2.1 tm_WL_D hS _ 3 q3 rfl hi hd (fun H1 locs1 hP _ hS1 => kk H1 locs1 (hw.put (e := .inl (3, _)) q1 q2 hP) hS1 rfl rfl rfl)
    · cases hs
  · cases hs
theorem tm_asr_r {ci : Nat} (hx : p.tables.exec = Jvm.exec) (hb : c.code = cc) (hK : va_K D cl (tm_tys K tc) s) (hok : ∃ r : vw_C, cl[ci]? = some r ∧ r.1 = K) (hd : decode cc pc = .ok (.aastore, 1)) (hw : tm_HW D cl tc lo h H) (hS : va_S (fun q => lo ≤ q) s.heap H locs) (hs : tm_asr ci pc ls st h = some (.inl (pc', ls', st', h1))) (kk : ∀ (H1 : Heap) (locs1 : List Loc), tm_HW D cl tc lo h1 H1 → va_S (fun q => lo ≤ q) s.heap H1 locs1 → h1.1 = h.1 → h1.2.1 = h.2.1 → ls' = ls → W p l e R s m args below meth c H1 locs1 cells slots Q (F0 m pc' lsC st')) : W p l e R s m args below meth c H locs cells slots Q (F0 m pc lsC st) := by
  unfold tm_asr at hs
  split at hs
  · split at hs
    · rename_i ho hv
      split at hs
      · rename_i hc
        split at hs
        · cases hs
        · rename_i hi
          subst hc
          cases hs
          obtain ⟨r, g1, g2⟩ := hok
          obtain ⟨q1, q2, q3⟩ := hw.arr ho (by decide)
          obtain ⟨-, -, q6⟩ := hw.obj hv
          exact va_astq hx hb hK hw.2.2.1 tm_WL_D hS _ 5 _ _ q3 (by rw [g2]; rfl) q6 g1 hi hd (fun H1 locs1 hP _ hS1 => kk H1 locs1 (hw.put (e := .inl (5, _)) q1 q2 hP) hS1 rfl rfl rfl)
      · cases hs
    · cases hs
  · cases hs
theorem tm_aln_r (hx : p.tables.exec = Jvm.exec) (hb : c.code = cc) (hK : va_K D cl (tm_tys K tc) s) (hd : decode cc pc = .ok (.arraylength, 1)) (hw : tm_HW D cl tc lo h H) (hS : va_S (fun q => lo ≤ q) s.heap H locs) (hsc : tm_SC G lo s) (hs : tm_aln G pc ls st h = some (.inl (pc', ls', st', h1))) (kk : h1 = h → ls' = ls → W p l e R s m args below meth c H locs cells slots Q (F0 m pc' lsC st')) : W p l e R s m args below meth c H locs cells slots Q (F0 m pc lsC st) := by
  unfold tm_aln at hs
  split at hs
  · split at hs
    · rename_i t n x ho
      split at hs
      · rename_i ht
        cases hs
        obtain ⟨-, -, q3⟩ := hw.arr ho (by omega)
        have hT : ∃ ty, (tm_tys K tc)[t]? = some (tc t, ty) := by
          rcases (show t = 0 ∨ t = 1 ∨ t = 2 ∨ t = 3 ∨ t = 4 ∨ t = 5 by omega) with rfl | rfl | rfl | rfl | rfl | rfl <;> exact ⟨_, rfl⟩
        obtain ⟨ty, hT⟩ := hT
        exact va_alen hx hb hK hw.2.2.1 _ t q3 hT rfl hd (kk rfl rfl)
      · split at hs
        · rename_i ha
          cases hs
          rw [ha.2]
          exact va_slen hx hb hsc.1 hsc.2.1 (Nat.not_le.mpr hsc.2.2) hS hd (kk rfl rfl)
        · cases hs
    · cases hs
  · cases hs
end TMH
end
section
section TMN
variable {p : Program} {l : Launch} {e : Env} {R : Room} {s : State} {m : MethodId} {args : Array Value} {below : List Frame} {meth : Method} {c : Code} {H : Heap} {locs : List Loc} {cells slots : Nat} {Q : State → Prop}
variable {cc : ByteArray} {pc : Nat} {lsC : Array Slot}
variable {G : tm_G} {cl : List vw_C} {tbl : List Cond} {D : va_G} {tc : Nat → ClassId} {lo : Nat} {K : String} {EX : State → Prop} {M d pc' nL : Nat} {ls ls' st st' : List Value} {h h1 : tm_H}
theorem tm_grow {g : JFrame} {k n q : Nat} {x : tm_E} {H1 : Heap} (hz : h.1 = s.heap.size + cells) (hw : tm_HW D cl tc lo h H) (hP : va_P D cl (tm_WL lo tc h ++ [(q, tm_ce tc x)]) H1) (hD : va_D (fun q => lo ≤ q) (tm_WL lo tc h ++ [(q, tm_ce tc x)])) (kk : q = h.1 → tm_HW D cl tc lo (tm_new h k x) H1 → W p l e R s m args below meth c H1 locs (cells + 1) n Q g) : W p l e R s m args below meth c H1 locs (cells + 1) n Q g := by
  intro T hT X
  have h1 : (T.setVm s.vm).heap.size ≤ s.heap.size + (cells + 1) := X.same.2.2.1
  have h2 : T.heap.size ≤ s.heap.size + (cells + 1) := h1
  rw [hT] at h2
  obtain ⟨g1, g2⟩ := hw.new (k := k) hP hD (by omega)
  exact kk g1 g2 T hT X
theorem tm_nw_r {own : String} {i a : Nat} (hx : p.tables.exec = Jvm.exec) (hb : c.code = cc) (hts : ∀ w ∈ tbl, w.before args s = true) (hown : s.vm.findClass own = some m.cls) (hK : va_K D cl (tm_tys K tc) s) (hlo : lo ≤ s.heap.size) (hok : tm_okn G cl tbl own i a) (hd : decode cc pc = .ok (.new i, 3)) (hw : tm_HW D cl tc lo h H) (hS : va_S (fun q => lo ≤ q) s.heap H locs) (hz : h.1 = s.heap.size + cells) (hs : tm_nw G a pc ls st h = some (.inl (pc', ls', st', h1))) (hR : cells + h1.1 ≤ R.cells + h.1 ∧ slots + h1.2.1 ≤ R.slots + h.2.1) (kk : ∀ H1 : Heap, tm_HW D cl tc lo h1 H1 → va_S (fun q => lo ≤ q) s.heap H1 locs → ls' = ls → h1.1 = h.1 + 1 → h1.2.1 = h.2.1 + (h1.2.1 - h.2.1) → W p l e R s m args below meth c H1 locs (cells + 1) (slots + (h1.2.1 - h.2.1)) Q (F0 m pc' lsC st')) : W p l e R s m args below meth c H locs cells slots Q (F0 m pc lsC st) := by
  unfold tm_nw at hs
  cases hs
  obtain ⟨C, T, N, g1, g3, g4, g5, g6, g7, g8, g9⟩ := hok
  have e1 : (tm_new h (tm_dv G a).length (.inr (a, tm_dv G a))).1 = h.1 + 1 := rfl
  have e2 : (tm_new h (tm_dv G a).length (.inr (a, tm_dv G a))).2.1 = h.2.1 + N := by rw [← g8]; rfl
  rw [e1, e2] at hR
  rw [e2] at kk
  have e3 : h.2.1 + N - h.2.1 = N := by omega
  rw [e3] at kk
  exact va_new hx hb hts g3 _ g7 hown (hts _ g4) (hts _ g5) (hts _ g6) hK hw.2.2.1 tm_WL_D hS (fun q hq => Nat.le_trans hlo hq) g1 g9 (by omega) (by omega) hd (fun q H1 hP hD hS1 => tm_grow (x := .inr _) hz hw hP hD (fun hq hw1 => by subst hq; exact kk H1 hw1 hS1 rfl e1 rfl))
/-- a new array: its class is the one that is known -/
theorem tm_sameA {s : State} {t : Nat} {cA : ClassId} {ty : FieldType} (hK : va_K D cl (tm_tys K tc) s) (ht : (tm_tys K tc)[t]? = some (tc t, ty)) (hK2 : va_K D cl (tm_tys K tc ++ [(cA, ty)]) s) : cA = tc t := by
  have h1 := (hK.2 t _ ht).2
  have h2 := (hK2.2 6 (cA, ty) rfl).2
  cases ty with
  | object C =>
    obtain ⟨_, _, -, -, -, q4⟩ := h1
    obtain ⟨_, _, -, -, -, q8⟩ := h2
    exact Option.some.inj (q8.symm.trans q4)
  | _ => exact Option.some.inj ((show s.vm.findClass _ = some cA from h2).symm.trans (show s.vm.findClass _ = some (tc t) from h1))
theorem tm_nar_r {t len : Nat} {z : Nat → (Nat → Int32) ⊕ (Nat → Int64) ⊕ (Nat → UInt32) ⊕ (Nat → UInt64) ⊕ (Nat → Option Nat)} {ty : FieldType} (ht : (tm_tys K tc)[t]? = some (tc t, ty)) (hK : va_K D cl (tm_tys K tc) s) (hw : tm_HW D cl tc lo h H) (hz : h.1 = s.heap.size + cells)
    (row : ∀ (n : Int32) (r : List Value), ¬ n < 0 → n.toNatClampNeg ≤ 60000000 → cells + 1 ≤ R.cells → slots + n.toNatClampNeg ≤ R.slots → (∀ (q : Nat) (cA : ClassId) (H1 : Heap), va_K D cl (tm_tys K tc ++ [(cA, ty)]) s → va_P D cl (tm_WL lo tc h ++ [(q, .inl (cA, n.toNatClampNeg, z 0))]) H1 → va_D (fun q => lo ≤ q) (tm_WL lo tc h ++ [(q, .inl (cA, n.toNatClampNeg, z 0))]) → va_S (fun q => lo ≤ q) s.heap H1 locs → W p l e R s m args below meth c H1 locs (cells + 1) (slots + n.toNatClampNeg) Q (F0 m (pc + len) lsC (.ref q :: r))) → W p l e R s m args below meth c H locs cells slots Q (F0 m pc lsC (.int n :: r)))
    (hs : tm_nar t z len pc ls st h = some (.inl (pc', ls', st', h1))) (hR : cells + h1.1 ≤ R.cells + h.1 ∧ slots + h1.2.1 ≤ R.slots + h.2.1) (kk : ∀ H1 : Heap, tm_HW D cl tc lo h1 H1 → va_S (fun q => lo ≤ q) s.heap H1 locs → ls' = ls → h1.1 = h.1 + 1 → h1.2.1 = h.2.1 + (h1.2.1 - h.2.1) → W p l e R s m args below meth c H1 locs (cells + 1) (slots + (h1.2.1 - h.2.1)) Q (F0 m pc' lsC st')) : W p l e R s m args below meth c H locs cells slots Q (F0 m pc lsC st) := by
  unfold tm_nar at hs
  split at hs
  · rename_i n r
    split at hs
    · cases hs
    · rename_i hn
      have hn1 : ¬ n < 0 := fun q => hn (Or.inl q)
      have hn2 : n.toNatClampNeg ≤ 60000000 := Nat.not_lt.mp fun q => hn (Or.inr q)
      cases hs
      have e1 : (tm_new h n.toNatClampNeg (.inl (t, n.toNatClampNeg, z 0))).1 = h.1 + 1 := rfl
      have e2 : (tm_new h n.toNatClampNeg (.inl (t, n.toNatClampNeg, z 0))).2.1 = h.2.1 + n.toNatClampNeg := rfl
      rw [e1, e2] at hR
      rw [e2] at kk
      have e3 : h.2.1 + n.toNatClampNeg - h.2.1 = n.toNatClampNeg := by omega
      rw [e3] at kk
      refine row n r hn1 hn2 (by omega) (by omega) (fun q cA H1 hK2 hP hD hS1 => ?_)
      have hc := tm_sameA hK ht hK2
      subst hc
      exact tm_grow (x := .inl (t, _)) hz hw hP hD (fun hq hw1 => by subst hq; exact kk H1 hw1 hS1 rfl e1 rfl)
  · cases hs
theorem tm_oi_r {own : String} {i : Nat} (hx : p.tables.exec = Jvm.exec) (hb : c.code = cc) (hts : ∀ w ∈ tbl, w.before args s = true) (hown : s.vm.findClass own = some m.cls) (hl : lsC.size = c.maxLocals) (hok : Cond.methodLink own i Lib.objectInit ∈ tbl ∧ Cond.instanceMethod Lib.objectInit ∈ tbl ∧ Cond.code Lib.objectInit ⟨#[0xb1]⟩ 1 none ∈ tbl) (hd : decode cc pc = .ok (.invokespecial i, 3)) (hR : d ≤ R.frames ∧ 41 * d ≤ R.locals) (hs : tm_oi d pc ls st h = some (.inl (pc', ls', st', h1))) (kk : h1 = h → ls' = ls → W p l e R s m args below meth c H locs cells slots Q (F0 m pc' lsC st')) : W p l e R s m args below meth c H locs cells slots Q (F0 m pc lsC st) := by
  unfold tm_oi at hs
  split at hs
  · rename_i o r
    split at hs
    · rename_i hc
      cases hs
      have hroom := lv_room (m := m) (pc := pc) (ls := lsC) (rest := .ref o :: st') (st := st') hc.2
      exact W.objInit hx hb hown (hts _ hok.1) (hts _ hok.2.1) (hts _ hok.2.2) (g := F0 m pc lsC (.ref o :: st')) rfl hl rfl hd (by omega) (by omega) (kk rfl rfl)
    · cases hs
  · cases hs
theorem tm_cp_r {own : String} {i : Nat} (hx : p.tables.exec = Jvm.exec) (hb : c.code = cc) (hts : ∀ w ∈ tbl, w.before args s = true) (hown : s.vm.findClass own = some m.cls) (hl : lsC.size = c.maxLocals) (hK : va_K D cl (tm_tys K tc) s) (hok : Cond.methodLink own i arraycopyName ∈ tbl ∧ Cond.native arraycopyName ∈ tbl ∧ Cond.static arraycopyName ∈ tbl ∧ Cond.initialized "java/lang/System" ∈ tbl) (hd : decode cc pc = .ok (.invokestatic i, 3)) (hw : tm_HW D cl tc lo h H) (hS : va_S (fun q => lo ≤ q) s.heap H locs) (hR : d ≤ R.frames ∧ 41 * d ≤ R.locals) (hs : tm_cp d pc ls st h = some (.inl (pc', ls', st', h1))) (kk : ∀ (H1 : Heap) (locs1 : List Loc), tm_HW D cl tc lo h1 H1 → va_S (fun q => lo ≤ q) s.heap H1 locs1 → h1.1 = h.1 → h1.2.1 = h.2.1 → ls' = ls → W p l e R s m args below meth c H1 locs1 cells slots Q (F0 m pc' lsC st')) : W p l e R s m args below meth c H locs cells slots Q (F0 m pc lsC st) := by
  unfold tm_cp at hs
  split at hs
  · split at hs
    · rename_i ha hb2
      split at hs
      · rename_i hc
        obtain ⟨c1, c2, c3, c4, c5, c6, c7⟩ := hc
        cases hs
        obtain ⟨-, -, q3⟩ := hw.arr ha (by decide)
        obtain ⟨q4, q5, q6⟩ := hw.arr hb2 (by decide)
        have hn : nativeFrameWords "java/lang/System" "arraycopy" 5 = 7 := by decide
        exact va_copyi hx hb hl.symm hown (hts _ hok.1) (hts _ hok.2.1) (hts _ hok.2.2.1) (hts _ hok.2.2.2) hK hw.2.2.1 tm_WL_D hS _ _ 0 0 q3 q6 rfl rfl rfl c3 c4 c5 c6 c7 (fun i _ => rfl) (by omega) (by rw [hn]; unfold tm_cs at c2; omega) hd (fun H1 locs1 hP _ hS1 => kk H1 locs1 (hw.put (e := .inl (0, _)) q4 q5 hP) hS1 rfl rfl rfl)
      · cases hs
    · cases hs
  · cases hs
theorem tm_jmp_r {off : Int} (hs : tm_jmp pc off ls st h = some (.inl (pc', ls', st', h1))) : (pc : Int) + off = (pc' : Int) ∧ ls' = ls ∧ st' = st ∧ h1 = h := by
  unfold tm_jmp at hs
  split at hs
  · rename_i hp
    cases hs
    exact ⟨by omega, rfl, rfl, rfl⟩
  · cases hs
theorem tm_tsw_r {dflt lo2 hi : Int} {offs : Array Int} {len : Nat} (hx : p.tables.exec = Jvm.exec) (hb : c.code = cc) (hd : decode cc pc = .ok (.tableswitch dflt lo2 hi offs, len)) (hs : tm_tsw pc dflt lo2 hi offs ls st h = some (.inl (pc', ls', st', h1))) (kk : h1 = h → ls' = ls → W p l e R s m args below meth c H locs cells slots Q (F0 m pc' lsC st')) : W p l e R s m args below meth c H locs cells slots Q (F0 m pc lsC st) := by
  unfold tm_tsw at hs
  split at hs
  · split at hs
    · rename_i hc
      obtain ⟨q1, q2, rfl, q4⟩ := tm_jmp_r hs
      exact lv_tableOut hx hb hd hc q1 (kk q4 q2)
    · rename_i hc
      split at hs
      · rename_i off ho
        obtain ⟨q1, q2, rfl, q4⟩ := tm_jmp_r hs
        exact lv_tableIn hx hb hd (fun q => hc (Or.inl q)) (fun q => hc (Or.inr q)) ho q1 (kk q4 q2)
      · cases hs
  · cases hs
theorem tm_lsw_r {dflt : Int} {ps : Array (Int × Int)} {len : Nat} (hx : p.tables.exec = Jvm.exec) (hb : c.code = cc) (hd : decode cc pc = .ok (.lookupswitch dflt ps, len)) (hs : tm_lsw pc dflt ps ls st h = some (.inl (pc', ls', st', h1))) (kk : h1 = h → ls' = ls → W p l e R s m args below meth c H locs cells slots Q (F0 m pc' lsC st')) : W p l e R s m args below meth c H locs cells slots Q (F0 m pc lsC st) := by
  unfold tm_lsw at hs
  split at hs
  · split at hs
    · rename_i hc
      obtain ⟨q1, q2, rfl, q4⟩ := tm_jmp_r hs
      exact lv_lookup hx hb hd hc rfl q1 (kk q4 q2)
    · cases hs
  · cases hs
theorem tm_b1_r {cd : Jvm.ClassFile.Cond} {off : Int} {x : Int32} {a : Nat} {r : List Value} (hx : p.tables.exec = Jvm.exec) (hb : c.code = cc) (hd : decode cc pc = .ok (.ifCond cd off, 3)) (ht : (pc : Int) + off = (a : Int)) (hs : tm_b1 cd x (tm_nx a ls r h) (tm_nx (pc + 3) ls r h) = some (.inl (pc', ls', st', h1))) (kk : h1 = h → ls' = ls → W p l e R s m args below meth c H locs cells slots Q (F0 m pc' lsC st')) : W p l e R s m args below meth c H locs cells slots Q (F0 m pc lsC (.int x :: r)) := by
  cases cd
  · refine lv_if_eq hx hb hd ht (fun hc => ?_) (fun hc => ?_) <;> simp only [tm_b1, hc, if_true, if_false, tm_nx] at hs <;> (cases hs; exact kk rfl rfl)
  · refine lv_if_ne hx hb hd ht (fun hc => ?_) (fun hc => ?_) <;> simp only [tm_b1, hc, if_true, if_false, tm_nx] at hs <;> (cases hs; exact kk rfl rfl)
  · refine lv_if_lt hx hb hd ht (fun hc => ?_) (fun hc => ?_) <;> simp only [tm_b1, hc, if_true, if_false, tm_nx] at hs <;> (cases hs; exact kk rfl rfl)
  · refine lv_if_ge hx hb hd ht (fun hc => ?_) (fun hc => ?_) <;> simp only [tm_b1, hc, if_true, if_false, tm_nx] at hs <;> (cases hs; exact kk rfl rfl)
  · refine lv_if_gt hx hb hd ht (fun hc => ?_) (fun hc => ?_) <;> simp only [tm_b1, hc, if_true, if_false, tm_nx] at hs <;> (cases hs; exact kk rfl rfl)
  · refine lv_if_le hx hb hd ht (fun hc => ?_) (fun hc => ?_) <;> simp only [tm_b1, hc, if_true, if_false, tm_nx] at hs <;> (cases hs; exact kk rfl rfl)
theorem tm_b2_r {cd : Jvm.ClassFile.Cond} {off : Int} {x y : Int32} {a : Nat} {r : List Value} (hx : p.tables.exec = Jvm.exec) (hb : c.code = cc) (hd : decode cc pc = .ok (.if_icmp cd off, 3)) (ht : (pc : Int) + off = (a : Int)) (hs : tm_b2 cd x y (tm_nx a ls r h) (tm_nx (pc + 3) ls r h) = some (.inl (pc', ls', st', h1))) (kk : h1 = h → ls' = ls → W p l e R s m args below meth c H locs cells slots Q (F0 m pc' lsC st')) : W p l e R s m args below meth c H locs cells slots Q (F0 m pc lsC (.int y :: .int x :: r)) := by
  cases cd
  · refine lv_icmp_eq hx hb hd ht (fun hc => ?_) (fun hc => ?_) <;> simp only [tm_b2, hc, if_true, if_false, tm_nx] at hs <;> (cases hs; exact kk rfl rfl)
  · refine lv_icmp_ne hx hb hd ht (fun hc => ?_) (fun hc => ?_) <;> simp only [tm_b2, hc, if_true, if_false, tm_nx] at hs <;> (cases hs; exact kk rfl rfl)
  · refine lv_icmp_lt hx hb hd ht (fun hc => ?_) (fun hc => ?_) <;> simp only [tm_b2, hc, if_true, if_false, tm_nx] at hs <;> (cases hs; exact kk rfl rfl)
  · refine lv_icmp_ge hx hb hd ht (fun hc => ?_) (fun hc => ?_) <;> simp only [tm_b2, hc, if_true, if_false, tm_nx] at hs <;> (cases hs; exact kk rfl rfl)
  · refine lv_icmp_gt hx hb hd ht (fun hc => ?_) (fun hc => ?_) <;> simp only [tm_b2, hc, if_true, if_false, tm_nx] at hs <;> (cases hs; exact kk rfl rfl)
  · refine lv_icmp_le hx hb hd ht (fun hc => ?_) (fun hc => ?_) <;> simp only [tm_b2, hc, if_true, if_false, tm_nx] at hs <;> (cases hs; exact kk rfl rfl)
end TMN
end
section
theorem tm_dec {cc : ByteArray} {pc k : Nat} {i : Instr} (h : ∃ n, decode cc pc = .ok (i, n) ∧ (tm_len i = 0 ∨ n = tm_len i)) (hl : tm_len i = k + 1) : decode cc pc = .ok (i, k + 1) := by
  obtain ⟨n, h1, h2 | h2⟩ := h
  · omega
  · rw [h1, h2, hl]
section TMX
variable {p : Program} {l : Launch} {e : Env} {R : Room} {s : State} {m : MethodId} {args : Array Value} {below : List Frame} {meth : Method} {c : Code} {H : Heap} {locs : List Loc} {cells slots : Nat} {Q : State → Prop}
variable {pc : Nat} {lsC : Array Slot}
variable {G : tm_G} {cl : List vw_C} {tbl : List Cond} {D : va_G} {tc : Nat → ClassId} {lo : Nat} {K : String} {EX : State → Prop} {M d pc' : Nat} {ls ls' st st' : List Value} {h h1 : tm_H}
set_option maxHeartbeats 4000000 in
set_option maxRecDepth 10000 in
theorem tm_next {en : tm_N} (hsc : ∀ s, EX s → tm_SC G lo s) (hok : tm_ok G cl tbl K EX M pc en) (C0 : tm_C G cl tbl D tc lo K EX M p s m args meth c) (hw : tm_HW D cl tc lo h H) (hS : va_S (fun q => lo ≤ q) s.heap H locs) (hL : tm_LR lsC (tm_mt G M).2.2.1 ls) (hz : h.1 = s.heap.size + cells) (hR : d ≤ R.frames ∧ 41 * d ≤ R.locals)
    (hs : tm_stp G d en pc ls st h = some (.inl (pc', ls', st', h1))) (hc : cells + h1.1 ≤ R.cells + h.1 ∧ slots + h1.2.1 ≤ R.slots + h.2.1)
    (kk : ∀ (H1 : Heap) (locs1 : List Loc) (lsD : Array Slot) (cells1 slots1 : Nat), cells1 + h.1 = cells + h1.1 → slots1 + h.2.1 = slots + h1.2.1 → tm_HW D cl tc lo h1 H1 → va_S (fun q => lo ≤ q) s.heap H1 locs1 → tm_LR lsD (tm_mt G M).2.2.1 ls' → W p l e R s m args below meth c H1 locs1 cells1 slots1 Q (F0 m pc' lsD st')) : W p l e R s m args below meth c H locs cells slots Q (F0 m pc lsC st) := by
  obtain ⟨hx, hb, hml, hr, hown, hts, hK, hlk, hnm, hlo, hEX⟩ := C0
  have k0 : h1 = h → ls' = ls → W p l e R s m args below meth c H locs cells slots Q (F0 m pc' lsC st') := fun e1 e2 => kk H locs lsC cells slots (by rw [e1]) (by rw [e1]) (by rw [e1]; exact hw) hS (by rw [e2]; exact hL)
  have kS : ∀ lsD, h1 = h → tm_LR lsD (tm_mt G M).2.2.1 ls' → W p l e R s m args below meth c H locs cells slots Q (F0 m pc' lsD st') := fun lsD e1 e2 => kk H locs lsD cells slots (by rw [e1]) (by rw [e1]) (by rw [e1]; exact hw) hS e2
  have kP : ∀ (H1 : Heap) (locs1 : List Loc), tm_HW D cl tc lo h1 H1 → va_S (fun q => lo ≤ q) s.heap H1 locs1 → h1.1 = h.1 → h1.2.1 = h.2.1 → ls' = ls → W p l e R s m args below meth c H1 locs1 cells slots Q (F0 m pc' lsC st') := fun H1 locs1 q1 q2 q3 q4 q5 => kk H1 locs1 lsC cells slots (by rw [q3]) (by rw [q4]) q1 q2 (by rw [q5]; exact hL)
  have kN : ∀ H1 : Heap, tm_HW D cl tc lo h1 H1 → va_S (fun q => lo ≤ q) s.heap H1 locs → ls' = ls → h1.1 = h.1 + 1 → h1.2.1 = h.2.1 + (h1.2.1 - h.2.1) → W p l e R s m args below meth c H1 locs (cells + 1) (slots + (h1.2.1 - h.2.1)) Q (F0 m pc' lsC st') := fun H1 q1 q2 q5 q3 q4 => kk H1 locs lsC _ _ (by omega) (by omega) q1 q2 (by rw [q5]; exact hL)
  have hA : ∀ q, s.heap.size ≤ q → lo ≤ q := fun q hq => Nat.le_trans hlo hq
  have hsz : lsC.size = c.maxLocals := by rw [hml]; exact hL.2.1
  obtain ⟨i, a, b⟩ := en
  obtain ⟨hd, hok⟩ := hok
  cases i with
  | iconst k => cases hs; exact lv_iconst hx hb (tm_dec hd rfl) rfl (k0 rfl rfl)
  | bipush k => cases hs; exact lv_bipush hx hb (tm_dec hd rfl) rfl (k0 rfl rfl)
  | sipush k => cases hs; exact lv_sipush hx hb (tm_dec hd rfl) rfl (k0 rfl rfl)
  | lconst k => cases hs; exact lv_lconst hx hb (tm_dec hd rfl) rfl (k0 rfl rfl)
  | ldc k =>
    have hs : tm_ldc G 2 a b pc ls st h = some (.inl (pc', ls', st', h1)) := hs
    unfold tm_ldc at hs
    split at hs
    · rename_i hb0
      cases hs
      exact lv_ldc hx hb hown (hts _ (hok.1 hb0)) (tm_dec hd rfl) (k0 rfl rfl)
    · rename_i hb0
      cases hs
      obtain ⟨tx, htx⟩ := hok.2 hb0
      exact va_ldcS hx hb hown (htx s hEX) (tm_dec hd rfl) (k0 rfl rfl)
  | ldc_w k =>
    have hs : tm_ldc G 3 a b pc ls st h = some (.inl (pc', ls', st', h1)) := hs
    unfold tm_ldc at hs
    split at hs
    · rename_i hb0
      cases hs
      exact lv_ldcw hx hb hown (hts _ (hok.1 hb0)) (tm_dec hd rfl) (k0 rfl rfl)
    · rename_i hb0
      cases hs
      obtain ⟨tx, htx⟩ := hok.2 hb0
      exact tm_ldcwS hx hb hown (htx s hEX) (tm_dec hd rfl) (k0 rfl rfl)
  | ldc2_w k => cases hs; exact lv_ldc2 hx hb hown (hts _ hok) (tm_dec hd rfl) (k0 rfl rfl)
  | iload k => exact tm_ldi_r hL (fun x r hl q => lv_iload hx hb (tm_dec hd rfl) hl q) hs k0
  | iload_n k => exact tm_ldi_r hL (fun x r hl q => lv_iload_n hx hb (tm_dec hd rfl) rfl hl q) hs k0
  | lload k => exact tm_ldl_r hL (fun x r hl q => lv_lload hx hb (tm_dec hd rfl) hl q) hs k0
  | lload_n k => exact tm_ldl_r hL (fun x r hl q => lv_lload_n hx hb (tm_dec hd rfl) rfl hl q) hs k0
  | aload k => exact tm_lda_r hL (fun x r hl q => lv_aload hx hb (tm_dec hd rfl) hl q) hs k0
  | aload_n k => exact tm_lda_r hL (fun x r hl q => lv_aload_n hx hb (tm_dec hd rfl) rfl hl q) hs k0
  | istore k => exact tm_sti_r hL (fun x r hl q => lv_istore hx hb (tm_dec hd rfl) hL.2 hl rfl q) hs kS
  | istore_n k => exact tm_sti_r hL (fun x r hl q => lv_istore_n hx hb (tm_dec hd rfl) rfl hL.2 hl rfl q) hs kS
  | lstore k => exact tm_stl_r hL (fun x r hl q => lv_lstore hx hb (tm_dec hd rfl) hL.2 hl rfl q) hs kS
  | lstore_n k => exact tm_stl_r hL (fun x r hl q => lv_lstore_n hx hb (tm_dec hd rfl) rfl hL.2 hl rfl q) hs kS
  | astore k => exact tm_sta_r hL (fun x r hl q => lv_astore hx hb (tm_dec hd rfl) hL.2 hl rfl q) hs kS
  | astore_n k => exact tm_sta_r hL (fun x r hl q => lv_astore_n hx hb (tm_dec hd rfl) rfl hL.2 hl rfl q) hs kS
  | iinc k n => exact tm_inc_r hx hb (tm_dec hd rfl) hL hs kS
  | iadd => exact tm_i2_r (fun x y r q => lv_iadd hx hb (tm_dec hd rfl) q) hs k0
  | isub => exact tm_i2_r (fun x y r q => lv_isub hx hb (tm_dec hd rfl) q) hs k0
  | imul => exact tm_i2_r (fun x y r q => lv_imul hx hb (tm_dec hd rfl) q) hs k0
  | iand => exact tm_i2_r (fun x y r q => lv_iand hx hb (tm_dec hd rfl) q) hs k0
  | ior => exact tm_i2_r (fun x y r q => lv_ior hx hb (tm_dec hd rfl) q) hs k0
  | ixor => exact tm_i2_r (fun x y r q => lv_ixor hx hb (tm_dec hd rfl) q) hs k0
  | ishl => exact tm_i2_r (fun x y r q => lv_ishl hx hb (tm_dec hd rfl) q) hs k0
  | ishr => exact tm_i2_r (fun x y r q => lv_ishr hx hb (tm_dec hd rfl) q) hs k0
  | iushr => exact tm_i2_r (fun x y r q => lv_iushr hx hb (tm_dec hd rfl) rfl q) hs k0
  | idiv => exact tm_d2_r (fun x y r hy q => lv_idiv hx hb (tm_dec hd rfl) hy q) hs k0
  | irem => exact tm_d2_r (fun x y r hy q => lv_irem hx hb (tm_dec hd rfl) hy q) hs k0
  | ineg => exact tm_i1_r (fun x r q => lv_ineg hx hb (tm_dec hd rfl) q) hs k0
  | i2l => exact tm_i1_r (fun x r q => lv_i2l hx hb (tm_dec hd rfl) rfl q) hs k0
  | i2b => exact tm_i1_r (fun x r q => lv_i2b hx hb (tm_dec hd rfl) rfl q) hs k0
  | i2s => exact tm_i1_r (fun x r q => lv_i2s hx hb (tm_dec hd rfl) rfl q) hs k0
  | i2c => exact tm_i1_r (fun x r q => lv_i2c hx hb (tm_dec hd rfl) rfl q) hs k0
  | l2i => exact tm_l1_r (fun x r q => lv_l2i hx hb (tm_dec hd rfl) rfl q) hs k0
  | ladd => exact tm_l2_r (fun x y r q => lv_ladd hx hb (tm_dec hd rfl) q) hs k0
  | lmul => exact tm_l2_r (fun x y r q => lv_lmul hx hb (tm_dec hd rfl) q) hs k0
  | land => exact tm_l2_r (fun x y r q => lv_land hx hb (tm_dec hd rfl) q) hs k0
  | lor => exact tm_l2_r (fun x y r q => lv_lor hx hb (tm_dec hd rfl) q) hs k0
  | lxor => exact tm_l2_r (fun x y r q => lv_lxor hx hb (tm_dec hd rfl) q) hs k0
  | lcmp => exact tm_l2_r (fun x y r q => W.lcmp hx hb (tm_dec hd rfl) q) hs k0
  | ldiv => exact tm_e2_r (fun x y r hy q => lv_ldiv hx hb (tm_dec hd rfl) hy q) hs k0
  | lrem => exact tm_e2_r (fun x y r hy q => lv_lrem hx hb (tm_dec hd rfl) hy q) hs k0
  | lshl => exact tm_s2_r (fun x y r q => lv_lshl hx hb (tm_dec hd rfl) rfl q) hs k0
  | lushr => exact tm_s2_r (fun x y r q => lv_lushr hx hb (tm_dec hd rfl) rfl q) hs k0
  | dup =>
    simp only [tm_stp] at hs
    split at hs
    · split at hs
      · rename_i hv
        cases hs
        exact lv_dup hx hb (tm_dec hd rfl) hv (k0 rfl rfl)
      · cases hs
    · cases hs
  | pop =>
    simp only [tm_stp] at hs
    split at hs
    · split at hs
      · rename_i hv
        cases hs
        exact lv_pop hx hb (tm_dec hd rfl) hv (k0 rfl rfl)
      · cases hs
    · cases hs
  | dup2 =>
    simp only [tm_stp] at hs
    split at hs
    · split at hs
      · rename_i hv
        cases hs
        exact lv_dup2_11 hx hb (tm_dec hd rfl) hv.1 hv.2 (k0 rfl rfl)
      · cases hs
    · cases hs
  | dup_x1 =>
    simp only [tm_stp] at hs
    split at hs
    · split at hs
      · rename_i hv
        cases hs
        exact lv_dup_x1 hx hb (tm_dec hd rfl) hv.1 hv.2 (k0 rfl rfl)
      · cases hs
    · cases hs
  | goto off => cases hs; exact lv_goto hx hb (tm_dec hd rfl) hok (k0 rfl rfl)
  | ifCond cd off =>
    simp only [tm_stp] at hs
    split at hs
    · exact tm_b1_r hx hb (tm_dec hd rfl) hok hs k0
    · cases hs
  | if_icmp cd off =>
    simp only [tm_stp] at hs
    split at hs
    · exact tm_b2_r hx hb (tm_dec hd rfl) hok hs k0
    · cases hs
  | tableswitch w1 w2 w3 w4 =>
    obtain ⟨n, hd, -⟩ := hd
    exact tm_tsw_r hx hb hd hs k0
  | lookupswitch w1 w2 =>
    obtain ⟨n, hd, -⟩ := hd
    exact tm_lsw_r hx hb hd hs k0
  | getfield k => exact tm_get_r hx hb hts hown hK hok (tm_dec hd rfl) hw hs k0
  | putfield k => exact tm_set_r hx hb hts hown hnm hK hok (tm_dec hd rfl) hw hS hs kP
  | iaload => exact tm_ild_r hx hb hK (tm_dec hd rfl) hw hS (hsc s hEX) hs k0
  | baload => exact tm_bld_r hx hb hK (tm_dec hd rfl) hw hs k0
  | caload => exact tm_cld_r hx hb hK (tm_dec hd rfl) hw hs k0
  | laload => exact tm_lld_r hx hb hK (tm_dec hd rfl) hw hs k0
  | aaload => exact tm_ald_r hx hb hK (tm_dec hd rfl) hw hs k0
  | iastore => exact tm_isr_r hx hb hK (tm_dec hd rfl) hw hS hs kP
  | bastore => exact tm_bsr_r hx hb hK (tm_dec hd rfl) hw hS hs kP
  | castore => exact tm_csr_r hx hb hK (tm_dec hd rfl) hw hS hs kP
  | lastore => exact tm_lsr_r hx hb hK (tm_dec hd rfl) hw hS hs kP
  | aastore => exact tm_asr_r hx hb hK hok (tm_dec hd rfl) hw hS hs kP
  | arraylength => exact tm_aln_r hx hb hK (tm_dec hd rfl) hw hS (hsc s hEX) hs k0
  | new k => exact tm_nw_r hx hb hts hown hK hlo hok (tm_dec hd rfl) hw hS hz hs hc kN
  | newarray t =>
    cases t with
    | int => exact tm_nar_r (t := 0) (z := fun _ => .inl (fun _ => 0)) rfl hK hw hz (fun n r n1 n2 n3 n4 q => va_newa (atype := .int) hx hb (hts _ hok) rfl hK hw.2.2.1 tm_WL_D hS hA (fun _ => rfl) n1 rfl (by show _ * 4 ≤ _; omega) n3 n4 (tm_dec hd rfl) q) hs hc kN
    | byte => exact tm_nar_r (t := 1) (z := fun _ => .inl (fun _ => 0)) rfl hK hw hz (fun n r n1 n2 n3 n4 q => va_newa (atype := .byte) hx hb (hts _ hok) rfl hK hw.2.2.1 tm_WL_D hS hA (fun _ => rfl) n1 rfl (by show _ * 1 ≤ _; omega) n3 n4 (tm_dec hd rfl) q) hs hc kN
    | char => exact tm_nar_r (t := 2) (z := fun _ => .inl (fun _ => 0)) rfl hK hw hz (fun n r n1 n2 n3 n4 q => va_newa (atype := .char) hx hb (hts _ hok) rfl hK hw.2.2.1 tm_WL_D hS hA (fun _ => rfl) n1 rfl (by show _ * 2 ≤ _; omega) n3 n4 (tm_dec hd rfl) q) hs hc kN
    | long => exact tm_nar_r (t := 3) (z := fun _ => .inr (.inl (fun _ => 0))) rfl hK hw hz (fun n r n1 n2 n3 n4 q => va_newa (atype := .long) hx hb (hts _ hok) rfl hK hw.2.2.1 tm_WL_D hS hA (fun _ => rfl) n1 rfl (by show _ * 8 ≤ _; omega) n3 n4 (tm_dec hd rfl) q) hs hc kN
    | boolean => exact tm_nar_r (t := 4) (z := fun _ => .inl (fun _ => 0)) rfl hK hw hz (fun n r n1 n2 n3 n4 q => va_newa (atype := .boolean) hx hb (hts _ hok) rfl hK hw.2.2.1 tm_WL_D hS hA (fun _ => rfl) n1 rfl (by show _ * 1 ≤ _; omega) n3 n4 (tm_dec hd rfl) q) hs hc kN
    | _ => cases hs
  | anewarray k => exact tm_nar_r (t := 5) (z := fun _ => .inr (.inr (.inr (.inr (fun _ => none))))) rfl hK hw hz (fun n r n1 n2 n3 n4 q => va_newq hx hb hown (hts _ hok.1) (hok.2 s hEX) hK hw.2.2.1 tm_WL_D hS hA n1 rfl (by omega) n3 n4 (tm_dec hd rfl) q) hs hc kN
  | invokespecial k =>
    simp only [tm_stp] at hs
    split at hs
    · rename_i hb0
      subst hb0
      exact tm_oi_r hx hb hts hown hsz hok (tm_dec hd rfl) hR hs k0
    · unfold tm_ci at hs
      split at hs
      · split at hs <;> cases hs
      · cases hs
  | invokestatic k =>
    simp only [tm_stp] at hs
    split at hs
    · rename_i hb0
      subst hb0
      exact tm_cp_r hx hb hts hown hsz hK hok (tm_dec hd rfl) hw hS hR hs kP
    · rename_i hb0
      split at hs
      · rename_i hb1
        subst hb1
        unfold tm_mx at hs
        split at hs
        · split at hs
          · rename_i hc1
            cases hs
            exact va_mmax hx hb hsz.symm hown (hts _ hok.1) (hts _ hok.2.1) (hts _ hok.2.2.1) (hts _ hok.2.2.2) (by omega) (by have := hc1.2; unfold tm_cs at this; omega) (by omega) (by omega) (tm_dec hd rfl) (k0 rfl rfl)
          · cases hs
        · cases hs
      · split at hs
        · rename_i hb1
          subst hb1
          unfold tm_mn at hs
          split at hs
          · split at hs
            · rename_i hc1
              cases hs
              exact va_mmin hx hb hsz.symm hown (hts _ hok.1) (hts _ hok.2.1) (hts _ hok.2.2.1) (hts _ hok.2.2.2) (by omega) (by have := hc1.2; unfold tm_cs at this; omega) (by omega) (by omega) (tm_dec hd rfl) (k0 rfl rfl)
            · cases hs
          · cases hs
        · split at hs
          · rename_i hb1
            subst hb1
            unfold tm_ab at hs
            split at hs
            · split at hs
              · rename_i hc1
                cases hs
                exact va_mabs hx hb hsz.symm hown (hts _ hok.1) (hts _ hok.2.1) (hts _ hok.2.2.1) (hts _ hok.2.2.2) (by omega) (by have := hc1.2; unfold tm_cs at this; omega) (by omega) (by omega) (tm_dec hd rfl) (k0 rfl rfl)
              · cases hs
            · cases hs
          · unfold tm_ca at hs
            split at hs
            split at hs <;> cases hs
  | invokevirtual k =>
    simp only [tm_stp, tm_cv] at hs
    split at hs
    · split at hs
      · split at hs <;> cases hs
      · split at hs
        · split at hs <;> cases hs
        · cases hs
    · cases hs
  | ireturn =>
    simp only [tm_stp] at hs
    split at hs
    · split at hs <;> cases hs
    · cases hs
  | lreturn => simp only [tm_stp] at hs; split at hs <;> cases hs
  | areturn => simp only [tm_stp] at hs; split at hs <;> cases hs
  | return_ => simp only [tm_stp] at hs; split at hs <;> cases hs
  | _ => cases hs
end TMX
end
section
def tm_rm (d mc ms : Nat) : Room := { frames := d, cells := mc, slots := ms, locals := 41 * d }
def tm_Pc (cl : List vw_C) (D : va_G) (tc : Nat → ClassId) (lo : Nat) (K : String) (EX : State → Prop) (as : List Value) (h : tm_H) : Array Value → State → Prop := va_Pc as (fun U => U.heap.size = h.1 ∧ tm_HW D cl tc lo h U.heap ∧ va_K D cl (tm_tys K tc) U ∧ EX U)
def tm_Qc (cl : List vw_C) (D : va_G) (tc : Nat → ClassId) (lo : Nat) (r : Option Value) (h : tm_H) : Array Value → State → Outcome → State → Prop := fun _ st oc t => oc = .returned r ∧ t.heap.size = h.1 ∧ tm_HW D cl tc lo h t.heap ∧ va_F (fun q => lo ≤ q) st t
def tm_ws (G : tm_G) (tbl : List Cond) (mi : Nat) : List Cond := Cond.code (tm_mt G mi).1 (tm_mt G mi).2.1 (tm_mt G mi).2.2.1 (tm_mt G mi).2.2.2.1 :: tbl
/-- method mi, from the heap h with these arguments, returns r and leaves h' -/
def tm_Met (G : tm_G) (cl : List vw_C) (tbl : List Cond) (D : va_G) (tc : Nat → ClassId) (lo : Nat) (K : String) (EX : State → Prop) (l : Launch) (d mi : Nat) (as : List Value) (h : tm_H) (r : Option Value) (h' : tm_H) : Prop :=
  Met l (tm_mt G mi).1 (tm_ws G tbl mi) (tm_rm d (h'.1 - h.1) (h'.2.1 - h.2.1)) (tm_Pc cl D tc lo K EX as h) (tm_Qc cl D tc lo r h') (h'.1 - h.1) (h'.2.1 - h.2.1) (fun q => lo ≤ q)
/-- what stands below lo and in the tables stays as it is known -/
def tm_cls (lo : Nat) (EX : State → Prop) : Prop := ∀ U U' : State, (∀ q, q < lo → U'.heap[q]? = U.heap[q]?) → (U'.vm = U.vm ∨ U.WarmedH U'.vm) → EX U → EX U'
def tm_good (tbl : List Cond) : Prop := ∀ w ∈ tbl, (w.onTables && w.keeps) = true ∨ ∃ ty, w = .arrayClass ty
theorem tm_GI {tbl ws : List Cond} (hg : tm_good tbl) (h : ∀ w ∈ ws, w ∈ tbl) : GoodIn tbl ws := fun w hw => ⟨h w hw, hg w (h w hw)⟩
/-- the instruction by which a method of that type returns r -/
def tm_ret (ty : Option FieldType) (i : Instr) (r : Option Value) : Prop := match r with
  | some (.int v) => i = .ireturn ∧ ∃ rt, ty = some rt ∧ narrow rt (.int v) = .int v
  | some (.long _) => i = .lreturn ∧ ty = some .long
  | some (.ref _) => i = .areturn ∧ ∃ rt, ty = some rt ∧ ((∃ n, rt = .object n) ∨ ∃ t, rt = .array t)
  | none => i = .return_ ∧ ty = none
  | _ => False
set_option maxHeartbeats 4000000 in
set_option maxRecDepth 10000 in
theorem tm_mono1 {G : tm_G} {d pc pc' : Nat} {en : tm_N} {ls ls' st st' : List Value} {h h1 : tm_H} (hs : tm_stp G d en pc ls st h = some (.inl (pc', ls', st', h1))) : h.1 ≤ h1.1 ∧ h.2.1 ≤ h1.2.1 := by
  obtain ⟨i, a, b⟩ := en
  have hN : ∀ {k : Nat} {x : tm_E}, h.1 ≤ (tm_new h k x).1 ∧ h.2.1 ≤ (tm_new h k x).2.1 := fun {k x} => ⟨Nat.le_succ _, Nat.le_add_right _ _⟩
  cases i with
  | newarray t => cases t <;> first | (cases hs; done) | (simp only [tm_stp, tm_nar] at hs; repeat' (split at hs)) <;> first | (cases hs; done) | (cases hs; exact hN)
  | tableswitch w1 w2 w3 w4 =>
    simp only [tm_stp, tm_tsw, tm_jmp] at hs
    repeat' (split at hs)
    all_goals first | (cases hs; done) | (cases hs; exact ⟨Nat.le_refl _, Nat.le_refl _⟩)
  | lookupswitch w1 w2 =>
    simp only [tm_stp, tm_lsw, tm_jmp] at hs
    repeat' (split at hs)
    all_goals first | (cases hs; done) | (cases hs; exact ⟨Nat.le_refl _, Nat.le_refl _⟩)
  | ifCond cd off =>
    simp only [tm_stp] at hs
    cases cd <;> simp only [tm_b1] at hs <;> repeat' (split at hs)
    all_goals first | (cases hs; done) | (cases hs; exact ⟨Nat.le_refl _, Nat.le_refl _⟩)
  | if_icmp cd off =>
    simp only [tm_stp] at hs
    cases cd <;> simp only [tm_b2] at hs <;> repeat' (split at hs)
    all_goals first | (cases hs; done) | (cases hs; exact ⟨Nat.le_refl _, Nat.le_refl _⟩)
  | _ =>
    first
    | (cases hs; done)
    | (simp only [tm_stp, tm_i1, tm_i2, tm_d2, tm_l1, tm_l2, tm_e2, tm_s2, tm_ldi, tm_ldl, tm_lda, tm_sti, tm_sta, tm_stl, tm_inc, tm_ldc, tm_get, tm_set, tm_ild, tm_bld, tm_cld, tm_lld, tm_ald, tm_isr, tm_bsr, tm_csr, tm_lsr, tm_asr, tm_aln, tm_nar, tm_nw, tm_oi, tm_cp, tm_mx, tm_mn, tm_ab, tm_ci, tm_ca, tm_cv, tm_nx] at hs
       repeat' (split at hs)
       all_goals first | (cases hs; done) | (cases hs; exact ⟨Nat.le_refl _, Nat.le_refl _⟩) | (cases hs; exact hN))
set_option maxHeartbeats 4000000 in
set_option maxRecDepth 10000 in
theorem tm_only {G : tm_G} {d pc : Nat} {i : Instr} {a b : Nat} {ls st : List Value} {h : tm_H} {x : Nat × List Value × List Value} (hs : tm_stp G d (i, a, b) pc ls st h = some (.inr (.inr x))) : (∃ k, i = .invokevirtual k) ∨ (∃ k, i = .invokespecial k) ∨ ∃ k, i = .invokestatic k := by
  cases i with
  | newarray t => cases t <;> first | (cases hs; done) | (simp only [tm_stp, tm_nar, tm_nx] at hs; repeat' (split at hs)) <;> (cases hs; done)
  | tableswitch w1 w2 w3 w4 =>
    simp only [tm_stp, tm_tsw, tm_jmp, tm_nx] at hs
    repeat' (split at hs)
    all_goals (cases hs; done)
  | lookupswitch w1 w2 =>
    simp only [tm_stp, tm_lsw, tm_jmp, tm_nx] at hs
    repeat' (split at hs)
    all_goals (cases hs; done)
  | ifCond cd off =>
    simp only [tm_stp] at hs
    cases cd <;> simp only [tm_b1, tm_nx] at hs <;> repeat' (split at hs)
    all_goals (cases hs; done)
  | if_icmp cd off =>
    simp only [tm_stp] at hs
    cases cd <;> simp only [tm_b2, tm_nx] at hs <;> repeat' (split at hs)
    all_goals (cases hs; done)
  | invokevirtual k => exact Or.inl ⟨k, rfl⟩
  | invokespecial k => exact Or.inr (Or.inl ⟨k, rfl⟩)
  | invokestatic k => exact Or.inr (Or.inr ⟨k, rfl⟩)
  | _ =>
    first
    | (cases hs; done)
    | (simp only [tm_stp, tm_i1, tm_i2, tm_d2, tm_l1, tm_l2, tm_e2, tm_s2, tm_ldi, tm_ldl, tm_lda, tm_sti, tm_sta, tm_stl, tm_inc, tm_ldc, tm_get, tm_set, tm_ild, tm_bld, tm_cld, tm_lld, tm_ald, tm_isr, tm_bsr, tm_csr, tm_lsr, tm_asr, tm_aln, tm_nar, tm_nw, tm_oi, tm_cp, tm_mx, tm_mn, tm_ab, tm_ci, tm_ca, tm_cv, tm_nx] at hs
       repeat' (split at hs)
       all_goals (cases hs; done))
set_option maxHeartbeats 4000000 in
set_option maxRecDepth 10000 in
theorem tm_rets {G : tm_G} {d pc : Nat} {i : Instr} {a b : Nat} {ls st : List Value} {h : tm_H} {r : Option Value} {cl : List vw_C} {tbl : List Cond} {K : String} {EX : State → Prop} {M : Nat} (hok : tm_ok G cl tbl K EX M pc (i, a, b)) (hs : tm_stp G d (i, a, b) pc ls st h = some (.inr (.inl r))) : tm_ret (tm_mt G M).2.2.2.1 i r ∧ st = r.toList ∧ tm_len i = 1 := by
  cases i with
  | newarray t => cases t <;> first | (cases hs; done) | (simp only [tm_stp, tm_nar, tm_nx] at hs; repeat' (split at hs)) <;> (cases hs; done)
  | tableswitch w1 w2 w3 w4 =>
    simp only [tm_stp, tm_tsw, tm_jmp, tm_nx] at hs
    repeat' (split at hs)
    all_goals (cases hs; done)
  | lookupswitch w1 w2 =>
    simp only [tm_stp, tm_lsw, tm_jmp, tm_nx] at hs
    repeat' (split at hs)
    all_goals (cases hs; done)
  | ifCond cd off =>
    simp only [tm_stp] at hs
    cases cd <;> simp only [tm_b1, tm_nx] at hs <;> repeat' (split at hs)
    all_goals (cases hs; done)
  | if_icmp cd off =>
    simp only [tm_stp] at hs
    cases cd <;> simp only [tm_b2, tm_nx] at hs <;> repeat' (split at hs)
    all_goals (cases hs; done)
  | ireturn =>
    simp only [tm_stp] at hs
    split at hs
    · split at hs
      · rename_i hv
        cases hs
        exact ⟨⟨rfl, _, hok.2, hv⟩, rfl, rfl⟩
      · cases hs
    · cases hs
  | lreturn => simp only [tm_stp] at hs; split at hs <;> first | (cases hs; exact ⟨⟨rfl, hok.2⟩, rfl, rfl⟩) | cases hs
  | areturn => simp only [tm_stp] at hs; split at hs <;> first | (cases hs; exact ⟨⟨rfl, hok.2⟩, rfl, rfl⟩) | cases hs
  | return_ => simp only [tm_stp] at hs; split at hs <;> first | (cases hs; exact ⟨⟨rfl, hok.2⟩, rfl, rfl⟩) | cases hs
  | _ =>
    first
    | (cases hs; done)
    | (simp only [tm_stp, tm_i1, tm_i2, tm_d2, tm_l1, tm_l2, tm_e2, tm_s2, tm_ldi, tm_ldl, tm_lda, tm_sti, tm_sta, tm_stl, tm_inc, tm_ldc, tm_get, tm_set, tm_ild, tm_bld, tm_cld, tm_lld, tm_ald, tm_isr, tm_bsr, tm_csr, tm_lsr, tm_asr, tm_aln, tm_nar, tm_nw, tm_oi, tm_cp, tm_mx, tm_mn, tm_ab, tm_ci, tm_ca, tm_cv, tm_nx] at hs
       repeat' (split at hs)
       all_goals (cases hs; done))
end
section
section TMR
variable {p : Program} {l : Launch} {e : Env} {R : Room} {s : State} {m : MethodId} {args : Array Value} {below : List Frame} {meth : Method} {c : Code} {H : Heap} {locs : List Loc} {cells slots : Nat} {Q : State → Prop}
variable {pc : Nat} {lsC : Array Slot}
variable {G : tm_G} {cl : List vw_C} {tbl : List Cond} {D : va_G} {tc : Nat → ClassId} {lo : Nat} {K : String} {EX : State → Prop} {M d : Nat} {ls st : List Value} {h h' : tm_H} {r : Option Value}
theorem tm_callW {mc ms : Nat} {rest : List Value} {a : Array Value} (hr : va_Run p l e R s m args below meth c H locs cells slots mc ms (F0 m pc lsC st) rest (tm_Qc cl D tc lo r h' a) (fun q => lo ≤ q)) (hS : va_S (fun q => lo ≤ q) s.heap H locs)
    (kk : ∀ (H1 : Heap) (locs1 : List Loc), H1.size = h'.1 → tm_HW D cl tc lo h' H1 → va_S (fun q => lo ≤ q) s.heap H1 locs1 → W p l e R s m args below meth c H1 locs1 (cells + mc) (slots + ms) Q (F0 m (pc + 3) lsC (r.toList ++ rest))) : W p l e R s m args below meth c H locs cells slots Q (F0 m pc lsC st) := by
  intro T hT X
  obtain ⟨v, st₀, t, T', L, h0, X', hL, e1, e2, ⟨hv, hz, hw, hF⟩, st⟩ := hr T hT X
  cases hv
  obtain ⟨f1, f2⟩ := hF
  rw [h0] at f1 f2
  obtain ⟨t2, a1, b1⟩ := kk T'.heap (locs ++ L) (by rw [e1]; exact hz) (by rw [e1]; exact hw)
    ⟨Nat.le_trans hS.1 (by rw [e1]; exact f1), fun q h1 h2 => by rw [e1, f2 q (Nat.lt_of_lt_of_le h1 hS.1) h2]; exact hS.2.1 q h1 h2, fun q hq => by
      rcases List.mem_append.mp hq with h | h
      · exact hS.2.2 q h
      · exact hL q h⟩ T' rfl X'
  exact ⟨t2, st t2 a1, b1⟩
theorem tm_blind (hcl : tm_cls lo EX) {as : List Value} : FrameBlind (tm_Pc cl D tc lo K EX as h) := by
  rintro a U g mk ⟨q1, q2, q3, q4, q5⟩
  exact ⟨q1, q2, q3, va_K.moved (u := U) (U := U.calling g mk a) (Vm.Alike.refl U.vm) q4, hcl U (U.calling g mk a) (fun _ _ => rfl) (Or.inl rfl) q5⟩
theorem tm_preU (hcl : tm_cls lo EX) (hK : va_K D cl (tm_tys K tc) s) (hEX : EX s) (hlo : lo ≤ s.heap.size) (hw : tm_HW D cl tc lo h H) (hS : va_S (fun q => lo ≤ q) s.heap H locs) (hz : H.size = h.1) {as : List Value} (U : State) (hU : U.heap = H) (hW : s.WarmedH U.vm) : tm_Pc cl D tc lo K EX as h as.toArray U :=
  ⟨rfl, by rw [hU]; exact hz, by rw [hU]; exact hw, va_K.moved hW.alike hK, hcl s U (fun q hq => by rw [hU]; exact hS.2.1 q (Nat.lt_of_lt_of_le hq hlo) (Nat.not_le.mpr hq)) (Or.inr hW) hEX⟩
/-- a call -/
theorem tm_call {i : Instr} {a b : Nat} {as rest : List Value} {d' mi : Nat} (hmi : mi < 1000) (hcl : tm_cls lo EX) (hg : tm_good tbl) (hok : tm_ok G cl tbl K EX M pc (i, a, b)) (C0 : tm_C G cl tbl D tc lo K EX M p s m args meth c) (hw : tm_HW D cl tc lo h H) (hS : va_S (fun q => lo ≤ q) s.heap H locs) (hL : tm_LR lsC (tm_mt G M).2.2.1 ls) (hz : h.1 = s.heap.size + cells) (hR : d' + 1 ≤ R.frames ∧ 41 * (d' + 1) ≤ R.locals)
    (hs : tm_stp G (d' + 1) (i, a, b) pc ls st h = some (.inr (.inr (mi, as, rest)))) (hM : tm_Met G cl tbl D tc lo K EX l d' mi as h r h') (hm : h.1 ≤ h'.1 ∧ h.2.1 ≤ h'.2.1) (hc : cells + h'.1 ≤ R.cells + h.1 ∧ slots + h'.2.1 ≤ R.slots + h.2.1)
    (kk : ∀ (H1 : Heap) (locs1 : List Loc) (cells1 slots1 : Nat), cells1 + h.1 = cells + h'.1 → slots1 + h.2.1 = slots + h'.2.1 → tm_HW D cl tc lo h' H1 → va_S (fun q => lo ≤ q) s.heap H1 locs1 → W p l e R s m args below meth c H1 locs1 cells1 slots1 Q (F0 m (pc + 3) lsC (r.toList ++ rest))) : W p l e R s m args below meth c H locs cells slots Q (F0 m pc lsC st) := by
  obtain ⟨hx, hb, hml, hr, hown, hts, hK, hlk, hnm, hlo, hEX⟩ := C0
  refine tm_size hz hw (fun hH => ?_)
  have hsz : lsC.size = (tm_mt G M).2.2.1 := hL.2.1
  have kk' : ∀ (H1 : Heap) (locs1 : List Loc), H1.size = h'.1 → tm_HW D cl tc lo h' H1 → va_S (fun q => lo ≤ q) s.heap H1 locs1 → W p l e R s m args below meth c H1 locs1 (cells + (h'.1 - h.1)) (slots + (h'.2.1 - h.2.1)) Q (F0 m (pc + 3) lsC (r.toList ++ rest)) := fun H1 locs1 _ q2 q3 => kk H1 locs1 _ _ (by omega) (by omega) q2 q3
  have hbl : FrameBlind (tm_Pc cl D tc lo K EX as h) := tm_blind hcl
  have hpU : ∀ U : State, U.heap = H → s.WarmedH U.vm → tm_Pc cl D tc lo K EX as h as.toArray U := tm_preU hcl hK hEX hlo hw hS hH
  have hcc : cells + (h'.1 - h.1) ≤ R.cells ∧ slots + (h'.2.1 - h.2.1) ≤ R.slots := by omega
  obtain ⟨hd, hok⟩ := hok
  have hpop : ∀ (n : Nat) (st : List Value), st = (tm_pop n st).1.reverse ++ (tm_pop n st).2 := fun n st => by simp [tm_pop]
  rcases tm_only hs with ⟨k, rfl⟩ | ⟨k, rfl⟩ | ⟨k, rfl⟩
  · simp only [tm_stp, tm_cv] at hs
    split at hs
    · rename_i as' o r' hp
      split at hs
      · split at hs <;> cases hs
        omega
      split at hs
      · rename_i ho
        split at hs
        · rename_i hcd
          cases hs
          simp only [tm_okr, show ¬ 1000 ≤ a by omega, if_false] at hok
          obtain ⟨⟨o1, o2, o3, o4, o5, o6⟩, o7, o8, o9, T, N, o10⟩ := hok
          obtain ⟨hc1, hc2, hc3⟩ := hcd
          subst hc1
          obtain ⟨-, -, q3⟩ := hw.obj ho
          have hst : st = as'.reverse ++ .ref o :: rest := by have := hpop b st; rw [hp] at this; exact this
          refine tm_callW (va_runV (As := as') (rest := rest) (b := o) ⟨hx, hb, hml, hown, hts⟩ hM (cwV b hts (tm_GI hg ?_) rfl rfl rfl ⟨rfl, o3, o4, o5⟩ ⟨hR.1, by show 8 + (_ + 11) + 41 * d' ≤ _; omega⟩) ⟨hbl, va_recv hK hw.2.2.1 o10 q3, hpU⟩ rfl hc2 hsz hst (lv_room hc3) (tm_dec hd rfl) hcc) hS kk'
          intro w hw'
          simp only [wsV, tm_ws, List.cons_append, List.nil_append, List.mem_cons] at hw'
          rcases hw' with rfl | rfl | rfl | rfl | rfl | hw'
          · exact o7
          · exact o8
          · exact o9
          · exact o2
          · exact o1
          · exact hw'
        · cases hs
      · cases hs
    · cases hs
  · simp only [tm_stp] at hs
    split at hs
    · unfold tm_oi at hs
      split at hs
      · split at hs <;> cases hs
      · cases hs
    · rename_i hb0
      simp only [tm_okr, hb0, if_false] at hok
      obtain ⟨⟨o1, o2, o3, o4, o5, o6⟩, o7, o8, o9, o10⟩ := hok
      unfold tm_ci at hs
      split at hs
      · rename_i as' o r' hp
        split at hs
        · rename_i hcd
          cases hs
          obtain ⟨hc2, hc3⟩ := hcd
          have hst : st = as'.reverse ++ .ref o :: rest := by have := hpop b st; rw [hp] at this; exact this
          have hG : GoodIn tbl (tm_ws G tbl a) := tm_GI hg (fun w hw' => by
            rcases List.mem_cons.mp hw' with rfl | hw'
            · exact o1
            · exact hw')
          rcases o7 with o7 | ⟨host, o7⟩
          · exact tm_callW (va_runI (As := as') (rest := rest) (b := o) ⟨hx, hb, hml, hown, hts⟩ hM (cwI b hts hG (by unfold tm_ws; rw [o10]) rfl rfl (hts _ o2) (hts _ o7) (hts _ o9) o8 ⟨o3, o4, o5⟩ ⟨hR.1, by show 8 + (_ + 11) + 41 * d' ≤ _; omega⟩) ⟨hbl, hpU⟩ rfl hc2 hsz hst (lv_room hc3) (tm_dec hd rfl) hcc) hS kk'
          · exact tm_callW (va_runIN (As := as') (rest := rest) (b := o) ⟨hx, hb, hml, hown, hts⟩ hM ⟨va_cnB b hts hG (by unfold tm_ws; rw [o10]) rfl rfl (o7 s hEX) (hts _ o2) ⟨o3, o4, o5⟩ ⟨hR.1, by show 8 + (_ + 11) + 41 * d' ≤ _; omega⟩, o8, hts _ o9⟩ ⟨hbl, hpU⟩ rfl hc2 hsz hst (lv_room hc3) (tm_dec hd rfl) hcc) hS kk'
        · cases hs
      · cases hs
  · simp only [tm_stp] at hs
    split at hs
    · unfold tm_cp at hs
      split at hs
      · split at hs
        · split at hs <;> cases hs
        · cases hs
      · cases hs
    split at hs
    · unfold tm_mx at hs
      split at hs
      · split at hs <;> cases hs
      · cases hs
    split at hs
    · unfold tm_mn at hs
      split at hs
      · split at hs <;> cases hs
      · cases hs
    split at hs
    · unfold tm_ab at hs
      split at hs
      · split at hs <;> cases hs
      · cases hs
    · rename_i hb0 hb1 hb2 hb3
      unfold tm_ca at hs
      split at hs
      rename_i as' r' hp
      split at hs
      · rename_i hcd
        cases hs
        simp only [tm_okr, hb0, hb1, hb2, hb3, if_false, show ¬ 1000 ≤ a by omega] at hok
        obtain ⟨⟨o1, o2, o3, o4, o5, o6⟩, o7, o8⟩ := hok
        obtain ⟨hc2, hc3⟩ := hcd
        have hst : st = as.reverse ++ rest := by have := hpop b st; rw [hp] at this; exact this
        have hG : GoodIn tbl (tm_ws G tbl a) := tm_GI hg (fun w hw' => by
            rcases List.mem_cons.mp hw' with rfl | hw'
            · exact o1
            · exact hw')
        rcases o7 with o7 | ⟨host, o7⟩
        · refine tm_callW (va_runS (As := as) (rest := rest) ⟨hx, hb, hml, hown, hts⟩ hM (va_cwS b hts (tm_GI hg ?_) rfl rfl rfl ⟨o3, o4, o5⟩ ⟨hR.1, by show 8 + (_ + 11) + 41 * d' ≤ _; omega⟩) ⟨hbl, hpU⟩ rfl hc2 hsz hst (lv_room hc3) (tm_dec hd rfl) hcc) hS kk'
          intro w hw'
          simp only [va_wsS, tm_ws, List.cons_append, List.nil_append, List.mem_cons] at hw'
          rcases hw' with rfl | rfl | rfl | rfl | hw'
          · exact o7
          · exact o8
          · exact o2
          · exact o1
          · exact hw'
        · exact tm_callW (va_runSN (As := as) (rest := rest) ⟨hx, hb, hml, hown, hts⟩ hM ⟨va_cnB b hts hG rfl rfl rfl (o7 s hEX) (hts _ o2) ⟨o3, o4, o5⟩ ⟨hR.1, by show 8 + (_ + 11) + 41 * d' ≤ _; omega⟩, hts _ o8, trivial⟩ ⟨hbl, hpU⟩ rfl hc2 hsz hst (lv_room hc3) (tm_dec hd rfl) hcc) hS kk'
      · cases hs
/-- the rule of a call of mi that leaves h' and answers r -/
def tm_CK (G : tm_G) (cl : List vw_C) (tbl : List Cond) (D : va_G) (tc : Nat → ClassId) (lo : Nat) (K : String) (EX : State → Prop) (l : Launch) (d' mi : Nat) (as : List Value) (h : tm_H) (r : Option Value) (h' : tm_H) : Prop :=
  ∀ {p : Program} {e : Env} {R : Room} {s : State} {m : MethodId} {args : Array Value} {below : List Frame} {meth : Method} {c : Code} {H : Heap} {locs : List Loc} {cells slots : Nat} {Q : State → Prop} {lsC : Array Slot} {M pc : Nat} {ls st rest : List Value} {i : Instr} {a b : Nat},
    tm_ok G cl tbl K EX M pc (i, a, b) → tm_C G cl tbl D tc lo K EX M p s m args meth c → tm_HW D cl tc lo h H → va_S (fun q => lo ≤ q) s.heap H locs → tm_LR lsC (tm_mt G M).2.2.1 ls → h.1 = s.heap.size + cells → (d' + 1 ≤ R.frames ∧ 41 * (d' + 1) ≤ R.locals) → tm_stp G (d' + 1) (i, a, b) pc ls st h = some (.inr (.inr (mi, as, rest))) → (cells + h'.1 ≤ R.cells + h.1 ∧ slots + h'.2.1 ≤ R.slots + h.2.1) →
    (∀ (H1 : Heap) (locs1 : List Loc) (cells1 slots1 : Nat), cells1 + h.1 = cells + h'.1 → slots1 + h.2.1 = slots + h'.2.1 → tm_HW D cl tc lo h' H1 → va_S (fun q => lo ≤ q) s.heap H1 locs1 → W p l e R s m args below meth c H1 locs1 cells1 slots1 Q (F0 m (pc + 3) lsC (r.toList ++ rest))) → W p l e R s m args below meth c H locs cells slots Q (F0 m pc lsC st)
theorem tm_CK.ofMet {d' mi : Nat} {as : List Value} (hmi : mi < 1000) (hcl : tm_cls lo EX) (hg : tm_good tbl) (hM : tm_Met G cl tbl D tc lo K EX l d' mi as h r h') (hm : h.1 ≤ h'.1 ∧ h.2.1 ≤ h'.2.1) : tm_CK G cl tbl D tc lo K EX l d' mi as h r h' :=
  fun hok C0 hw hS hL hz hR hs hc kk => tm_call hmi hcl hg hok C0 hw hS hL hz hR hs hM hm hc kk
/-- what every program must keep: its tables are the class files', what it is said to do it does -/
def tm_prog (G : tm_G) (cl : List vw_C) (tbl : List Cond) (D : va_G) (tc : Nat → ClassId) (lo : Nat) (K : String) (EX : State → Prop) (l : Launch) : Prop :=
  tm_cls lo EX ∧ tm_good tbl ∧ (∀ s, EX s → tm_SC G lo s) ∧ (∀ M pc en, tm_ft G M pc = some en → tm_ok G cl tbl K EX M pc en) ∧ (∀ M, M < 1000 → plainName (tm_mt G M).1.cls = true) ∧
  (∀ mi d as h r h', tm_xt G mi d as h = some (r, h') → tm_CK G cl tbl D tc lo K EX l d mi as h r h' ∧ h.1 ≤ h'.1 ∧ h.2.1 ≤ h'.2.1)
theorem tm_mono (hP : tm_prog G cl tbl D tc lo K EX l) : ∀ {n d M pc : Nat} {ls st : List Value} {h h' : tm_H} {r : Option Value}, tm_run G n d M pc ls st h = some (r, h') → h.1 ≤ h'.1 ∧ h.2.1 ≤ h'.2.1 := by
  obtain ⟨-, -, -, -, -, hX⟩ := hP
  intro n
  induction n with
  | zero => intro d M pc ls st h h' r hr; cases hr
  | succ n ih =>
    intro d M pc ls st h h' r hr
    unfold tm_run at hr
    split at hr
    · cases hr
    · split at hr
      · cases hr
      · rename_i hs
        have h1 := tm_mono1 hs
        have h2 := ih hr
        omega
      · cases hr
        exact ⟨Nat.le_refl _, Nat.le_refl _⟩
      · split at hr
        · cases hr
        · split at hr
          · cases hr
          · rename_i hq
            have h2 := ih hr
            split at hq
            · have h1 := ih hq
              omega
            · have h1 := (hX _ _ _ _ _ _ hq).2
              omega
/-- A RUN OF THE THIN MACHINE IS A RUN OF THE MACHINE -/
theorem tm_sound (hP : tm_prog G cl tbl D tc lo K EX l) : ∀ {n d M pc : Nat} {ls st : List Value} {h h' : tm_H} {r : Option Value}, tm_run G n d M pc ls st h = some (r, h') →
    ∀ {p : Program} {e : Env} {R : Room} {s : State} {m : MethodId} {args : Array Value} {below : List Frame} {meth : Method} {c : Code} {H : Heap} {locs : List Loc} {cells slots : Nat} {Q : State → Prop} {lsC : Array Slot}, tm_C G cl tbl D tc lo K EX M p s m args meth c → tm_HW D cl tc lo h H → va_S (fun q => lo ≤ q) s.heap H locs → tm_LR lsC (tm_mt G M).2.2.1 ls → h.1 = s.heap.size + cells → (d ≤ R.frames ∧ 41 * d ≤ R.locals) → (cells + h'.1 ≤ R.cells + h.1 ∧ slots + h'.2.1 ≤ R.slots + h.2.1) →
      (∀ (pcR : Nat) (i : Instr) (H1 : Heap) (locs1 : List Loc) (lsD : Array Slot) (cells1 slots1 : Nat), decode (tm_mt G M).2.1 pcR = .ok (i, 1) → tm_ret (tm_mt G M).2.2.2.1 i r → cells1 + h.1 = cells + h'.1 → slots1 + h.2.1 = slots + h'.2.1 → H1.size = h'.1 → tm_HW D cl tc lo h' H1 → va_S (fun q => lo ≤ q) s.heap H1 locs1 → W p l e R s m args below meth c H1 locs1 cells1 slots1 Q (F0 m pcR lsD r.toList)) →
      W p l e R s m args below meth c H locs cells slots Q (F0 m pc lsC st) := by
  have hP0 := hP
  obtain ⟨hcl, hg, hsc, hft, hpl, hX⟩ := hP
  intro n
  induction n with
  | zero => intro d M pc ls st h h' r hr; cases hr
  | succ n ih =>
    intro d M pc ls st h h' r hr p e R s m args below meth c H locs cells slots Q lsC C0 hw hS hL hz hR hc hQ
    unfold tm_run at hr
    split at hr
    · cases hr
    · rename_i en hen
      have hok := hft M pc en hen
      split at hr
      · cases hr
      · rename_i pc' ls' st' h1 hs
        have g1 := tm_mono1 hs
        have g2 := tm_mono hP0 hr
        refine tm_next hsc hok C0 hw hS hL hz hR hs (by omega) (fun H1 locs1 lsD cells1 slots1 e1 e2 hw1 hS1 hL1 => ?_)
        exact ih hr C0 hw1 hS1 hL1 (by omega) hR (by omega) (fun pcR i H2 locs2 lsE cells2 slots2 q1 q2 q3 q4 q5 q6 q7 => hQ pcR i H2 locs2 lsE cells2 slots2 q1 q2 (by omega) (by omega) q5 q6 q7)
      · rename_i r' hs
        cases hr
        obtain ⟨i, a, b⟩ := en
        obtain ⟨t1, t2, t3⟩ := tm_rets hok hs
        refine tm_size hz hw (fun hH => ?_)
        rw [t2]
        exact hQ pc i H locs lsC cells slots (tm_dec hok.1 t3) t1 rfl rfl hH hw hS
      · rename_i mi as rest hs
        split at hr
        · cases hr
        · rename_i d'
          split at hr
          · cases hr
          · rename_i r1 h1 hq
            obtain ⟨i, a, b⟩ := en
            have g2 := tm_mono hP0 hr
            have hM : tm_CK G cl tbl D tc lo K EX l d' mi as h r1 h1 ∧ h.1 ≤ h1.1 ∧ h.2.1 ≤ h1.2.1 := by
              split at hq
              · rename_i hmi
                have g1 := tm_mono hP0 hq
                refine ⟨tm_CK.ofMet hmi.1 hcl hg ?_ g1, g1⟩
                unfold tm_Met
                refine Met.ofW (cc := (tm_mt G mi).2.1) (maxL := (tm_mt G mi).2.2.1) (ret := (tm_mt G mi).2.2.2.1) (hpl mi hmi.1) rfl ?_
                intro p2 e2 s2 m2 args2 below2 meth2 c2 s₁ B hml hv
                obtain ⟨rfl, v1, v2, v3, v4⟩ := hv
                have hts2 := atoms_spec (ws := tm_ws G tbl mi) B.pre
                have hn := name_of_methodNamed B.named B.method
                rw [lg_entry_eq]
                refine ih hq (R := tm_rm d' (h1.1 - h.1) (h1.2.1 - h.2.1)) ⟨B.exec, B.bytes, hml, B.returns, findClass_of_methodNamed B.named, fun w hw' => hts2 w (List.mem_cons_of_mem _ hw'), v3, B.notSynchronized, hn.1, by rw [v1]; exact v2.1, v4⟩ v2 va_S.rf (tm_LR.ent hmi.2) (by rw [v1]; rfl) ⟨Nat.le_refl _, Nat.le_refl _⟩ ⟨by show 0 + h1.1 ≤ (h1.1 - h.1) + h.1; omega, by show 0 + h1.2.1 ≤ (h1.2.1 - h.2.1) + h.2.1; omega⟩ ?_
                intro pcR i2 H2 locs2 lsE cells2 slots2 q1 q2 q3 q4 q5 q6 q7
                have hc2 : cells2 = h1.1 - h.1 := by omega
                have hs2 : slots2 = h1.2.1 - h.2.1 := by omega
                rw [hc2, hs2]
                have hend : ∀ t : State, t.heap = H2 → s2.WarmedH t.vm → tm_Qc cl D tc lo r1 h1 as.toArray s2 (.returned r1) t := fun t ht _ => ⟨rfl, by rw [ht]; exact q5, by rw [ht]; exact q6, q7.F ht⟩
                have hret := B.returns
                have hlk := B.notSynchronized
                have hfr : ∀ q ∈ locs2, lo ≤ q.base := q7.2.2
                cases r1 with
                | none =>
                  obtain ⟨rfl, q9⟩ := q2
                  exact W.vret B.exec B.bytes (hret.trans q9) hend hfr q1 hlk
                | some v =>
                  cases v with
                  | int v =>
                    obtain ⟨rfl, rt, q9, q10⟩ := q2
                    exact W.zret B.exec B.bytes (hret.trans q9) q10 hend hfr q1 hlk
                  | long v =>
                    obtain ⟨rfl, q9⟩ := q2
                    exact W.lret B.exec B.bytes (hret.trans q9) hend hfr q1 hlk
                  | ref v =>
                    obtain ⟨rfl, rt, q9, q10⟩ := q2
                    exact W.aret B.exec B.bytes (hret.trans q9) q10 (Or.inr ⟨v, rfl⟩) hend hfr q1 hlk
                  | _ => exact q2.elim
              · exact hX _ _ _ _ _ _ hq
            have hm := hM.2
            refine hM.1 hok C0 hw hS hL hz hR hs (by omega) (fun H1 locs1 cells1 slots1 e1 e2 hw1 hS1 => ?_)
            exact ih hr C0 hw1 hS1 hL (by omega) hR (by omega) (fun pcR i2 H2 locs2 lsE cells2 slots2 q1 q2 q3 q4 q5 q6 q7 => hQ pcR i2 H2 locs2 lsE cells2 slots2 q1 q2 (by omega) (by omega) q5 q6 q7)
end TMR
end
section
/-! what a run comes to: for plain proofs -/
theorem tm_fuel {G : tm_G} : ∀ {n : Nat} {d M pc : Nat} {ls st : List Value} {h : tm_H} {x : Option Value × tm_H}, tm_run G n d M pc ls st h = some x → ∀ k, n ≤ k → tm_run G k d M pc ls st h = some x := by
  intro n
  induction n with
  | zero => intro d M pc ls st h x hr; cases hr
  | succ n ih =>
    intro d M pc ls st h x hr k hk
    obtain ⟨k, rfl⟩ : ∃ j, k = j + 1 := ⟨k - 1, by omega⟩
    have hk : n ≤ k := by omega
    unfold tm_run at hr ⊢
    cases he : tm_ft G M pc with
    | none => rw [he] at hr; cases hr
    | some en =>
      rw [he] at hr
      dsimp only at hr ⊢
      cases hs : tm_stp G d en pc ls st h with
      | none => rw [hs] at hr; cases hr
      | some o =>
        rw [hs] at hr
        match o, hr with
        | .inl (pc', ls', st', h'), hr => exact ih hr k hk
        | .inr (.inl r), hr => exact hr
        | .inr (.inr (mi, as, rest)), hr =>
          dsimp only at hr ⊢
          cases d with
          | zero => exact hr
          | succ d' =>
            dsimp only at hr ⊢
            by_cases hm : mi < 1000 ∧ (tm_ex as).length ≤ (tm_mt G mi).2.2.1
            · rw [if_pos hm] at hr ⊢
              cases hq : tm_run G n d' mi 0 (tm_ent as (tm_mt G mi).2.2.1) [] h with
              | none => rw [hq] at hr; cases hr
              | some y =>
                rw [hq] at hr
                rw [ih hq k hk]
                exact ih hr k hk
            · rw [if_neg hm] at hr ⊢
              cases hq : tm_xt G mi d' as h with
              | none => rw [hq] at hr; cases hr
              | some y =>
                rw [hq] at hr
                exact ih hr k hk
/-- from here the method returns, and Q holds of what it returns and of the heap then -/
def tm_X (G : tm_G) (d M pc : Nat) (ls st : List Value) (h : tm_H) (Q : Option Value → tm_H → Prop) : Prop := ∃ n r h', tm_run G n d M pc ls st h = some (r, h') ∧ Q r h'
/-- a call of method mi -/
def tm_D (G : tm_G) (d mi : Nat) (as : List Value) (h : tm_H) (Q : Option Value → tm_H → Prop) : Prop := if mi < 1000 ∧ (tm_ex as).length ≤ (tm_mt G mi).2.2.1 then tm_X G d mi 0 (tm_ent as (tm_mt G mi).2.2.1) [] h Q else ∃ r h', tm_xt G mi d as h = some (r, h') ∧ Q r h'
/-- what an instruction's outcome asks -/
def tm_Y (G : tm_G) (d M pc : Nat) (ls : List Value) (h : tm_H) (Q : Option Value → tm_H → Prop) : Option tm_O → Prop
  | none => False
  | some (.inl (pc', ls', st', h')) => tm_X G d M pc' ls' st' h' Q
  | some (.inr (.inl r)) => Q r h
  | some (.inr (.inr (mi, as, rest))) => match d with
    | 0 => False
    | d' + 1 => tm_D G d' mi as h (fun r h' => tm_X G (d' + 1) M (pc + 3) ls (r.toList ++ rest) h' Q)
theorem tm_X_i {G : tm_G} {d M pc : Nat} {ls st : List Value} {h : tm_H} {Q : Option Value → tm_H → Prop} (en : tm_N) (he : tm_ft G M pc = some en) : tm_Y G d M pc ls h Q (tm_stp G d en pc ls st h) → tm_X G d M pc ls st h Q := by
  intro hy
  cases hs : tm_stp G d en pc ls st h with
  | none => rw [hs] at hy; exact hy.elim
  | some o =>
    rw [hs] at hy
    match o, hy with
    | .inl (pc', ls', st', h'), ⟨n, r, h2, hr, hq⟩ =>
      refine ⟨n + 1, r, h2, ?_, hq⟩
      unfold tm_run
      rw [he]
      dsimp only
      rw [hs]
      exact hr
    | .inr (.inl r), hy =>
      refine ⟨1, r, h, ?_, hy⟩
      unfold tm_run
      rw [he]
      dsimp only
      rw [hs]
    | .inr (.inr (mi, as, rest)), hy =>
      cases d with
      | zero => exact hy.elim
      | succ d' =>
        unfold tm_Y tm_D at hy
        by_cases hm : mi < 1000 ∧ (tm_ex as).length ≤ (tm_mt G mi).2.2.1
        · simp only [hm, and_self, if_true] at hy
          obtain ⟨n, r, h2, hr, n2, r2, h3, hr2, hq⟩ := hy
          refine ⟨max n n2 + 1, r2, h3, ?_, hq⟩
          unfold tm_run
          rw [he]
          dsimp only
          rw [hs]
          dsimp only
          rw [if_pos hm, tm_fuel hr _ (Nat.le_max_left _ _)]
          exact tm_fuel hr2 _ (Nat.le_max_right _ _)
        · simp only [hm, if_false] at hy
          obtain ⟨r, h2, hr, n2, r2, h3, hr2, hq⟩ := hy
          refine ⟨n2 + 1, r2, h3, ?_, hq⟩
          unfold tm_run
          rw [he]
          dsimp only
          rw [hs]
          dsimp only
          rw [if_neg hm, hr]
          exact hr2
theorem tm_X_m {G : tm_G} {d M pc : Nat} {ls st : List Value} {h : tm_H} {Q Q' : Option Value → tm_H → Prop} (hq : ∀ r h', Q r h' → Q' r h') : tm_X G d M pc ls st h Q → tm_X G d M pc ls st h Q' := fun ⟨n, r, h', h1, h2⟩ => ⟨n, r, h', h1, hq r h' h2⟩
theorem tm_D_m {G : tm_G} {d mi : Nat} {as : List Value} {h : tm_H} {Q Q' : Option Value → tm_H → Prop} (hq : ∀ r h', Q r h' → Q' r h') : tm_D G d mi as h Q → tm_D G d mi as h Q' := by
  unfold tm_D
  split
  · exact tm_X_m hq
  · exact fun ⟨r, h', h1, h2⟩ => ⟨r, h', h1, hq r h' h2⟩
theorem tm_X_o {G : tm_G} {d M pc : Nat} {ls st : List Value} {h : tm_H} {Q : Option Value → tm_H → Prop} (en : tm_N) (he : tm_ft G M pc = some en) : tm_X G d M pc ls st h Q → tm_Y G d M pc ls h Q (tm_stp G d en pc ls st h) := by
  rintro ⟨n, r, h2, hr, hq⟩
  cases n with
  | zero => cases hr
  | succ n =>
    unfold tm_run at hr
    rw [he] at hr
    dsimp only at hr
    cases hs : tm_stp G d en pc ls st h with
    | none => rw [hs] at hr; cases hr
    | some o =>
      rw [hs] at hr
      match o, hr with
      | .inl (pc', ls', st', h'), hr => exact ⟨n, r, h2, hr, hq⟩
      | .inr (.inl r'), hr => cases hr; exact hq
      | .inr (.inr (mi, as, rest)), hr =>
        dsimp only at hr
        cases d with
        | zero => cases hr
        | succ d' =>
          dsimp only at hr
          unfold tm_Y tm_D
          by_cases hm : mi < 1000 ∧ (tm_ex as).length ≤ (tm_mt G mi).2.2.1
          · rw [if_pos hm] at hr
            simp only [hm, and_self, if_true]
            cases hw : tm_run G n d' mi 0 (tm_ent as (tm_mt G mi).2.2.1) [] h with
            | none => rw [hw] at hr; cases hr
            | some y =>
              rw [hw] at hr
              exact ⟨n, y.1, y.2, hw, n, r, h2, hr, hq⟩
          · rw [if_neg hm] at hr
            simp only [hm, if_false]
            cases hw : tm_xt G mi d' as h with
            | none => rw [hw] at hr; cases hr
            | some y =>
              rw [hw] at hr
              exact ⟨y.1, y.2, rfl, n, r, h2, hr, hq⟩
theorem tm_X_e {G : tm_G} {d M pc : Nat} {ls st : List Value} {h : tm_H} {Q : Option Value → tm_H → Prop} (en : tm_N) (he : tm_ft G M pc = some en) : tm_X G d M pc ls st h Q ↔ tm_Y G d M pc ls h Q (tm_stp G d en pc ls st h) := ⟨tm_X_o en he, tm_X_i en he⟩
/-- a run has one end -/
theorem tm_X_1 {G : tm_G} {d M pc : Nat} {ls st : List Value} {h : tm_H} {r : Option Value} {h' : tm_H} (hx : tm_X G d M pc ls st h (fun r2 h2 => r2 = r ∧ h2 = h')) (Q : Option Value → tm_H → Prop) : tm_X G d M pc ls st h Q ↔ Q r h' := by
  obtain ⟨n, r2, h2, hr, rfl, rfl⟩ := hx
  constructor
  · rintro ⟨n3, r3, h3, hr3, hq⟩
    have e1 := tm_fuel hr _ (Nat.le_max_left n n3)
    have e2 := tm_fuel hr3 _ (Nat.le_max_right n n3)
    rw [e1] at e2
    cases e2
    exact hq
  · exact fun hq => ⟨n, r2, h2, hr, hq⟩
end
section
/-! an instruction's decoding looks at its own bytes alone (switches apart) -/
abbrev rd_D (α : Type) : Type := Jvm.ClassFile.Reader Jvm.ClassFile.DecodeError α
def rd_L {α : Type} (r r' : rd_D α) : Prop := ∀ (L S T : List UInt8) (p k k' : Nat) (x : α), L.drop p = S ++ T → Jvm.ClassFile.Reader.runAt r ⟨⟨S⟩⟩ k = .ok (x, k') → Jvm.ClassFile.Reader.runAt r' ⟨⟨L⟩⟩ (p + k) = .ok (x, p + k')
theorem rd_run_b {α β : Type} (r : rd_D α) (f : α → rd_D β) (b : ByteArray) (k : Nat) : Jvm.ClassFile.Reader.runAt (r >>= f) b k = match Jvm.ClassFile.Reader.runAt r b k with
    | .ok (x, k1) => Jvm.ClassFile.Reader.runAt (f x) b k1
    | .error e => .error e := by
  have e1 : Jvm.ClassFile.Reader.runAt (r >>= f) b k = Except.bind (r b k) (fun z => f z.1 b z.2) := rfl
  have e2 : Jvm.ClassFile.Reader.runAt r b k = r b k := rfl
  rw [e1, e2]
  cases r b k <;> rfl
theorem rd_pure {α : Type} (x : α) : rd_L (pure x) (pure x) := by
  intro L S T p k k' y _ h
  have h : Except.ok (x, k) = Except.ok (y, k') := h
  cases h
  rfl
theorem rd_bind {α β : Type} {r r' : rd_D α} {f f' : α → rd_D β} (hr : rd_L r r') (hf : ∀ x, rd_L (f x) (f' x)) : rd_L (r >>= f) (r' >>= f') := by
  intro L S T p k k' y hL h
  rw [rd_run_b] at h ⊢
  cases hq : Jvm.ClassFile.Reader.runAt r ⟨⟨S⟩⟩ k with
  | error e => rw [hq] at h; cases h
  | ok z =>
    obtain ⟨x, k1⟩ := z
    rw [hq] at h
    rw [hr L S T p k k1 x hL hq]
    exact hf x L S T p k1 k' y hL h
theorem rd_u1 : rd_L (Jvm.ClassFile.Reader.u1 : rd_D Nat) Jvm.ClassFile.Reader.u1 := by
  intro L S T p k k' y hL h
  have e : ∀ (A : List UInt8) (q : Nat), Jvm.ClassFile.Reader.runAt (Jvm.ClassFile.Reader.u1 : rd_D Nat) ⟨⟨A⟩⟩ q = if h : q < A.length then .ok ((A[q]).toNat, q + 1) else .error (Jvm.ClassFile.HasTruncated.truncated q) := by
    intro A q
    unfold Jvm.ClassFile.Reader.u1
    by_cases hq : q < A.length
    · rw [dif_pos hq]
      have hq' : q < (⟨⟨A⟩⟩ : ByteArray).size := hq
      show (if h : q < (⟨⟨A⟩⟩ : ByteArray).size then _ else _ : rd_D Nat) ⟨⟨A⟩⟩ q = _
      rw [dif_pos hq']
      rfl
    · rw [dif_neg hq]
      have hq' : ¬ q < (⟨⟨A⟩⟩ : ByteArray).size := hq
      show (if h : q < (⟨⟨A⟩⟩ : ByteArray).size then _ else _ : rd_D Nat) ⟨⟨A⟩⟩ q = _
      rw [dif_neg hq']
      rfl
  rw [e] at h ⊢
  by_cases hk : k < S.length
  · rw [dif_pos hk] at h
    cases h
    have h1 : (L.drop p)[k]? = some (S[k]) := by rw [hL, List.getElem?_append_left hk, List.getElem?_eq_getElem hk]
    rw [List.getElem?_drop] at h1
    obtain ⟨h2, h3⟩ := List.getElem?_eq_some_iff.mp h1
    rw [dif_pos h2, h3]
    rfl
  · rw [dif_neg hk] at h
    cases h
theorem rd_u2 : rd_L (Jvm.ClassFile.Reader.u2 : rd_D Nat) Jvm.ClassFile.Reader.u2 := rd_bind rd_u1 (fun _ => rd_bind rd_u1 (fun _ => rd_pure _))
theorem rd_u4 : rd_L (Jvm.ClassFile.Reader.u4 : rd_D Nat) Jvm.ClassFile.Reader.u4 := rd_bind rd_u2 (fun _ => rd_bind rd_u2 (fun _ => rd_pure _))
theorem rd_map {α β : Type} {r r' : rd_D α} (f : α → β) (hr : rd_L r r') : rd_L (f <$> r) (f <$> r') := by
  have e : ∀ q : rd_D α, f <$> q = q >>= fun x => pure (f x) := fun q => rfl
  rw [e, e]
  exact rd_bind hr (fun _ => rd_pure _)
theorem rd_s1 : rd_L (Jvm.ClassFile.Reader.s1 : rd_D Int) Jvm.ClassFile.Reader.s1 := rd_map _ rd_u1
theorem rd_s2 : rd_L (Jvm.ClassFile.Reader.s2 : rd_D Int) Jvm.ClassFile.Reader.s2 := rd_map _ rd_u2
theorem rd_s4 : rd_L (Jvm.ClassFile.Reader.s4 : rd_D Int) Jvm.ClassFile.Reader.s4 := rd_map _ rd_u4
theorem rd_throw {α : Type} (x : Jvm.ClassFile.DecodeError) (r : rd_D α) : rd_L (throw x) r := by
  intro L S T p k k' y _ h
  have h : (Except.error x : Except Jvm.ClassFile.DecodeError (α × Nat)) = .ok (y, k') := h
  cases h
theorem rd_newarray (pc pc' : Nat) : rd_L (Jvm.ClassFile.Decoder.newarray pc) (Jvm.ClassFile.Decoder.newarray pc') := by
  unfold Jvm.ClassFile.Decoder.newarray
  refine rd_bind rd_u1 (fun x => ?_)
  split <;> first | exact rd_pure _ | exact rd_throw _ _
set_option maxHeartbeats 4000000 in
set_option maxRecDepth 10000 in
theorem rd_instr (pc pc' : Nat) {L S T : List UInt8} {p k' : Nat} {x : Instr} (hL : L.drop p = S ++ T) (hop : S.head? ≠ some 170 ∧ S.head? ≠ some 171 ∧ S.head? ≠ some 185 ∧ S.head? ≠ some 186 ∧ S.head? ≠ some 196 ∧ S.head? ≠ some 197) (h : Jvm.ClassFile.Reader.runAt (Jvm.ClassFile.Decoder.instr pc) ⟨⟨S⟩⟩ 0 = .ok (x, k')) : Jvm.ClassFile.Reader.runAt (Jvm.ClassFile.Decoder.instr pc') ⟨⟨L⟩⟩ p = .ok (x, p + k') := by
  unfold Jvm.ClassFile.Decoder.instr at h ⊢
  rw [rd_run_b] at h ⊢
  cases hq : Jvm.ClassFile.Reader.runAt (Jvm.ClassFile.Reader.u1 : rd_D Nat) ⟨⟨S⟩⟩ 0 with
  | error e => rw [hq] at h; cases h
  | ok z =>
    obtain ⟨op, k1⟩ := z
    have hz : ∃ b : UInt8, S.head? = some b ∧ op = b.toNat := by
      cases S with
      | nil => cases hq
      | cons b S =>
        have : Except.ok (b.toNat, 1) = (Except.ok (op, k1) : Except Jvm.ClassFile.DecodeError (Nat × Nat)) := hq
        cases this
        exact ⟨b, rfl, rfl⟩
    obtain ⟨b, hb, hb2⟩ := hz
    have hne : ∀ n : UInt8, S.head? ≠ some n → op ≠ n.toNat := fun n hn e => hn (by rw [hb]; congr 1; exact UInt8.toNat_inj.mp (hb2.symm.trans e))
    have n1 := hne 170 hop.1
    have n2 := hne 171 hop.2.1
    have n3 := hne 185 hop.2.2.1
    have n4 := hne 186 hop.2.2.2.1
    have n5 := hne 196 hop.2.2.2.2.1
    have n6 := hne 197 hop.2.2.2.2.2
    rw [hq] at h
    have hu := rd_u1 L S T p 0 k1 op hL hq
    rw [Nat.add_zero] at hu
    rw [hu]
    dsimp only at h ⊢
    clear hu hq hne hb hb2 hop
    split at h <;> first
      | exact rd_pure _ L S T p _ _ _ hL h
      | exact rd_bind rd_u2 (fun _ => rd_pure _) L S T p _ _ _ hL h
      | exact rd_bind rd_s2 (fun _ => rd_pure _) L S T p _ _ _ hL h
      | exact rd_bind rd_u1 (fun _ => rd_pure _) L S T p _ _ _ hL h
      | exact rd_bind rd_s1 (fun _ => rd_pure _) L S T p _ _ _ hL h
      | exact rd_bind rd_u1 (fun _ => rd_bind rd_s1 (fun _ => rd_pure _)) L S T p _ _ _ hL h
      | exact rd_bind rd_s4 (fun _ => rd_pure _) L S T p _ _ _ hL h
      | exact rd_newarray _ _ L S T p _ _ _ hL h
      | exact absurd rfl n1
      | exact absurd rfl n2
      | exact absurd rfl n3
      | exact absurd rfl n4
      | exact absurd rfl n5
      | exact absurd rfl n6
      | exact rd_throw _ _ L S T p _ _ _ hL h
/-- decoding by the bytes from there on -/
theorem rd_decode {L S T : List UInt8} {p n : Nat} {x : Instr} (hL : L.drop p = S ++ T) (hop : S.head? ≠ some 170 ∧ S.head? ≠ some 171 ∧ S.head? ≠ some 185 ∧ S.head? ≠ some 186 ∧ S.head? ≠ some 196 ∧ S.head? ≠ some 197) (h : decode ⟨⟨S⟩⟩ 0 = .ok (x, n)) : decode ⟨⟨L⟩⟩ p = .ok (x, n) := by
  have e : ∀ (A : ByteArray) (q : Nat), decode A q = match Jvm.ClassFile.Reader.runAt (Jvm.ClassFile.Decoder.instr q) A q with
    | .ok (i, nx) => .ok (i, nx - q)
    | .error er => .error er := by
    intro A q
    unfold decode
    cases Jvm.ClassFile.Reader.runAt (Jvm.ClassFile.Decoder.instr q) A q <;> rfl
  rw [e] at h ⊢
  cases hq : Jvm.ClassFile.Reader.runAt (Jvm.ClassFile.Decoder.instr 0) ⟨⟨S⟩⟩ 0 with
  | error er => rw [hq] at h; cases h
  | ok z =>
    obtain ⟨i, k⟩ := z
    rw [hq] at h
    cases h
    rw [rd_instr 0 p hL hop hq]
    dsimp only
    congr 2
    omega
end
