section
/-! THE THIN MACHINE: a plain function that runs a method's decoded instructions over a heap that is a function from addresses to cells. Nothing here speaks of one program: the tables are parameters. -/
abbrev tm_E : Type := (Nat × vp_A) ⊕ (Nat × List Value)
/-- the next address, the slots made so far, the cells -/
abbrev tm_H : Type := Nat × Nat × (Nat → tm_E)
/-- an instruction and two numbers that belong to it -/
abbrev tm_N : Type := Instr × Nat × Nat
/-- a method: name, code, locals, what it returns, the number of its class -/
abbrev tm_M : Type := MethodName × ByteArray × Nat × Option FieldType × Nat
abbrev tm_O : Type := (Nat × List Value × List Value × tm_H) ⊕ (Option Value ⊕ (Nat × List Value × List Value))
def tm_up (f : Nat → tm_E) (a : Nat) (e : tm_E) : Nat → tm_E := fun q => if q = a then e else f q
theorem tm_up_s {f : Nat → tm_E} {a : Nat} {e : tm_E} : tm_up f a e a = e := if_pos rfl
theorem tm_up_n {f : Nat → tm_E} {a b : Nat} {e : tm_E} (h : b ≠ a) : tm_up f a e b = f b := if_neg h
def tm_put (h : tm_H) (a : Nat) (e : tm_E) : tm_H := (h.1, h.2.1, tm_up h.2.2 a e)
def tm_new (h : tm_H) (k : Nat) (e : tm_E) : tm_H := (h.1 + 1, h.2.1 + k, tm_up h.2.2 h.1 e)
/-- the default of a place that holds nothing -/
abbrev tm_z : Value := .retAddr 0
def tm_set1 : List Value → Nat → Value → Option (List Value)
  | [], _, _ => none
  | _ :: t, 0, v => some (v :: t)
  | x :: t, i + 1, v => if i = 0 ∧ x.category = 2 then none else match tm_set1 t i v with
    | some t' => some (x :: t')
    | none => none
def tm_set2 : List Value → Nat → Value → Option (List Value)
  | [], _, _ => none
  | [_], _, _ => none
  | _ :: _ :: t, 0, v => some (v :: tm_z :: t)
  | x :: y :: t, i + 1, v => if i = 0 ∧ x.category = 2 then none else match tm_set2 (y :: t) i v with
    | some t' => some (x :: t')
    | none => none
def tm_ex : List Value → List Value
  | [] => []
  | v :: t => if v.category = 2 then v :: tm_z :: tm_ex t else v :: tm_ex t
def tm_ent (vs : List Value) (n : Nat) : List Value := tm_ex vs ++ List.replicate (n - (tm_ex vs).length) tm_z
def tm_len : Instr → Nat
  | .bipush _ => 2
  | .sipush _ => 3
  | .ldc _ => 2
  | .ldc_w _ => 3
  | .ldc2_w _ => 3
  | .iload _ => 2
  | .lload _ => 2
  | .aload _ => 2
  | .istore _ => 2
  | .lstore _ => 2
  | .astore _ => 2
  | .iinc _ _ => 3
  | .goto _ => 3
  | .ifCond _ _ => 3
  | .if_icmp _ _ => 3
  | .getfield _ => 3
  | .putfield _ => 3
  | .new _ => 3
  | .newarray _ => 2
  | .anewarray _ => 3
  | .invokevirtual _ => 3
  | .invokespecial _ => 3
  | .invokestatic _ => 3
  | .tableswitch _ _ _ _ => 0
  | .lookupswitch _ _ => 0
  | _ => 1
def tm_nx (pc : Nat) (ls st : List Value) (h : tm_H) : Option tm_O := some (.inl (pc, ls, st, h))
def tm_i1 (f : Int32 → Value) (pc : Nat) (ls st : List Value) (h : tm_H) : Option tm_O := match st with
  | .int x :: r => tm_nx (pc + 1) ls (f x :: r) h
  | _ => none
def tm_i2 (f : Int32 → Int32 → Value) (pc : Nat) (ls st : List Value) (h : tm_H) : Option tm_O := match st with
  | .int y :: .int x :: r => tm_nx (pc + 1) ls (f x y :: r) h
  | _ => none
def tm_d2 (f : Int32 → Int32 → Value) (pc : Nat) (ls st : List Value) (h : tm_H) : Option tm_O := match st with
  | .int y :: .int x :: r => if y = 0 then none else tm_nx (pc + 1) ls (f x y :: r) h
  | _ => none
def tm_l1 (f : Int64 → Value) (pc : Nat) (ls st : List Value) (h : tm_H) : Option tm_O := match st with
  | .long x :: r => tm_nx (pc + 1) ls (f x :: r) h
  | _ => none
def tm_l2 (f : Int64 → Int64 → Value) (pc : Nat) (ls st : List Value) (h : tm_H) : Option tm_O := match st with
  | .long y :: .long x :: r => tm_nx (pc + 1) ls (f x y :: r) h
  | _ => none
def tm_e2 (f : Int64 → Int64 → Value) (pc : Nat) (ls st : List Value) (h : tm_H) : Option tm_O := match st with
  | .long y :: .long x :: r => if y = 0 then none else tm_nx (pc + 1) ls (f x y :: r) h
  | _ => none
def tm_s2 (f : Int64 → Int32 → Value) (pc : Nat) (ls st : List Value) (h : tm_H) : Option tm_O := match st with
  | .int y :: .long x :: r => tm_nx (pc + 1) ls (f x y :: r) h
  | _ => none
def tm_ldi (n i pc : Nat) (ls st : List Value) (h : tm_H) : Option tm_O := match ls[i]? with
  | some (.int x) => tm_nx (pc + n) ls (.int x :: st) h
  | _ => none
def tm_ldl (n i pc : Nat) (ls st : List Value) (h : tm_H) : Option tm_O := match ls[i]? with
  | some (.long x) => tm_nx (pc + n) ls (.long x :: st) h
  | _ => none
def tm_lda (n i pc : Nat) (ls st : List Value) (h : tm_H) : Option tm_O := match ls[i]? with
  | some (.ref x) => tm_nx (pc + n) ls (.ref x :: st) h
  | _ => none
def tm_sti (n i pc : Nat) (ls st : List Value) (h : tm_H) : Option tm_O := match st with
  | .int x :: r => match tm_set1 ls i (.int x) with
    | some ls' => tm_nx (pc + n) ls' r h
    | none => none
  | _ => none
def tm_sta (n i pc : Nat) (ls st : List Value) (h : tm_H) : Option tm_O := match st with
  | .ref x :: r => match tm_set1 ls i (.ref x) with
    | some ls' => tm_nx (pc + n) ls' r h
    | none => none
  | _ => none
def tm_stl (n i pc : Nat) (ls st : List Value) (h : tm_H) : Option tm_O := match st with
  | .long x :: r => match tm_set2 ls i (.long x) with
    | some ls' => tm_nx (pc + n) ls' r h
    | none => none
  | _ => none
def tm_inc (i : Nat) (k : Int) (pc : Nat) (ls st : List Value) (h : tm_H) : Option tm_O := match ls[i]? with
  | some (.int x) => match tm_set1 ls i (.int (x + Int32.ofInt k)) with
    | some ls' => tm_nx (pc + 3) ls' st h
    | none => none
  | _ => none
def tm_b1 (c : Jvm.ClassFile.Cond) (x : Int32) (t f : Option tm_O) : Option tm_O := match c with
  | .eq => if x = 0 then t else f
  | .ne => if x = 0 then f else t
  | .lt => if x < 0 then t else f
  | .ge => if 0 ≤ x then t else f
  | .gt => if 0 < x then t else f
  | .le => if x ≤ 0 then t else f
def tm_b2 (c : Jvm.ClassFile.Cond) (x y : Int32) (t f : Option tm_O) : Option tm_O := match c with
  | .eq => if x = y then t else f
  | .ne => if x = y then f else t
  | .lt => if x < y then t else f
  | .ge => if y ≤ x then t else f
  | .gt => if y < x then t else f
  | .le => if x ≤ y then t else f
def tm_jmp (pc : Nat) (off : Int) (ls st : List Value) (h : tm_H) : Option tm_O := if 0 ≤ (pc : Int) + off then tm_nx ((pc : Int) + off).toNat ls st h else none
/-- the tables of a program: instructions, methods, types of fields, fields of a new object, addresses of strings, the script (address, length, contents), methods that are known by what they do -/
abbrev tm_G : Type := (Nat → Nat → Option tm_N) × (Nat → tm_M) × (Nat → Nat → FieldType) × (Nat → List Value) × (Nat → Nat) × (Nat × Nat × (Nat → Int32)) × (Nat → Nat → List Value → tm_H → Option (Option Value × tm_H))
abbrev tm_ft (G : tm_G) : Nat → Nat → Option tm_N := G.1
abbrev tm_mt (G : tm_G) : Nat → tm_M := G.2.1
abbrev tm_fy (G : tm_G) : Nat → Nat → FieldType := G.2.2.1
abbrev tm_dv (G : tm_G) : Nat → List Value := G.2.2.2.1
abbrev tm_sa (G : tm_G) : Nat → Nat := G.2.2.2.2.1
abbrev tm_sc (G : tm_G) : Nat × Nat × (Nat → Int32) := G.2.2.2.2.2.1
abbrev tm_xt (G : tm_G) : Nat → Nat → List Value → tm_H → Option (Option Value × tm_H) := G.2.2.2.2.2.2
def tm_cs (st : List Value) : Nat := (st.map fun v => v.category).sum
def tm_ldc (G : tm_G) (n a b pc : Nat) (ls st : List Value) (h : tm_H) : Option tm_O := if b = 0 then tm_nx (pc + n) ls (.int (Int32.ofNat a) :: st) h else tm_nx (pc + n) ls (.ref (tm_sa G a) :: st) h
def tm_get (ci k pc : Nat) (ls st : List Value) (h : tm_H) : Option tm_O := match st with
  | .ref o :: r => match h.2.2 o with
    | .inr (c, fs) => if c = ci then match fs[k]? with
      | some v => tm_nx (pc + 3) ls (v :: r) h
      | none => none else none
    | _ => none
  | _ => none
def tm_set (G : tm_G) (ci k pc : Nat) (ls st : List Value) (h : tm_H) : Option tm_O := match st with
  | v :: .ref o :: r => match h.2.2 o with
    | .inr (c, fs) => if c = ci ∧ k < fs.length ∧ narrow (tm_fy G ci k) v = v ∧ fits (tm_fy G ci k) v = true then tm_nx (pc + 3) ls r (tm_put h o (.inr (ci, fs.set k v))) else none
    | _ => none
  | _ => none
def tm_ild (G : tm_G) (pc : Nat) (ls st : List Value) (h : tm_H) : Option tm_O := match st with
  | .int i :: .ref a :: r => match h.2.2 a with
    | .inl (0, n, .inl f) => if i < 0 ∨ n ≤ i.toNatClampNeg then none else tm_nx (pc + 1) ls (.int (f i.toNatClampNeg) :: r) h
    | .inl (101, _) => if a = (tm_sc G).1 then (if i < 0 ∨ (tm_sc G).2.1 ≤ i.toNatClampNeg then none else tm_nx (pc + 1) ls (.int ((tm_sc G).2.2 i.toNatClampNeg) :: r) h) else none
    | _ => none
  | _ => none
def tm_bld (pc : Nat) (ls st : List Value) (h : tm_H) : Option tm_O := match st with
  | .int i :: .ref a :: r => match h.2.2 a with
    | .inl (1, n, .inl f) => if i < 0 ∨ n ≤ i.toNatClampNeg then none else tm_nx (pc + 1) ls (.int (f i.toNatClampNeg) :: r) h
    | .inl (4, n, .inl f) => if i < 0 ∨ n ≤ i.toNatClampNeg then none else tm_nx (pc + 1) ls (.int (f i.toNatClampNeg) :: r) h
    | _ => none
  | _ => none
def tm_cld (pc : Nat) (ls st : List Value) (h : tm_H) : Option tm_O := match st with
  | .int i :: .ref a :: r => match h.2.2 a with
    | .inl (2, n, .inl f) => if i < 0 ∨ n ≤ i.toNatClampNeg then none else tm_nx (pc + 1) ls (.int (f i.toNatClampNeg) :: r) h
    | _ => none
  | _ => none
def tm_lld (pc : Nat) (ls st : List Value) (h : tm_H) : Option tm_O := match st with
  | .int i :: .ref a :: r => match h.2.2 a with
    | .inl (3, n, .inr (.inl f)) => if i < 0 ∨ n ≤ i.toNatClampNeg then none else tm_nx (pc + 1) ls (.long (f i.toNatClampNeg) :: r) h
    | _ => none
  | _ => none
def tm_ald (pc : Nat) (ls st : List Value) (h : tm_H) : Option tm_O := match st with
  | .int i :: .ref a :: r => match h.2.2 a with
    | .inl (5, n, .inr (.inr (.inr (.inr f)))) => if i < 0 ∨ n ≤ i.toNatClampNeg then none else tm_nx (pc + 1) ls (va_rf (f i.toNatClampNeg) :: r) h
    | _ => none
  | _ => none
def tm_isr (pc : Nat) (ls st : List Value) (h : tm_H) : Option tm_O := match st with
  | .int x :: .int i :: .ref a :: r => match h.2.2 a with
    | .inl (0, n, .inl f) => if i < 0 ∨ n ≤ i.toNatClampNeg then none else tm_nx (pc + 1) ls r (tm_put h a (.inl (0, n, .inl (upd f i.toNatClampNeg x))))
    | _ => none
  | _ => none
def tm_bsr (pc : Nat) (ls st : List Value) (h : tm_H) : Option tm_O := match st with
  | .int x :: .int i :: .ref a :: r => match h.2.2 a with
    | .inl (1, n, .inl f) => if i < 0 ∨ n ≤ i.toNatClampNeg then none else tm_nx (pc + 1) ls r (tm_put h a (.inl (1, n, .inl (upd f i.toNatClampNeg (vp_nar .byte x)))))
    | .inl (4, n, .inl f) => if i < 0 ∨ n ≤ i.toNatClampNeg then none else tm_nx (pc + 1) ls r (tm_put h a (.inl (4, n, .inl (upd f i.toNatClampNeg (vp_nar .boolean x)))))
    | _ => none
  | _ => none
def tm_csr (pc : Nat) (ls st : List Value) (h : tm_H) : Option tm_O := match st with
  | .int x :: .int i :: .ref a :: r => match h.2.2 a with
    | .inl (2, n, .inl f) => if i < 0 ∨ n ≤ i.toNatClampNeg then none else tm_nx (pc + 1) ls r (tm_put h a (.inl (2, n, .inl (upd f i.toNatClampNeg (vp_nar .char x)))))
    | _ => none
  | _ => none
def tm_lsr (pc : Nat) (ls st : List Value) (h : tm_H) : Option tm_O := match st with
  | .long x :: .int i :: .ref a :: r => match h.2.2 a with
    | .inl (3, n, .inr (.inl f)) => if i < 0 ∨ n ≤ i.toNatClampNeg then none else tm_nx (pc + 1) ls r (tm_put h a (.inl (3, n, .inr (.inl (vp_updL f i.toNatClampNeg x)))))
    | _ => none
  | _ => none
def tm_asr (ci pc : Nat) (ls st : List Value) (h : tm_H) : Option tm_O := match st with
  | .ref v :: .int i :: .ref a :: r => match h.2.2 a, h.2.2 v with
    | .inl (5, n, .inr (.inr (.inr (.inr f)))), .inr (c, _) => if c = ci then (if i < 0 ∨ n ≤ i.toNatClampNeg then none else tm_nx (pc + 1) ls r (tm_put h a (.inl (5, n, .inr (.inr (.inr (.inr (va_up f i.toNatClampNeg (some v))))))))) else none
    | _, _ => none
  | _ => none
def tm_aln (G : tm_G) (pc : Nat) (ls st : List Value) (h : tm_H) : Option tm_O := match st with
  | .ref a :: r => match h.2.2 a with
    | .inl (t, n, _) => if t < 6 then tm_nx (pc + 1) ls (.int (Int32.ofNat n) :: r) h else if t = 101 ∧ a = (tm_sc G).1 then tm_nx (pc + 1) ls (.int (Int32.ofNat (tm_sc G).2.1) :: r) h else none
    | _ => none
  | _ => none
def tm_nar (t : Nat) (z : Nat → (Nat → Int32) ⊕ (Nat → Int64) ⊕ (Nat → UInt32) ⊕ (Nat → UInt64) ⊕ (Nat → Option Nat)) (len pc : Nat) (ls st : List Value) (h : tm_H) : Option tm_O := match st with
  | .int n :: r => if n < 0 ∨ 60000000 < n.toNatClampNeg then none else tm_nx (pc + len) ls (.ref h.1 :: r) (tm_new h n.toNatClampNeg (.inl (t, n.toNatClampNeg, z 0)))
  | _ => none
def tm_pop (n : Nat) (st : List Value) : List Value × List Value := ((st.take n).reverse, st.drop n)
def tm_cv (G : tm_G) (a b : Nat) (st : List Value) (h : tm_H) : Option tm_O := match tm_pop b st with
  | (as, .ref o :: r) => if 1000 ≤ a then (if as.length = b ∧ tm_cs r ≤ 8 then some (.inr (.inr (a, .ref o :: as, r))) else none) else match h.2.2 o with
    | .inr (c, _) => if c = (tm_mt G a).2.2.2.2 ∧ as.length = b ∧ tm_cs r ≤ 8 then some (.inr (.inr (a, .ref o :: as, r))) else none
    | _ => none
  | _ => none
def tm_ci (a b : Nat) (st : List Value) : Option tm_O := match tm_pop b st with
  | (as, .ref o :: r) => if as.length = b ∧ tm_cs r ≤ 8 then some (.inr (.inr (a, .ref o :: as, r))) else none
  | _ => none
def tm_ca (a b : Nat) (st : List Value) : Option tm_O := match tm_pop b st with
  | (as, r) => if as.length = b ∧ tm_cs r ≤ 8 then some (.inr (.inr (a, as, r))) else none
def tm_oi (d pc : Nat) (ls st : List Value) (h : tm_H) : Option tm_O := match st with
  | .ref _ :: r => if 1 ≤ d ∧ tm_cs r ≤ 8 then tm_nx (pc + 3) ls r h else none
  | _ => none
/-- System.arraycopy of ints -/
def tm_cp (d pc : Nat) (ls st : List Value) (h : tm_H) : Option tm_O := match st with
  | .int n :: .int dp :: .ref b :: .int sp :: .ref a :: r => match h.2.2 a, h.2.2 b with
    | .inl (0, n0, .inl f), .inl (0, n1, .inl g) => if 1 ≤ d ∧ tm_cs r ≤ 8 ∧ ¬ sp < 0 ∧ ¬ dp < 0 ∧ ¬ n < 0 ∧ sp.toNatClampNeg + n.toNatClampNeg ≤ n0 ∧ dp.toNatClampNeg + n.toNatClampNeg ≤ n1 then tm_nx (pc + 3) ls r (tm_put h b (.inl (0, n1, .inl (va_cpy f g sp.toNatClampNeg dp.toNatClampNeg n.toNatClampNeg)))) else none
    | _, _ => none
  | _ => none
def tm_mx (d pc : Nat) (ls st : List Value) (h : tm_H) : Option tm_O := match st with
  | .int y :: .int x :: r => if 1 ≤ d ∧ tm_cs r ≤ 8 then tm_nx (pc + 3) ls (.int (if x < y then y else x) :: r) h else none
  | _ => none
def tm_mn (d pc : Nat) (ls st : List Value) (h : tm_H) : Option tm_O := match st with
  | .int y :: .int x :: r => if 1 ≤ d ∧ tm_cs r ≤ 8 then tm_nx (pc + 3) ls (.int (if y < x then y else x) :: r) h else none
  | _ => none
def tm_ab (d pc : Nat) (ls st : List Value) (h : tm_H) : Option tm_O := match st with
  | .int x :: r => if 1 ≤ d ∧ tm_cs r ≤ 8 then tm_nx (pc + 3) ls (.int (if 0 ≤ x then x else 0 - x) :: r) h else none
  | _ => none
def tm_tsw (pc : Nat) (dflt lo hi : Int) (offs : Array Int) (ls st : List Value) (h : tm_H) : Option tm_O := match st with
  | .int x :: r => if x.toInt < lo ∨ hi < x.toInt then tm_jmp pc dflt ls r h else match offs[(x.toInt - lo).toNat]? with
    | some off => tm_jmp pc off ls r h
    | none => none
  | _ => none
def tm_lsw (pc : Nat) (dflt : Int) (ps : Array (Int × Int)) (ls st : List Value) (h : tm_H) : Option tm_O := match st with
  | .int x :: r => if (ps.toList.zip (ps.toList.drop 1)).all (fun (a, next) => a.1 < next.1) = true then tm_jmp pc (Op.lookupswitch.offset ps.toList dflt x.toInt) ls r h else none
  | _ => none
def tm_nw (G : tm_G) (ci pc : Nat) (ls st : List Value) (h : tm_H) : Option tm_O := tm_nx (pc + 3) ls (.ref h.1 :: st) (tm_new h (tm_dv G ci).length (.inr (ci, tm_dv G ci)))
def tm_rt : Nat → FieldType
  | 0 => .int
  | 1 => .boolean
  | 2 => .char
  | 3 => .byte
  | _ => .short
def tm_stp (G : tm_G) (d : Nat) (e : tm_N) (pc : Nat) (ls st : List Value) (h : tm_H) : Option tm_O := match e with
  | (.iconst k, _, _) => tm_nx (pc + 1) ls (.int (Int32.ofInt k) :: st) h
  | (.bipush k, _, _) => tm_nx (pc + 2) ls (.int (Int8.ofInt k).toInt32 :: st) h
  | (.sipush k, _, _) => tm_nx (pc + 3) ls (.int (Int16.ofInt k).toInt32 :: st) h
  | (.lconst k, _, _) => tm_nx (pc + 1) ls (.long (Int64.ofNat k) :: st) h
  | (.ldc _, a, b) => tm_ldc G 2 a b pc ls st h
  | (.ldc_w _, a, b) => tm_ldc G 3 a b pc ls st h
  | (.ldc2_w _, a, _) => tm_nx (pc + 3) ls (.long (Int64.ofNat a) :: st) h
  | (.iload i, _, _) => tm_ldi 2 i pc ls st h
  | (.iload_n i, _, _) => tm_ldi 1 i pc ls st h
  | (.lload i, _, _) => tm_ldl 2 i pc ls st h
  | (.lload_n i, _, _) => tm_ldl 1 i pc ls st h
  | (.aload i, _, _) => tm_lda 2 i pc ls st h
  | (.aload_n i, _, _) => tm_lda 1 i pc ls st h
  | (.istore i, _, _) => tm_sti 2 i pc ls st h
  | (.istore_n i, _, _) => tm_sti 1 i pc ls st h
  | (.lstore i, _, _) => tm_stl 2 i pc ls st h
  | (.lstore_n i, _, _) => tm_stl 1 i pc ls st h
  | (.astore i, _, _) => tm_sta 2 i pc ls st h
  | (.astore_n i, _, _) => tm_sta 1 i pc ls st h
  | (.iinc i k, _, _) => tm_inc i k pc ls st h
  | (.iadd, _, _) => tm_i2 (fun x y => .int (x + y)) pc ls st h
  | (.isub, _, _) => tm_i2 (fun x y => .int (x - y)) pc ls st h
  | (.imul, _, _) => tm_i2 (fun x y => .int (x * y)) pc ls st h
  | (.iand, _, _) => tm_i2 (fun x y => .int (x &&& y)) pc ls st h
  | (.ior, _, _) => tm_i2 (fun x y => .int (x ||| y)) pc ls st h
  | (.ixor, _, _) => tm_i2 (fun x y => .int (x ^^^ y)) pc ls st h
  | (.ishl, _, _) => tm_i2 (fun x y => .int (x <<< (y &&& 31))) pc ls st h
  | (.ishr, _, _) => tm_i2 (fun x y => .int (x >>> (y &&& 31))) pc ls st h
  | (.iushr, _, _) => tm_i2 (fun x y => .int (x.toUInt32 >>> (y.toUInt32 &&& Int32.toUInt32 31)).toInt32) pc ls st h
  | (.idiv, _, _) => tm_d2 (fun x y => .int (x / y)) pc ls st h
  | (.irem, _, _) => tm_d2 (fun x y => .int (x - x / y * y)) pc ls st h
  | (.ineg, _, _) => tm_i1 (fun x => .int (-x)) pc ls st h
  | (.i2l, _, _) => tm_i1 (fun x => .long x.toInt64) pc ls st h
  | (.i2b, _, _) => tm_i1 (fun x => .int x.toInt8.toInt32) pc ls st h
  | (.i2s, _, _) => tm_i1 (fun x => .int x.toInt16.toInt32) pc ls st h
  | (.i2c, _, _) => tm_i1 (fun x => .int (x.toUInt32 % 65536).toInt32) pc ls st h
  | (.l2i, _, _) => tm_l1 (fun x => .int x.toInt32) pc ls st h
  | (.ladd, _, _) => tm_l2 (fun x y => .long (x + y)) pc ls st h
  | (.lmul, _, _) => tm_l2 (fun x y => .long (x * y)) pc ls st h
  | (.land, _, _) => tm_l2 (fun x y => .long (x &&& y)) pc ls st h
  | (.lor, _, _) => tm_l2 (fun x y => .long (x ||| y)) pc ls st h
  | (.lxor, _, _) => tm_l2 (fun x y => .long (x ^^^ y)) pc ls st h
  | (.lcmp, _, _) => tm_l2 (fun x y => .int (lg_cmp x y)) pc ls st h
  | (.ldiv, _, _) => tm_e2 (fun x y => .long (x / y)) pc ls st h
  | (.lrem, _, _) => tm_e2 (fun x y => .long (x - x / y * y)) pc ls st h
  | (.lshl, _, _) => tm_s2 (fun x y => .long (x <<< (y.toInt64 &&& 63))) pc ls st h
  | (.lushr, _, _) => tm_s2 (fun x y => .long (x.toUInt64 >>> (y.toInt64.toUInt64 &&& Int64.toUInt64 63)).toInt64) pc ls st h
  | (.dup, _, _) => match st with
    | v :: r => if v.category = 1 then tm_nx (pc + 1) ls (v :: v :: r) h else none
    | _ => none
  | (.pop, _, _) => match st with
    | v :: r => if v.category = 1 then tm_nx (pc + 1) ls r h else none
    | _ => none
  | (.dup2, _, _) => match st with
    | v :: w :: r => if v.category = 1 ∧ w.category = 1 then tm_nx (pc + 1) ls (v :: w :: v :: w :: r) h else none
    | _ => none
  | (.dup_x1, _, _) => match st with
    | v :: w :: r => if v.category = 1 ∧ w.category = 1 then tm_nx (pc + 1) ls (v :: w :: v :: r) h else none
    | _ => none
  | (.goto _, a, _) => tm_nx a ls st h
  | (.ifCond c _, a, _) => match st with
    | .int x :: r => tm_b1 c x (tm_nx a ls r h) (tm_nx (pc + 3) ls r h)
    | _ => none
  | (.if_icmp c _, a, _) => match st with
    | .int y :: .int x :: r => tm_b2 c x y (tm_nx a ls r h) (tm_nx (pc + 3) ls r h)
    | _ => none
  | (.tableswitch dflt lo hi offs, _, _) => tm_tsw pc dflt lo hi offs ls st h
  | (.lookupswitch dflt ps, _, _) => tm_lsw pc dflt ps ls st h
  | (.getfield _, a, b) => tm_get a b pc ls st h
  | (.putfield _, a, b) => tm_set G a b pc ls st h
  | (.iaload, _, _) => tm_ild G pc ls st h
  | (.baload, _, _) => tm_bld pc ls st h
  | (.caload, _, _) => tm_cld pc ls st h
  | (.laload, _, _) => tm_lld pc ls st h
  | (.aaload, _, _) => tm_ald pc ls st h
  | (.iastore, _, _) => tm_isr pc ls st h
  | (.bastore, _, _) => tm_bsr pc ls st h
  | (.castore, _, _) => tm_csr pc ls st h
  | (.lastore, _, _) => tm_lsr pc ls st h
  | (.aastore, a, _) => tm_asr a pc ls st h
  | (.arraylength, _, _) => tm_aln G pc ls st h
  | (.newarray .int, _, _) => tm_nar 0 (fun _ => .inl (fun _ => 0)) 2 pc ls st h
  | (.newarray .byte, _, _) => tm_nar 1 (fun _ => .inl (fun _ => 0)) 2 pc ls st h
  | (.newarray .char, _, _) => tm_nar 2 (fun _ => .inl (fun _ => 0)) 2 pc ls st h
  | (.newarray .long, _, _) => tm_nar 3 (fun _ => .inr (.inl (fun _ => 0))) 2 pc ls st h
  | (.newarray .boolean, _, _) => tm_nar 4 (fun _ => .inl (fun _ => 0)) 2 pc ls st h
  | (.anewarray _, _, _) => tm_nar 5 (fun _ => .inr (.inr (.inr (.inr (fun _ => none))))) 3 pc ls st h
  | (.new _, a, _) => tm_nw G a pc ls st h
  | (.invokevirtual _, a, b) => tm_cv G a b st h
  | (.invokespecial _, a, b) => if b = 1000 then tm_oi d pc ls st h else tm_ci a b st
  | (.invokestatic _, a, b) => if b = 1000 then tm_cp d pc ls st h else if b = 1001 then tm_mx d pc ls st h else if b = 1002 then tm_mn d pc ls st h else if b = 1003 then tm_ab d pc ls st h else tm_ca a b st
  | (.ireturn, a, _) => match st with
    | [.int v] => if narrow (tm_rt a) (.int v) = .int v then some (.inr (.inl (some (.int v)))) else none
    | _ => none
  | (.lreturn, _, _) => match st with
    | [.long v] => some (.inr (.inl (some (.long v))))
    | _ => none
  | (.areturn, _, _) => match st with
    | [.ref v] => some (.inr (.inl (some (.ref v))))
    | _ => none
  | (.return_, _, _) => match st with
    | [] => some (.inr (.inl none))
    | _ => none
  | _ => none
def tm_run (G : tm_G) : Nat → Nat → Nat → Nat → List Value → List Value → tm_H → Option (Option Value × tm_H)
  | 0, _, _, _, _, _, _ => none
  | n + 1, d, M, pc, ls, st, h => match tm_ft G M pc with
    | none => none
    | some e => match tm_stp G d e pc ls st h with
      | none => none
      | some (.inl (pc', ls', st', h')) => tm_run G n d M pc' ls' st' h'
      | some (.inr (.inl r)) => some (r, h)
      | some (.inr (.inr (mi, as, rest))) => match d with
        | 0 => none
        | d' + 1 => match (if mi < 1000 ∧ (tm_ex as).length ≤ (tm_mt G mi).2.2.1 then tm_run G n d' mi 0 (tm_ent as (tm_mt G mi).2.2.1) [] h else tm_xt G mi d' as h) with
          | none => none
          | some (r, h') => tm_run G n (d' + 1) M (pc + 3) ls (r.toList ++ rest) h'
end
section
/-! the world of the thin machine: its cells as a list, where the machine's heap holds them -/
def tm_ce (tc : Nat → ClassId) : tm_E → va_E
  | .inl (t, x) => .inl (tc t, x)
  | .inr o => .inr o
def tm_WL (lo : Nat) (tc : Nat → ClassId) (h : tm_H) : va_W := (List.range (h.1 - lo)).map (fun i => (lo + i, tm_ce tc (h.2.2 (lo + i))))
theorem tm_WL_i {lo : Nat} {tc : Nat → ClassId} {h : tm_H} {i : Nat} {q : Nat × va_E} (hq : (tm_WL lo tc h)[i]? = some q) : i < h.1 - lo ∧ q = (lo + i, tm_ce tc (h.2.2 (lo + i))) := by
  unfold tm_WL at hq
  rw [List.getElem?_map] at hq
  cases hr : (List.range (h.1 - lo))[i]? with
  | none => rw [hr] at hq; cases hq
  | some j =>
    rw [hr] at hq
    obtain ⟨h1, h2⟩ := List.getElem?_eq_some_iff.mp hr
    rw [List.getElem_range] at h2
    subst h2
    rw [List.length_range] at h1
    exact ⟨h1, (Option.some.inj hq).symm⟩
theorem tm_WL_at {lo : Nat} {tc : Nat → ClassId} {h : tm_H} {a : Nat} (h1 : lo ≤ a) (h2 : a < h.1) : (tm_WL lo tc h)[a - lo]? = some (a, tm_ce tc (h.2.2 a)) := by
  unfold tm_WL
  rw [List.getElem?_map, List.getElem?_range (by omega)]
  simp only [Option.map_some]
  rw [show lo + (a - lo) = a by omega]
theorem tm_WL_len {lo : Nat} {tc : Nat → ClassId} {h : tm_H} : (tm_WL lo tc h).length = h.1 - lo := by simp [tm_WL]
theorem tm_WL_put {lo : Nat} {tc : Nat → ClassId} {h : tm_H} {a : Nat} {e : tm_E} (h1 : lo ≤ a) (_h2 : a < h.1) : (tm_WL lo tc h).set (a - lo) (a, tm_ce tc e) = tm_WL lo tc (tm_put h a e) := by
  apply List.ext_getElem?
  intro i
  rw [List.getElem?_set]
  by_cases hi : a - lo = i
  · subst hi
    rw [if_pos rfl, tm_WL_len, if_pos (by omega)]
    have := tm_WL_at (tc := tc) (h := tm_put h a e) h1 _h2
    rw [this]
    simp [tm_put, tm_up]
  · rw [if_neg hi]
    unfold tm_WL
    rw [List.getElem?_map, List.getElem?_map]
    by_cases hl : i < h.1 - lo
    · rw [List.getElem?_range hl, show (List.range ((tm_put h a e).1 - lo))[i]? = some i from List.getElem?_range hl]
      simp only [Option.map_some, tm_put, tm_up]
      rw [if_neg (by omega)]
    · rw [List.getElem?_eq_none (by simp; omega), List.getElem?_eq_none (by simp [tm_put]; omega)]
      rfl
theorem tm_WL_new {lo : Nat} {tc : Nat → ClassId} {h : tm_H} {k : Nat} {e : tm_E} (h1 : lo ≤ h.1) : tm_WL lo tc h ++ [(h.1, tm_ce tc e)] = tm_WL lo tc (tm_new h k e) := by
  apply List.ext_getElem?
  intro i
  by_cases hl : i < h.1 - lo
  · rw [List.getElem?_append_left (by rw [tm_WL_len]; exact hl)]
    unfold tm_WL
    rw [List.getElem?_map, List.getElem?_map, List.getElem?_range hl, List.getElem?_range (show i < (tm_new h k e).1 - lo by show i < h.1 + 1 - lo; omega)]
    simp only [Option.map_some, tm_new, tm_up]
    rw [if_neg (by omega)]
  · rw [List.getElem?_append_right (by rw [tm_WL_len]; omega), tm_WL_len]
    by_cases he : i = h.1 - lo
    · subst he
      have := tm_WL_at (lo := lo) (tc := tc) (h := tm_new h k e) (a := h.1) h1 (by show h.1 < h.1 + 1; omega)
      rw [this]
      simp [tm_new, tm_up]
    · rw [List.getElem?_eq_none (by simp; omega), List.getElem?_eq_none (by rw [tm_WL_len]; show h.1 + 1 - lo ≤ i; omega)]
theorem tm_WL_D {lo : Nat} {tc : Nat → ClassId} {h : tm_H} : va_D (fun q => lo ≤ q) (tm_WL lo tc h) := by
  refine ⟨fun i j x y hx hy hxy => ?_, fun k q hq => ?_⟩
  · obtain ⟨-, rfl⟩ := tm_WL_i hx
    obtain ⟨-, rfl⟩ := tm_WL_i hy
    dsimp only at hxy
    omega
  · obtain ⟨-, rfl⟩ := tm_WL_i hq
    exact Nat.le_add_right lo k
/-- a cell that is none: nothing of the machine's heap is said of it -/
def tm_gh (e : tm_E) : Prop := ∃ (t : Nat) (x : vp_A), e = .inl (t, x) ∧ 50 ≤ t
/-- the machine's heap holds the thin machine's -/
def tm_HW (D : va_G) (cl : List vw_C) (tc : Nat → ClassId) (lo : Nat) (h : tm_H) (H : Heap) : Prop := lo ≤ h.1 ∧ h.1 ≤ H.size ∧ va_P D cl (tm_WL lo tc h) H ∧ ∀ a, (a < lo ∨ h.1 ≤ a) → tm_gh (h.2.2 a)
theorem tm_HW.lv {D : va_G} {cl : List vw_C} {tc : Nat → ClassId} {lo : Nat} {h : tm_H} {H : Heap} (w : tm_HW D cl tc lo h H) {a : Nat} (hn : ¬ tm_gh (h.2.2 a)) : lo ≤ a ∧ a < h.1 := by
  constructor
  · exact Nat.not_lt.mp fun q => hn (w.2.2.2 a (Or.inl q))
  · exact Nat.not_le.mp fun q => hn (w.2.2.2 a (Or.inr q))
theorem tm_HW.obj {D : va_G} {cl : List vw_C} {tc : Nat → ClassId} {lo : Nat} {h : tm_H} {H : Heap} (w : tm_HW D cl tc lo h H) {a c : Nat} {fs : List Value} (he : h.2.2 a = .inr (c, fs)) : lo ≤ a ∧ a < h.1 ∧ (tm_WL lo tc h)[a - lo]? = some (a, .inr (c, fs)) := by
  have h1 := w.lv (a := a) (by rw [he]; rintro ⟨t, x, e, -⟩; cases e)
  refine ⟨h1.1, h1.2, ?_⟩
  rw [tm_WL_at h1.1 h1.2, he]
  rfl
theorem tm_HW.arr {D : va_G} {cl : List vw_C} {tc : Nat → ClassId} {lo : Nat} {h : tm_H} {H : Heap} (w : tm_HW D cl tc lo h H) {a t : Nat} {x : vp_A} (he : h.2.2 a = .inl (t, x)) (ht : t < 50) : lo ≤ a ∧ a < h.1 ∧ (tm_WL lo tc h)[a - lo]? = some (a, .inl (tc t, x)) := by
  have h1 := w.lv (a := a) (by rw [he]; rintro ⟨t, x, e, h⟩; cases e; omega)
  refine ⟨h1.1, h1.2, ?_⟩
  rw [tm_WL_at h1.1 h1.2, he]
  rfl
theorem tm_HW.put {D : va_G} {cl : List vw_C} {tc : Nat → ClassId} {lo : Nat} {h : tm_H} {H H1 : Heap} (w : tm_HW D cl tc lo h H) {a : Nat} {e : tm_E} (h1 : lo ≤ a) (h2 : a < h.1) (hP : va_P D cl ((tm_WL lo tc h).set (a - lo) (a, tm_ce tc e)) H1) : tm_HW D cl tc lo (tm_put h a e) H1 := by
  rw [tm_WL_put h1 h2] at hP
  refine ⟨w.1, ?_, hP, fun b hb => ?_⟩
  · have := (hP _ _ (tm_WL_at (h := tm_put h a e) (a := h.1 - 1) (by omega) (by show h.1 - 1 < h.1; omega))).lt
    show h.1 ≤ H1.size
    dsimp only at this
    omega
  · show tm_gh (tm_up h.2.2 a e b)
    have hb' : b < lo ∨ h.1 ≤ b := hb
    rw [tm_up_n (by omega)]
    exact w.2.2.2 b hb
theorem tm_HW.new {D : va_G} {cl : List vw_C} {tc : Nat → ClassId} {lo : Nat} {h : tm_H} {H H1 : Heap} (w : tm_HW D cl tc lo h H) {k q : Nat} {e : tm_E} (hP : va_P D cl (tm_WL lo tc h ++ [(q, tm_ce tc e)]) H1) (hD : va_D (fun q => lo ≤ q) (tm_WL lo tc h ++ [(q, tm_ce tc e)])) (hz : H1.size ≤ h.1 + 1) : q = h.1 ∧ tm_HW D cl tc lo (tm_new h k e) H1 := by
  have hq : (tm_WL lo tc h ++ [(q, tm_ce tc e)])[h.1 - lo]? = some (q, tm_ce tc e) := by
    rw [List.getElem?_append_right (by rw [tm_WL_len]; omega), tm_WL_len]
    simp
  have h1 := (hP _ _ hq).lt
  have h2 := hD.2 _ _ hq
  dsimp only at h1 h2
  have hw := w.1
  have hqq : q = h.1 := by
    by_cases hl : q < h.1
    · have h3 : (tm_WL lo tc h ++ [(q, tm_ce tc e)])[q - lo]? = some (q, tm_ce tc (h.2.2 q)) := by
        rw [List.getElem?_append_left (by rw [tm_WL_len]; omega)]
        exact tm_WL_at h2 hl
      have := hD.1 _ _ _ _ h3 hq rfl
      omega
    · omega
  subst hqq
  rw [tm_WL_new (k := k) w.1] at hP
  refine ⟨rfl, Nat.le_succ_of_le w.1, ?_, hP, fun b hb => ?_⟩
  · show h.1 + 1 ≤ H1.size
    omega
  · show tm_gh (tm_up h.2.2 h.1 e b)
    have hb' : b < lo ∨ h.1 + 1 ≤ b := hb
    rw [tm_up_n (by omega)]
    exact w.2.2.2 b (by omega)
/-! locals -/
def tm_pv (i : Nat) (v : Value) : Option (Nat × Value) := match v with
  | .retAddr _ => none
  | v => some (i, v)
theorem tm_pv_i {i j : Nat} {v w : Value} : tm_pv i v = some (j, w) ↔ i = j ∧ v = w ∧ ∀ k, v ≠ .retAddr k := by
  cases v <;> simp [tm_pv]
def tm_pl (ls : List Value) : List (Nat × Value) := (List.range ls.length).filterMap (fun i => ls[i]?.bind (tm_pv i))
theorem tm_pl_in {ls : List Value} {i : Nat} {v : Value} : (i, v) ∈ tm_pl ls ↔ ls[i]? = some v ∧ ∀ k, v ≠ .retAddr k := by
  unfold tm_pl
  rw [List.mem_filterMap]
  constructor
  · rintro ⟨j, hj, h⟩
    cases hv : ls[j]? with
    | none => rw [hv] at h; cases h
    | some w =>
      rw [hv] at h
      obtain ⟨rfl, rfl, h3⟩ := tm_pv_i.mp h
      exact ⟨hv, h3⟩
  · rintro ⟨h1, h2⟩
    refine ⟨i, List.mem_range.mpr (List.getElem?_eq_some_iff.mp h1).1, ?_⟩
    rw [h1]
    exact tm_pv_i.mpr ⟨rfl, rfl, h2⟩
def tm_LR (lsC : Array Slot) (n : Nat) (ls : List Value) : Prop := ls.length = n ∧ lv_has lsC n (tm_pl ls)
theorem tm_LR.at {lsC : Array Slot} {n : Nat} {ls : List Value} (h : tm_LR lsC n ls) {i : Nat} {v : Value} (hi : ls[i]? = some v) (hv : ∀ k, v ≠ .retAddr k) : lsC[i]? = some (.val v) := h.2.2.2 (i, v) (tm_pl_in.mpr ⟨hi, hv⟩)
theorem tm_set1_i : ∀ {ls ls' : List Value} {i : Nat} {v : Value}, tm_set1 ls i v = some ls' → i < ls.length ∧ ls' = ls.set i v ∧ ∀ j w, j + 1 = i → ls[j]? = some w → w.category ≠ 2
  | [], _, _, _, h => by simp [tm_set1] at h
  | x :: t, ls', 0, v, h => by
    simp only [tm_set1, Option.some.injEq] at h
    subst h
    exact ⟨by simp, rfl, fun j w h _ => by omega⟩
  | x :: t, ls', i + 1, v, h => by
    simp only [tm_set1] at h
    split at h
    · cases h
    · rename_i hc
      cases hs : tm_set1 t i v with
      | none => rw [hs] at h; cases h
      | some t' =>
        rw [hs] at h
        cases h
        obtain ⟨h1, h2, h3⟩ := tm_set1_i hs
        refine ⟨by simp; omega, by rw [h2]; rfl, fun j w hj hw => ?_⟩
        cases j with
        | zero =>
          simp only [List.getElem?_cons_zero, Option.some.injEq] at hw
          subst hw
          exact fun e => hc ⟨by omega, e⟩
        | succ j => exact h3 j w (by omega) (by simpa using hw)
theorem tm_set2_i : ∀ {ls ls' : List Value} {i : Nat} {v : Value}, tm_set2 ls i v = some ls' → i + 1 < ls.length ∧ ls' = (ls.set i v).set (i + 1) tm_z ∧ ∀ j w, j + 1 = i → ls[j]? = some w → w.category ≠ 2
  | [], _, _, _, h => by simp [tm_set2] at h
  | [x], _, _, _, h => by simp [tm_set2] at h
  | x :: y :: t, ls', 0, v, h => by
    simp only [tm_set2, Option.some.injEq] at h
    subst h
    exact ⟨by simp, rfl, fun j w h _ => by omega⟩
  | x :: y :: t, ls', i + 1, v, h => by
    simp only [tm_set2] at h
    split at h
    · cases h
    · rename_i hc
      cases hs : tm_set2 (y :: t) i v with
      | none => rw [hs] at h; cases h
      | some t' =>
        rw [hs] at h
        cases h
        obtain ⟨h1, h2, h3⟩ := tm_set2_i hs
        refine ⟨by simp only [List.length_cons] at h1 ⊢; omega, by rw [h2]; rfl, fun j w hj hw => ?_⟩
        cases j with
        | zero =>
          simp only [List.getElem?_cons_zero, Option.some.injEq] at hw
          subst hw
          exact fun e => hc ⟨by omega, e⟩
        | succ j => exact h3 j w (by omega) (by simpa using hw)
theorem tm_LR.set1 {lsC : Array Slot} {n : Nat} {ls ls' : List Value} (h : tm_LR lsC n ls) {i : Nat} {v : Value} (hs : tm_set1 ls i v = some ls') {lsD : Array Slot} (hD : lv_has lsD n ((i, v) :: (tm_pl ls).filter (fun q => !(q.1 == i) && !(q.1 + 1 == i && q.2.category == 2)))) : tm_LR lsD n ls' := by
  obtain ⟨h1, rfl, h3⟩ := tm_set1_i hs
  refine ⟨by rw [List.length_set]; exact h.1, hD.1, hD.2.1, ?_⟩
  rintro ⟨j, w⟩ hq
  obtain ⟨g1, g2⟩ := tm_pl_in.mp hq
  apply hD.2.2
  rw [List.getElem?_set] at g1
  by_cases hj : i = j
  · subst hj
    rw [if_pos rfl, if_pos h1] at g1
    cases g1
    exact List.mem_cons_self
  · rw [if_neg hj] at g1
    refine List.mem_cons_of_mem _ (List.mem_filter.mpr ⟨tm_pl_in.mpr ⟨g1, g2⟩, ?_⟩)
    have h4 : (j == i) = false := by simpa using fun e : j = i => hj e.symm
    dsimp only
    rw [h4]
    by_cases hk : j + 1 = i
    · have := h3 j w hk g1
      simp [this]
    · simp [hk]
theorem tm_LR.set2 {lsC : Array Slot} {n : Nat} {ls ls' : List Value} (h : tm_LR lsC n ls) {i : Nat} {v : Value} (hs : tm_set2 ls i v = some ls') {lsD : Array Slot} (hD : lv_has lsD n ((i, v) :: (tm_pl ls).filter (fun q => !(q.1 == i) && (!(q.1 == i + 1) && !(q.1 + 1 == i && q.2.category == 2))))) : tm_LR lsD n ls' := by
  obtain ⟨h1, rfl, h3⟩ := tm_set2_i hs
  refine ⟨by rw [List.length_set, List.length_set]; exact h.1, hD.1, hD.2.1, ?_⟩
  rintro ⟨j, w⟩ hq
  obtain ⟨g1, g2⟩ := tm_pl_in.mp hq
  apply hD.2.2
  rw [List.getElem?_set] at g1
  by_cases hj1 : i + 1 = j
  · subst hj1
    rw [if_pos rfl, if_pos (by rw [List.length_set]; exact h1)] at g1
    cases g1
    exact absurd rfl (g2 0)
  rw [if_neg hj1, List.getElem?_set] at g1
  by_cases hj : i = j
  · subst hj
    rw [if_pos rfl, if_pos (by omega)] at g1
    cases g1
    exact List.mem_cons_self
  · rw [if_neg hj] at g1
    refine List.mem_cons_of_mem _ (List.mem_filter.mpr ⟨tm_pl_in.mpr ⟨g1, g2⟩, ?_⟩)
    have h4 : (j == i) = false := by simpa using fun e : j = i => hj e.symm
    have h5 : (j == i + 1) = false := by simpa using fun e : j = i + 1 => hj1 e.symm
    dsimp only
    rw [h4, h5]
    by_cases hk : j + 1 = i
    · have := h3 j w hk g1
      simp [this]
    · simp [hk]
theorem tm_ex_len (vs : List Value) : (lg_sl vs).length = (tm_ex vs).length := by
  induction vs with
  | nil => rfl
  | cons v t ih =>
    have e : lg_sl (v :: t) = (if v.category = 2 then [.val v, .second] else [.val v]) ++ lg_sl t := by simp only [lg_sl, List.flatMap_cons]
    have e2 : tm_ex (v :: t) = if v.category = 2 then v :: tm_z :: tm_ex t else v :: tm_ex t := rfl
    rw [e, e2, List.length_append, ih]
    by_cases h : v.category = 2
    · rw [if_pos h, if_pos h]
      simp only [List.length_cons, List.length_nil]
      omega
    · rw [if_neg h, if_neg h]
      simp only [List.length_cons, List.length_nil]
      omega
theorem tm_ex_in : ∀ (vs : List Value) (k i : Nat) (v : Value), (tm_ex vs)[i]? = some v → (∀ n, v ≠ .retAddr n) → (k + i, v) ∈ lv_args k vs
  | [], k, i, v, h, _ => by simp [tm_ex] at h
  | x :: t, k, i, v, h, hv => by
    unfold tm_ex at h
    unfold lv_args
    by_cases hc : x.category = 2
    · rw [if_pos hc] at h ⊢
      match i, h with
      | 0, h => simp only [List.getElem?_cons_zero, Option.some.injEq] at h; subst h; exact List.mem_cons_self
      | 1, h => simp only [List.getElem?_cons_succ, List.getElem?_cons_zero, Option.some.injEq] at h; exact absurd h.symm (hv 0)
      | i + 2, h =>
        have := tm_ex_in t (k + 2) i v (by simpa using h) hv
        rw [show k + (i + 2) = k + 2 + i by omega]
        exact List.mem_cons_of_mem _ this
    · rw [if_neg hc] at h ⊢
      match i, h with
      | 0, h => simp only [List.getElem?_cons_zero, Option.some.injEq] at h; subst h; exact List.mem_cons_self
      | i + 1, h =>
        have := tm_ex_in t (k + 1) i v (by simpa using h) hv
        rw [show k + (i + 1) = k + 1 + i by omega]
        exact List.mem_cons_of_mem _ this
theorem tm_LR.ent {vs : List Value} {n : Nat} (h : (tm_ex vs).length ≤ n) : tm_LR ((lg_sl vs ++ List.replicate (n - (lg_sl vs).length) Slot.unset).toArray) n (tm_ent vs n) := by
  have hl := lv_entry vs (n := n) (by rw [tm_ex_len]; exact h)
  refine ⟨by simp [tm_ent]; omega, hl.1, hl.2.1, ?_⟩
  rintro ⟨j, w⟩ hq
  obtain ⟨g1, g2⟩ := tm_pl_in.mp hq
  apply hl.2.2
  unfold tm_ent at g1
  by_cases hj : j < (tm_ex vs).length
  · rw [List.getElem?_append_left hj] at g1
    have := tm_ex_in vs 0 j w g1 g2
    rwa [Nat.zero_add] at this
  · rw [List.getElem?_append_right (by omega), List.getElem?_replicate] at g1
    split at g1
    · cases g1
      exact absurd rfl (g2 0)
    · cases g1
end
section
/-! a step of the thin machine is a step of the machine -/
def tm_tys (K : String) (tc : Nat → ClassId) : List (ClassId × FieldType) := [(tc 0, .int), (tc 1, .byte), (tc 2, .char), (tc 3, .long), (tc 4, .boolean), (tc 5, .object K)]
/-- what is known where method M runs: the machine, its code, the words, the classes -/
def tm_C (G : tm_G) (cl : List vw_C) (tbl : List Cond) (D : va_G) (tc : Nat → ClassId) (lo : Nat) (K : String) (EX : State → Prop) (M : Nat) (p : Program) (s : State) (m : MethodId) (args : Array Value) (meth : Method) (c : Code) : Prop :=
  p.tables.exec = Jvm.exec ∧ c.code = (tm_mt G M).2.1 ∧ c.maxLocals = (tm_mt G M).2.2.1 ∧ meth.sig.returnType = (tm_mt G M).2.2.2.1 ∧ s.vm.findClass (tm_mt G M).1.cls = some m.cls ∧ (∀ w ∈ tbl, w.before args s = true) ∧ va_K D cl (tm_tys K tc) s ∧ meth.locks = false ∧ meth.name = (tm_mt G M).1.name ∧ lo ≤ s.heap.size ∧ EX s
def tm_okf (cl : List vw_C) (tbl : List Cond) (own : String) (i a b : Nat) : Prop := ∃ (C : String) (T : u_T) (N : Nat), cl[a]? = some (C, T, N) ∧ b < N ∧ (∀ w ∈ u_ws C T N, w ∈ tbl) ∧ Cond.fieldLink own i (T b).1 (T b).2.1 (T b).2.2.1 ∈ tbl
def tm_okp (G : tm_G) (cl : List vw_C) (tbl : List Cond) (y : MethodName) (i a b : Nat) : Prop := ∃ (C : String) (T : u_T) (N : Nat), cl[a]? = some (C, T, N) ∧ b < N ∧ (∀ w ∈ u_ws C T N, w ∈ tbl) ∧ Cond.fieldLink y.cls i (T b).1 (T b).2.1 (T b).2.2.1 ∈ tbl ∧
  (∀ k, k < N → parseFieldDescriptor (T k).2.2.1 = some (tm_fy G a k)) ∧ (∀ a, a < N → ∀ b, b < N → a ≠ b → (T a).2.1 ≠ (T b).2.1) ∧ ((T b).2.2.2 = false ∨ ((T b).2.2.2 = true ∧ y.name = "<init>" ∧ (T b).1 = y.cls))
def tm_okn (G : tm_G) (cl : List vw_C) (tbl : List Cond) (own : String) (i a : Nat) : Prop := ∃ (C : String) (T : u_T) (N : Nat), cl[a]? = some (C, T, N) ∧ (∀ w ∈ u_ws C T N, w ∈ tbl) ∧ Cond.classLink own i C ∈ tbl ∧ Cond.instantiable C N ∈ tbl ∧ Cond.initialized C ∈ tbl ∧
  (∀ k, k < N → parseFieldDescriptor (T k).2.2.1 = some (tm_fy G a k)) ∧ (tm_dv G a).length = N ∧ ∀ j, j < N → defaultValue (tm_fy G a j) = vp_V (tm_dv G a) j
/-- what a call's method must be -/
def tm_okc (G : tm_G) (tbl : List Cond) (a b : Nat) : Prop := Cond.code (tm_mt G a).1 (tm_mt G a).2.1 (tm_mt G a).2.2.1 (tm_mt G a).2.2.2.1 ∈ tbl ∧ Cond.initialized (tm_mt G a).1.cls ∈ tbl ∧ (tm_mt G a).1.cls ≠ "java/lang/invoke/MethodHandle" ∧ (tm_mt G a).1.cls ≠ "java/lang/invoke/VarHandle" ∧ (parseMethodDescriptor (tm_mt G a).1.desc).map (fun d => d.parameters.length) = some b ∧ (tm_mt G a).2.2.1 ≤ 22
/-- the link of a call: among the words, or between nest mates -/
def tm_okl (tbl : List Cond) (EX : State → Prop) (own : String) (i : Nat) (y : MethodName) : Prop := Cond.methodLink own i y ∈ tbl ∨ ∃ host, ∀ s, EX s → va_Nw (.methodLinkNest own i y host) s
def tm_okm (tbl : List Cond) (own : String) (i : Nat) (y : MethodName) (cd : ByteArray) (n : Nat) : Prop := Cond.methodLink own i y ∈ tbl ∧ Cond.static y ∈ tbl ∧ Cond.initialized "java/lang/Math" ∈ tbl ∧ Cond.code y cd n (some .int) ∈ tbl
def tm_okr (G : tm_G) (cl : List vw_C) (tbl : List Cond) (K : String) (EX : State → Prop) (M pc : Nat) (e : tm_N) : Prop := match e with
  | (.ldc i, a, b) => (b = 0 → Jvm.Cond.constant (tm_mt G M).1.cls i (Int32.ofNat a) ∈ tbl) ∧ (b ≠ 0 → ∃ tx, ∀ s, EX s → vk_R (tm_mt G M).1.cls i tx (tm_sa G a) s)
  | (.ldc_w i, a, b) => (b = 0 → Jvm.Cond.constant (tm_mt G M).1.cls i (Int32.ofNat a) ∈ tbl) ∧ (b ≠ 0 → ∃ tx, ∀ s, EX s → vk_R (tm_mt G M).1.cls i tx (tm_sa G a) s)
  | (.ldc2_w i, a, _) => Jvm.Cond.constantLong (tm_mt G M).1.cls i (Int64.ofNat a) ∈ tbl
  | (.goto off, a, _) => (pc : Int) + off = (a : Int)
  | (.ifCond _ off, a, _) => (pc : Int) + off = (a : Int)
  | (.if_icmp _ off, a, _) => (pc : Int) + off = (a : Int)
  | (.getfield i, a, b) => tm_okf cl tbl (tm_mt G M).1.cls i a b
  | (.putfield i, a, b) => tm_okp G cl tbl (tm_mt G M).1 i a b
  | (.aastore, a, _) => ∃ r : vw_C, cl[a]? = some r ∧ r.1 = K
  | (.newarray t, _, _) => Cond.arrayClass (newarray.typeOf t) ∈ tbl
  | (.anewarray i, _, _) => Cond.classLink (tm_mt G M).1.cls i K ∈ tbl ∧ ∀ s, EX s → va_AO K s
  | (.new i, a, _) => tm_okn G cl tbl (tm_mt G M).1.cls i a
  | (.invokevirtual i, a, b) => if 1000 ≤ a then True else tm_okc G tbl a b ∧ Cond.methodLink (tm_mt G M).1.cls i (tm_mt G a).1 ∈ tbl ∧ Cond.instanceMethod (tm_mt G a).1 ∈ tbl ∧ Cond.selects (tm_mt G a).1.cls (tm_mt G a).1 (tm_mt G a).1 ∈ tbl ∧ ∃ (T : u_T) (N : Nat), cl[(tm_mt G a).2.2.2.2]? = some ((tm_mt G a).1.cls, T, N)
  | (.invokespecial i, a, b) => if b = 1000 then (Cond.methodLink (tm_mt G M).1.cls i Lib.objectInit ∈ tbl ∧ Cond.instanceMethod Lib.objectInit ∈ tbl ∧ Cond.code Lib.objectInit ⟨#[0xb1]⟩ 1 none ∈ tbl) else
      tm_okc G tbl a b ∧ tm_okl tbl EX (tm_mt G M).1.cls i (tm_mt G a).1 ∧ (tm_mt G a).1.name = "<init>" ∧ Cond.instanceMethod (tm_mt G a).1 ∈ tbl ∧ (tm_mt G a).2.2.2.1 = none
  | (.invokestatic i, a, b) => if b = 1000 then (Cond.methodLink (tm_mt G M).1.cls i arraycopyName ∈ tbl ∧ Cond.native arraycopyName ∈ tbl ∧ Cond.static arraycopyName ∈ tbl ∧ Cond.initialized "java/lang/System" ∈ tbl) else if b = 1001 then tm_okm tbl (tm_mt G M).1.cls i Lib.Math.max.name Lib.Math.max.code 2 else if b = 1002 then tm_okm tbl (tm_mt G M).1.cls i Lib.Math.min.name Lib.Math.min.code 2 else if b = 1003 then tm_okm tbl (tm_mt G M).1.cls i Lib.Math.abs.name Lib.Math.abs.code 1 else if 1000 ≤ a then True else
      tm_okc G tbl a b ∧ tm_okl tbl EX (tm_mt G M).1.cls i (tm_mt G a).1 ∧ Cond.static (tm_mt G a).1 ∈ tbl
  | (.ireturn, a, _) => (tm_mt G M).2.2.2.1 = some (tm_rt a)
  | (.lreturn, _, _) => (tm_mt G M).2.2.2.1 = some .long
  | (.areturn, _, _) => ∃ rt, (tm_mt G M).2.2.2.1 = some rt ∧ ((∃ n, rt = .object n) ∨ ∃ t, rt = .array t)
  | (.return_, _, _) => (tm_mt G M).2.2.2.1 = none
  | _ => True
def tm_ok (G : tm_G) (cl : List vw_C) (tbl : List Cond) (K : String) (EX : State → Prop) (M pc : Nat) (e : tm_N) : Prop :=
  (∃ n, decode (tm_mt G M).2.1 pc = .ok (e.1, n) ∧ (tm_len e.1 = 0 ∨ n = tm_len e.1)) ∧ tm_okr G cl tbl K EX M pc e
section TMS
variable {p : Program} {l : Launch} {e : Env} {R : Room} {s : State} {m : MethodId} {args : Array Value} {below : List Frame} {meth : Method} {c : Code} {H : Heap} {locs : List Loc} {cells slots : Nat} {Q : State → Prop}
variable {cc : ByteArray} {pc : Nat} {lsC : Array Slot}
variable {G : tm_G} {cl : List vw_C} {tbl : List Cond} {D : va_G} {tc : Nat → ClassId} {lo : Nat} {K : String} {EX : State → Prop} {M d pc' nL : Nat} {ls ls' st st' : List Value} {h h1 : tm_H}
/-- the heap is no larger than what was made -/
theorem tm_size {g : JFrame} (hz : h.1 = s.heap.size + cells) (hw : tm_HW D cl tc lo h H) (k : H.size = h.1 → W p l e R s m args below meth c H locs cells slots Q g) : W p l e R s m args below meth c H locs cells slots Q g := by
  intro T hT X
  have h1 : (T.setVm s.vm).heap.size ≤ s.heap.size + cells := X.same.2.2.1
  have h2 : T.heap.size ≤ s.heap.size + cells := h1
  refine k ?_ T hT X
  have := hw.2.1
  rw [hT] at h2
  omega
theorem tm_i1_r {f : Int32 → Value} (row : ∀ (x : Int32) (r : List Value), W p l e R s m args below meth c H locs cells slots Q (F0 m (pc + 1) lsC (f x :: r)) → W p l e R s m args below meth c H locs cells slots Q (F0 m pc lsC (.int x :: r))) (hs : tm_i1 f pc ls st h = some (.inl (pc', ls', st', h1))) (kk : h1 = h → ls' = ls → W p l e R s m args below meth c H locs cells slots Q (F0 m pc' lsC st')) : W p l e R s m args below meth c H locs cells slots Q (F0 m pc lsC st) := by
  unfold tm_i1 at hs
  split at hs
  · cases hs
    exact row _ _ (kk rfl rfl)
  · cases hs
theorem tm_i2_r {f : Int32 → Int32 → Value} (row : ∀ (x y : Int32) (r : List Value), W p l e R s m args below meth c H locs cells slots Q (F0 m (pc + 1) lsC (f x y :: r)) → W p l e R s m args below meth c H locs cells slots Q (F0 m pc lsC (.int y :: .int x :: r))) (hs : tm_i2 f pc ls st h = some (.inl (pc', ls', st', h1))) (kk : h1 = h → ls' = ls → W p l e R s m args below meth c H locs cells slots Q (F0 m pc' lsC st')) : W p l e R s m args below meth c H locs cells slots Q (F0 m pc lsC st) := by
  unfold tm_i2 at hs
  split at hs
  · cases hs
    exact row _ _ _ (kk rfl rfl)
  · cases hs
theorem tm_d2_r {f : Int32 → Int32 → Value} (row : ∀ (x y : Int32) (r : List Value), ¬ y = 0 → W p l e R s m args below meth c H locs cells slots Q (F0 m (pc + 1) lsC (f x y :: r)) → W p l e R s m args below meth c H locs cells slots Q (F0 m pc lsC (.int y :: .int x :: r))) (hs : tm_d2 f pc ls st h = some (.inl (pc', ls', st', h1))) (kk : h1 = h → ls' = ls → W p l e R s m args below meth c H locs cells slots Q (F0 m pc' lsC st')) : W p l e R s m args below meth c H locs cells slots Q (F0 m pc lsC st) := by
  unfold tm_d2 at hs
  split at hs
  · split at hs
    · cases hs
    · rename_i hy
      cases hs
      exact row _ _ _ hy (kk rfl rfl)
  · cases hs
theorem tm_l1_r {f : Int64 → Value} (row : ∀ (x : Int64) (r : List Value), W p l e R s m args below meth c H locs cells slots Q (F0 m (pc + 1) lsC (f x :: r)) → W p l e R s m args below meth c H locs cells slots Q (F0 m pc lsC (.long x :: r))) (hs : tm_l1 f pc ls st h = some (.inl (pc', ls', st', h1))) (kk : h1 = h → ls' = ls → W p l e R s m args below meth c H locs cells slots Q (F0 m pc' lsC st')) : W p l e R s m args below meth c H locs cells slots Q (F0 m pc lsC st) := by
  unfold tm_l1 at hs
  split at hs
  · cases hs
    exact row _ _ (kk rfl rfl)
  · cases hs
theorem tm_l2_r {f : Int64 → Int64 → Value} (row : ∀ (x y : Int64) (r : List Value), W p l e R s m args below meth c H locs cells slots Q (F0 m (pc + 1) lsC (f x y :: r)) → W p l e R s m args below meth c H locs cells slots Q (F0 m pc lsC (.long y :: .long x :: r))) (hs : tm_l2 f pc ls st h = some (.inl (pc', ls', st', h1))) (kk : h1 = h → ls' = ls → W p l e R s m args below meth c H locs cells slots Q (F0 m pc' lsC st')) : W p l e R s m args below meth c H locs cells slots Q (F0 m pc lsC st) := by
  unfold tm_l2 at hs
  split at hs
  · cases hs
    exact row _ _ _ (kk rfl rfl)
  · cases hs
theorem tm_e2_r {f : Int64 → Int64 → Value} (row : ∀ (x y : Int64) (r : List Value), ¬ y = 0 → W p l e R s m args below meth c H locs cells slots Q (F0 m (pc + 1) lsC (f x y :: r)) → W p l e R s m args below meth c H locs cells slots Q (F0 m pc lsC (.long y :: .long x :: r))) (hs : tm_e2 f pc ls st h = some (.inl (pc', ls', st', h1))) (kk : h1 = h → ls' = ls → W p l e R s m args below meth c H locs cells slots Q (F0 m pc' lsC st')) : W p l e R s m args below meth c H locs cells slots Q (F0 m pc lsC st) := by
  unfold tm_e2 at hs
  split at hs
  · split at hs
    · cases hs
    · rename_i hy
      cases hs
      exact row _ _ _ hy (kk rfl rfl)
  · cases hs
theorem tm_s2_r {f : Int64 → Int32 → Value} (row : ∀ (x : Int64) (y : Int32) (r : List Value), W p l e R s m args below meth c H locs cells slots Q (F0 m (pc + 1) lsC (f x y :: r)) → W p l e R s m args below meth c H locs cells slots Q (F0 m pc lsC (.int y :: .long x :: r))) (hs : tm_s2 f pc ls st h = some (.inl (pc', ls', st', h1))) (kk : h1 = h → ls' = ls → W p l e R s m args below meth c H locs cells slots Q (F0 m pc' lsC st')) : W p l e R s m args below meth c H locs cells slots Q (F0 m pc lsC st) := by
  unfold tm_s2 at hs
  split at hs
  · cases hs
    exact row _ _ _ (kk rfl rfl)
  · cases hs
theorem tm_ldi_r {n i : Nat} (hL : tm_LR lsC nL ls) (row : ∀ (x : Int32) (r : List Value), lsC[i]? = some (.val (.int x)) → W p l e R s m args below meth c H locs cells slots Q (F0 m (pc + n) lsC (.int x :: r)) → W p l e R s m args below meth c H locs cells slots Q (F0 m pc lsC r)) (hs : tm_ldi n i pc ls st h = some (.inl (pc', ls', st', h1))) (kk : h1 = h → ls' = ls → W p l e R s m args below meth c H locs cells slots Q (F0 m pc' lsC st')) : W p l e R s m args below meth c H locs cells slots Q (F0 m pc lsC st) := by
  unfold tm_ldi at hs
  split at hs
  · rename_i hi
    cases hs
    exact row _ _ (hL.at hi (fun k q => by cases q)) (kk rfl rfl)
  · cases hs
theorem tm_ldl_r {n i : Nat} (hL : tm_LR lsC nL ls) (row : ∀ (x : Int64) (r : List Value), lsC[i]? = some (.val (.long x)) → W p l e R s m args below meth c H locs cells slots Q (F0 m (pc + n) lsC (.long x :: r)) → W p l e R s m args below meth c H locs cells slots Q (F0 m pc lsC r)) (hs : tm_ldl n i pc ls st h = some (.inl (pc', ls', st', h1))) (kk : h1 = h → ls' = ls → W p l e R s m args below meth c H locs cells slots Q (F0 m pc' lsC st')) : W p l e R s m args below meth c H locs cells slots Q (F0 m pc lsC st) := by
  unfold tm_ldl at hs
  split at hs
  · rename_i hi
    cases hs
    exact row _ _ (hL.at hi (fun k q => by cases q)) (kk rfl rfl)
  · cases hs
theorem tm_lda_r {n i : Nat} (hL : tm_LR lsC nL ls) (row : ∀ (x : Nat) (r : List Value), lsC[i]? = some (.val (.ref x)) → W p l e R s m args below meth c H locs cells slots Q (F0 m (pc + n) lsC (.ref x :: r)) → W p l e R s m args below meth c H locs cells slots Q (F0 m pc lsC r)) (hs : tm_lda n i pc ls st h = some (.inl (pc', ls', st', h1))) (kk : h1 = h → ls' = ls → W p l e R s m args below meth c H locs cells slots Q (F0 m pc' lsC st')) : W p l e R s m args below meth c H locs cells slots Q (F0 m pc lsC st) := by
  unfold tm_lda at hs
  split at hs
  · rename_i hi
    cases hs
    exact row _ _ (hL.at hi (fun k q => by cases q)) (kk rfl rfl)
  · cases hs
theorem tm_sti_r {n i : Nat} (hL : tm_LR lsC nL ls) (row : ∀ (x : Int32) (r : List Value), i < nL → (∀ lsD : Array Slot, lv_has lsD nL ((i, Value.int x) :: (tm_pl ls).filter (fun q => !(q.1 == i) && !(q.1 + 1 == i && q.2.category == 2))) → W p l e R s m args below meth c H locs cells slots Q (F0 m (pc + n) lsD r)) → W p l e R s m args below meth c H locs cells slots Q (F0 m pc lsC (.int x :: r))) (hs : tm_sti n i pc ls st h = some (.inl (pc', ls', st', h1))) (kk : ∀ lsD, h1 = h → tm_LR lsD nL ls' → W p l e R s m args below meth c H locs cells slots Q (F0 m pc' lsD st')) : W p l e R s m args below meth c H locs cells slots Q (F0 m pc lsC st) := by
  unfold tm_sti at hs
  split at hs
  · split at hs
    · rename_i hi
      cases hs
      exact row _ _ (by rw [← hL.1]; exact (tm_set1_i hi).1) (fun lsD hD => kk lsD rfl (hL.set1 hi hD))
    · cases hs
  · cases hs
theorem tm_sta_r {n i : Nat} (hL : tm_LR lsC nL ls) (row : ∀ (x : Nat) (r : List Value), i < nL → (∀ lsD : Array Slot, lv_has lsD nL ((i, Value.ref x) :: (tm_pl ls).filter (fun q => !(q.1 == i) && !(q.1 + 1 == i && q.2.category == 2))) → W p l e R s m args below meth c H locs cells slots Q (F0 m (pc + n) lsD r)) → W p l e R s m args below meth c H locs cells slots Q (F0 m pc lsC (.ref x :: r))) (hs : tm_sta n i pc ls st h = some (.inl (pc', ls', st', h1))) (kk : ∀ lsD, h1 = h → tm_LR lsD nL ls' → W p l e R s m args below meth c H locs cells slots Q (F0 m pc' lsD st')) : W p l e R s m args below meth c H locs cells slots Q (F0 m pc lsC st) := by
  unfold tm_sta at hs
  split at hs
  · split at hs
    · rename_i hi
      cases hs
      exact row _ _ (by rw [← hL.1]; exact (tm_set1_i hi).1) (fun lsD hD => kk lsD rfl (hL.set1 hi hD))
    · cases hs
  · cases hs
theorem tm_stl_r {n i : Nat} (hL : tm_LR lsC nL ls) (row : ∀ (x : Int64) (r : List Value), i + 1 < nL → (∀ lsD : Array Slot, lv_has lsD nL ((i, Value.long x) :: (tm_pl ls).filter (fun q => !(q.1 == i) && (!(q.1 == i + 1) && !(q.1 + 1 == i && q.2.category == 2)))) → W p l e R s m args below meth c H locs cells slots Q (F0 m (pc + n) lsD r)) → W p l e R s m args below meth c H locs cells slots Q (F0 m pc lsC (.long x :: r))) (hs : tm_stl n i pc ls st h = some (.inl (pc', ls', st', h1))) (kk : ∀ lsD, h1 = h → tm_LR lsD nL ls' → W p l e R s m args below meth c H locs cells slots Q (F0 m pc' lsD st')) : W p l e R s m args below meth c H locs cells slots Q (F0 m pc lsC st) := by
  unfold tm_stl at hs
  split at hs
  · split at hs
    · rename_i hi
      cases hs
      exact row _ _ (by rw [← hL.1]; exact (tm_set2_i hi).1) (fun lsD hD => kk lsD rfl (hL.set2 hi hD))
    · cases hs
  · cases hs
theorem tm_inc_r {i : Nat} {k : Int} (hx : p.tables.exec = Jvm.exec) (hb : c.code = cc) (hd : decode cc pc = .ok (.iinc i k, 3)) (hL : tm_LR lsC nL ls) (hs : tm_inc i k pc ls st h = some (.inl (pc', ls', st', h1))) (kk : ∀ lsD, h1 = h → tm_LR lsD nL ls' → W p l e R s m args below meth c H locs cells slots Q (F0 m pc' lsD st')) : W p l e R s m args below meth c H locs cells slots Q (F0 m pc lsC st) := by
  unfold tm_inc at hs
  split at hs
  · rename_i x hi
    split at hs
    · rename_i hq
      cases hs
      obtain ⟨j, hj⟩ := List.getElem?_of_mem (tm_pl_in.mpr ⟨hi, fun k q => by cases q⟩)
      exact lv_iinc hx hb hd hL.2 hj rfl (by rw [← hL.1]; exact (tm_set1_i hq).1) rfl (fun lsD hD => kk lsD rfl (hL.set1 hq hD))
    · cases hs
  · cases hs
end TMS
end
section
section TMH
variable {p : Program} {l : Launch} {e : Env} {R : Room} {s : State} {m : MethodId} {args : Array Value} {below : List Frame} {meth : Method} {c : Code} {H : Heap} {locs : List Loc} {cells slots : Nat} {Q : State → Prop}
variable {cc : ByteArray} {pc : Nat} {lsC : Array Slot}
variable {G : tm_G} {cl : List vw_C} {tbl : List Cond} {D : va_G} {tc : Nat → ClassId} {lo : Nat} {K : String} {EX : State → Prop} {M d pc' nL : Nat} {ls ls' st st' : List Value} {h h1 : tm_H}
theorem tm_ldcwS (hexec : p.tables.exec = Jvm.exec) (hb : c.code = cc) {own tx : String} {index q : Nat} {rest : List Value} (hown : s.vm.findClass own = some m.cls) (hZ : vk_R own index tx q s) (hdg : decode cc pc = .ok (.ldc_w index, 3))
    (k : W p l e R s m args below meth c H locs cells slots Q (F0 m (pc + 3) lsC (.ref q :: rest))) : W p l e R s m args below meth c H locs cells slots Q (F0 m pc lsC rest) := by
  intro T hT X
  obtain ⟨t, a1, b1⟩ := k T hT X
  refine ⟨t, ?_, b1⟩
  obtain ⟨k, cf, i, a', hk, hcf, hcp, -, hr, hev'⟩ := Cond.stringRef_spec hown hZ.1
  cases hZ.2.symm.trans hev'
  obtain ⟨k', hk', he⟩ := X.warmed.alike.2.2 _ _ hk
  have hr' : k'.resolved[index]? = some (some (.string q)) := by
    rcases X.warmed.entry hk hk' index with h | ⟨h, -⟩
    · rw [h]; exact hr
    · rw [hr] at h; cases h
  jvm_step X.here [hexec, hb, hdg, ldc_w.wp_string (e := e) (s := T) (f := F0 m pc lsC rest) X.here.top hk' (by rw [he]; exact hcf) hcp hr']
  exact a1
theorem tm_get_r {own : String} {i a b : Nat} (hx : p.tables.exec = Jvm.exec) (hb : c.code = cc) (hts : ∀ w ∈ tbl, w.before args s = true) (hown : s.vm.findClass own = some m.cls) (hK : va_K D cl (tm_tys K tc) s) (hok : tm_okf cl tbl own i a b) (hd : decode cc pc = .ok (.getfield i, 3)) (hw : tm_HW D cl tc lo h H) (hs : tm_get a b pc ls st h = some (.inl (pc', ls', st', h1))) (kk : h1 = h → ls' = ls → W p l e R s m args below meth c H locs cells slots Q (F0 m pc' lsC st')) : W p l e R s m args below meth c H locs cells slots Q (F0 m pc lsC st) := by
  unfold tm_get at hs
  split at hs
  · split at hs
    · rename_i ho
      split at hs
      · rename_i hc
        split at hs
        · rename_i hv
          subst hc
          cases hs
          obtain ⟨C, T, N, g1, g2, g3, g4⟩ := hok
          obtain ⟨-, -, q3⟩ := hw.obj ho
          exact va_get hx hb hts g3 hown hK hw.2.2.1 _ q3 g1 b g2 (hts _ g4) (fun x hx => hx) hv hd (kk rfl rfl)
        · cases hs
      · cases hs
    · cases hs
  · cases hs
theorem tm_set_r {y : MethodName} {i a b : Nat} (hx : p.tables.exec = Jvm.exec) (hb : c.code = cc) (hts : ∀ w ∈ tbl, w.before args s = true) (hown : s.vm.findClass y.cls = some m.cls) (hnm : meth.name = y.name) (hK : va_K D cl (tm_tys K tc) s) (hok : tm_okp G cl tbl y i a b) (hd : decode cc pc = .ok (.putfield i, 3)) (hw : tm_HW D cl tc lo h H) (hS : va_S (fun q => lo ≤ q) s.heap H locs) (hs : tm_set G a b pc ls st h = some (.inl (pc', ls', st', h1))) (kk : ∀ (H1 : Heap) (locs1 : List Loc), tm_HW D cl tc lo h1 H1 → va_S (fun q => lo ≤ q) s.heap H1 locs1 → h1.1 = h.1 → h1.2.1 = h.2.1 → ls' = ls → W p l e R s m args below meth c H1 locs1 cells slots Q (F0 m pc' lsC st')) : W p l e R s m args below meth c H locs cells slots Q (F0 m pc lsC st) := by
  unfold tm_set at hs
  split at hs
  · split at hs
    · rename_i ho
      split at hs
      · rename_i hc
        obtain ⟨hc, hl, hn, hf⟩ := hc
        subst hc
        cases hs
        obtain ⟨C, T, N, g1, g2, g3, g4, g5, g6, g7⟩ := hok
        obtain ⟨q1, q2, q3⟩ := hw.obj ho
        rcases g7 with g7 | ⟨g7, g8, g9⟩
        · exact va_put hx hb hts g3 _ g5 g6 hown hK hw.2.2.1 tm_WL_D hS _ q3 g1 b g2 (hts _ g4) (fun x hx => hx) g7 (g5 b g2) hn hf hl hd (fun H1 locs1 hP _ hS1 => kk H1 locs1 (hw.put (e := .inr _) q1 q2 hP) hS1 rfl rfl rfl)
        · exact va_putF hx hb hts g3 _ g5 g6 hown hK hw.2.2.1 tm_WL_D hS _ q3 g1 b g2 (hts _ g4) (fun x hx => hx) g7 (hnm.trans g8) g9 (g5 b g2) hn hf hl hd (fun H1 locs1 hP _ hS1 => kk H1 locs1 (hw.put (e := .inr _) q1 q2 hP) hS1 rfl rfl rfl)
      · cases hs
    · cases hs
  · cases hs
/-- the script, as a method's start knows it -/
def tm_SC (G : tm_G) (lo : Nat) (s : State) : Prop := va_X (tm_sc G).1 (tm_sc G).2.1 (tm_sc G).2.2 s s.heap ∧ (tm_sc G).1 < s.heap.size ∧ (tm_sc G).1 < lo
theorem tm_ild_r (hx : p.tables.exec = Jvm.exec) (hb : c.code = cc) (hK : va_K D cl (tm_tys K tc) s) (hd : decode cc pc = .ok (.iaload, 1)) (hw : tm_HW D cl tc lo h H) (hS : va_S (fun q => lo ≤ q) s.heap H locs) (hsc : tm_SC G lo s) (hs : tm_ild G pc ls st h = some (.inl (pc', ls', st', h1))) (kk : h1 = h → ls' = ls → W p l e R s m args below meth c H locs cells slots Q (F0 m pc' lsC st')) : W p l e R s m args below meth c H locs cells slots Q (F0 m pc lsC st) := by
  unfold tm_ild at hs
  split at hs
  · split at hs
    · rename_i ho
      split at hs
      · cases hs
      · rename_i hi
        cases hs
        obtain ⟨-, -, q3⟩ := hw.arr ho (by decide)
        exact va_iald hx hb hK hw.2.2.1 _ 0 q3 rfl hi hd (kk rfl rfl)
    · split at hs
      · rename_i ha
        split at hs
        · cases hs
        · rename_i hi
          cases hs
          rw [ha]
          exact va_sld hx hb hsc.1 hsc.2.1 (Nat.not_le.mpr hsc.2.2) hS hi hd (kk rfl rfl)
      · cases hs
    · cases hs
  · cases hs
theorem tm_bld_r (hx : p.tables.exec = Jvm.exec) (hb : c.code = cc) (hK : va_K D cl (tm_tys K tc) s) (hd : decode cc pc = .ok (.baload, 1)) (hw : tm_HW D cl tc lo h H) (hs : tm_bld pc ls st h = some (.inl (pc', ls', st', h1))) (kk : h1 = h → ls' = ls → W p l e R s m args below meth c H locs cells slots Q (F0 m pc' lsC st')) : W p l e R s m args below meth c H locs cells slots Q (F0 m pc lsC st) := by
  unfold tm_bld at hs
  split at hs
  · split at hs
    · rename_i ho
      split at hs
      · cases hs
      · rename_i hi
        cases hs
        obtain ⟨-, -, q3⟩ := hw.arr ho (by decide)
        exact va_bald hx hb hK hw.2.2.1 _ 1 q3 rfl hi hd (kk rfl rfl)
    · rename_i ho
      split at hs
      · cases hs
      · rename_i hi
        cases hs
        obtain ⟨-, -, q3⟩ := hw.arr ho (by decide)
        exact va_zald hx hb hK hw.2.2.1 _ 4 q3 rfl hi hd (kk rfl rfl)
    · cases hs
  · cases hs
theorem tm_cld_r (hx : p.tables.exec = Jvm.exec) (hb : c.code = cc) (hK : va_K D cl (tm_tys K tc) s) (hd : decode cc pc = .ok (.caload, 1)) (hw : tm_HW D cl tc lo h H) (hs : tm_cld pc ls st h = some (.inl (pc', ls', st', h1))) (kk : h1 = h → ls' = ls → W p l e R s m args below meth c H locs cells slots Q (F0 m pc' lsC st')) : W p l e R s m args below meth c H locs cells slots Q (F0 m pc lsC st) := by
  unfold tm_cld at hs
  split at hs
  · split at hs
    · rename_i ho
      split at hs
      · cases hs
      · rename_i hi
        cases hs
        obtain ⟨-, -, q3⟩ := hw.arr ho (by decide)
        exact va_cald hx hb hK hw.2.2.1 _ 2 q3 rfl hi hd (kk rfl rfl)
    · cases hs
  · cases hs
theorem tm_lld_r (hx : p.tables.exec = Jvm.exec) (hb : c.code = cc) (hK : va_K D cl (tm_tys K tc) s) (hd : decode cc pc = .ok (.laload, 1)) (hw : tm_HW D cl tc lo h H) (hs : tm_lld pc ls st h = some (.inl (pc', ls', st', h1))) (kk : h1 = h → ls' = ls → W p l e R s m args below meth c H locs cells slots Q (F0 m pc' lsC st')) : W p l e R s m args below meth c H locs cells slots Q (F0 m pc lsC st) := by
  unfold tm_lld at hs
  split at hs
  · split at hs
    · rename_i ho
      split at hs
      · cases hs
      · rename_i hi
        cases hs
        obtain ⟨-, -, q3⟩ := hw.arr ho (by decide)
        exact va_lald hx hb hK hw.2.2.1 _ 3 q3 rfl hi hd (kk rfl rfl)
    · cases hs
  · cases hs
theorem tm_ald_r (hx : p.tables.exec = Jvm.exec) (hb : c.code = cc) (hK : va_K D cl (tm_tys K tc) s) (hd : decode cc pc = .ok (.aaload, 1)) (hw : tm_HW D cl tc lo h H) (hs : tm_ald pc ls st h = some (.inl (pc', ls', st', h1))) (kk : h1 = h → ls' = ls → W p l e R s m args below meth c H locs cells slots Q (F0 m pc' lsC st')) : W p l e R s m args below meth c H locs cells slots Q (F0 m pc lsC st) := by
  unfold tm_ald at hs
  split at hs
  · split at hs
    · rename_i ho
      split at hs
      · cases hs
      · rename_i hi
        cases hs
        obtain ⟨-, -, q3⟩ := hw.arr ho (by decide)
        exact va_aldq hx hb hK hw.2.2.1 _ 5 q3 (C := K) rfl hi hd (kk rfl rfl)
    · cases hs
  · cases hs
theorem tm_isr_r (hx : p.tables.exec = Jvm.exec) (hb : c.code = cc) (hK : va_K D cl (tm_tys K tc) s) (hd : decode cc pc = .ok (.iastore, 1)) (hw : tm_HW D cl tc lo h H) (hS : va_S (fun q => lo ≤ q) s.heap H locs) (hs : tm_isr pc ls st h = some (.inl (pc', ls', st', h1))) (kk : ∀ (H1 : Heap) (locs1 : List Loc), tm_HW D cl tc lo h1 H1 → va_S (fun q => lo ≤ q) s.heap H1 locs1 → h1.1 = h.1 → h1.2.1 = h.2.1 → ls' = ls → W p l e R s m args below meth c H1 locs1 cells slots Q (F0 m pc' lsC st')) : W p l e R s m args below meth c H locs cells slots Q (F0 m pc lsC st) := by
  unfold tm_isr at hs
  split at hs
  · split at hs
    · rename_i ho
      split at hs
      · cases hs
      · rename_i hi
        cases hs
        obtain ⟨q1, q2, q3⟩ := hw.arr ho (by decide)
        exact va_iast hx hb hK hw.2.2.1 tm_WL_D hS _ 0 q3 rfl hi hd (fun H1 locs1 hP _ hS1 => kk H1 locs1 (hw.put (e := .inl (0, _)) q1 q2 hP) hS1 rfl rfl rfl)
    · cases hs
  · cases hs
theorem tm_bsr_r (hx : p.tables.exec = Jvm.exec) (hb : c.code = cc) (hK : va_K D cl (tm_tys K tc) s) (hd : decode cc pc = .ok (.bastore, 1)) (hw : tm_HW D cl tc lo h H) (hS : va_S (fun q => lo ≤ q) s.heap H locs) (hs : tm_bsr pc ls st h = some (.inl (pc', ls', st', h1))) (kk : ∀ (H1 : Heap) (locs1 : List Loc), tm_HW D cl tc lo h1 H1 → va_S (fun q => lo ≤ q) s.heap H1 locs1 → h1.1 = h.1 → h1.2.1 = h.2.1 → ls' = ls → W p l e R s m args below meth c H1 locs1 cells slots Q (F0 m pc' lsC st')) : W p l e R s m args below meth c H locs cells slots Q (F0 m pc lsC st) := by
  unfold tm_bsr at hs
  split at hs
  · split at hs
    · rename_i ho
      split at hs
      · cases hs
      · rename_i hi
        cases hs
        obtain ⟨q1, q2, q3⟩ := hw.arr ho (by decide)
        exact va_bast hx hb hK hw.2.2.1 tm_WL_D hS _ 1 q3 rfl hi hd (fun H1 locs1 hP _ hS1 => kk H1 locs1 (hw.put (e := .inl (1, _)) q1 q2 hP) hS1 rfl rfl rfl)
    · rename_i ho
      split at hs
      · cases hs
      · rename_i hi
        cases hs
        obtain ⟨q1, q2, q3⟩ := hw.arr ho (by decide)
        exact va_zast hx hb hK hw.2.2.1 tm_WL_D hS _ 4 q3 rfl hi hd (fun H1 locs1 hP _ hS1 => kk H1 locs1 (hw.put (e := .inl (4, _)) q1 q2 hP) hS1 rfl rfl rfl)
    · cases hs
  · cases hs
theorem tm_csr_r (hx : p.tables.exec = Jvm.exec) (hb : c.code = cc) (hK : va_K D cl (tm_tys K tc) s) (hd : decode cc pc = .ok (.castore, 1)) (hw : tm_HW D cl tc lo h H) (hS : va_S (fun q => lo ≤ q) s.heap H locs) (hs : tm_csr pc ls st h = some (.inl (pc', ls', st', h1))) (kk : ∀ (H1 : Heap) (locs1 : List Loc), tm_HW D cl tc lo h1 H1 → va_S (fun q => lo ≤ q) s.heap H1 locs1 → h1.1 = h.1 → h1.2.1 = h.2.1 → ls' = ls → W p l e R s m args below meth c H1 locs1 cells slots Q (F0 m pc' lsC st')) : W p l e R s m args below meth c H locs cells slots Q (F0 m pc lsC st) := by
  unfold tm_csr at hs
  split at hs
  · split at hs
    · rename_i ho
      split at hs
      · cases hs
      · rename_i hi
        cases hs
        obtain ⟨q1, q2, q3⟩ := hw.arr ho (by decide)
        exact va_cast hx hb hK hw.2.2.1 tm_WL_D hS _ 2 q3 rfl hi hd (fun H1 locs1 hP _ hS1 => kk H1 locs1 (hw.put (e := .inl (2, _)) q1 q2 hP) hS1 rfl rfl rfl)
    · cases hs
  · cases hs
theorem tm_lsr_r (hx : p.tables.exec = Jvm.exec) (hb : c.code = cc) (hK : va_K D cl (tm_tys K tc) s) (hd : decode cc pc = .ok (.lastore, 1)) (hw : tm_HW D cl tc lo h H) (hS : va_S (fun q => lo ≤ q) s.heap H locs) (hs : tm_lsr pc ls st h = some (.inl (pc', ls', st', h1))) (kk : ∀ (H1 : Heap) (locs1 : List Loc), tm_HW D cl tc lo h1 H1 → va_S (fun q => lo ≤ q) s.heap H1 locs1 → h1.1 = h.1 → h1.2.1 = h.2.1 → ls' = ls → W p l e R s m args below meth c H1 locs1 cells slots Q (F0 m pc' lsC st')) : W p l e R s m args below meth c H locs cells slots Q (F0 m pc lsC st) := by
  unfold tm_lsr at hs
  split at hs
  · split at hs
    · rename_i ho
      split at hs
      · cases hs
      · rename_i hi
        cases hs
        obtain ⟨q1, q2, q3⟩ := hw.arr ho (by decide)
        exact va_last hx hb hK hw.2.2.1 tm_WL_D hS _ 3 q3 rfl hi hd (fun H1 locs1 hP _ hS1 => kk H1 locs1 (hw.put (e := .inl (3, _)) q1 q2 hP) hS1 rfl rfl rfl)
    · cases hs
  · cases hs
theorem tm_asr_r {ci : Nat} (hx : p.tables.exec = Jvm.exec) (hb : c.code = cc) (hK : va_K D cl (tm_tys K tc) s) (hok : ∃ r : vw_C, cl[ci]? = some r ∧ r.1 = K) (hd : decode cc pc = .ok (.aastore, 1)) (hw : tm_HW D cl tc lo h H) (hS : va_S (fun q => lo ≤ q) s.heap H locs) (hs : tm_asr ci pc ls st h = some (.inl (pc', ls', st', h1))) (kk : ∀ (H1 : Heap) (locs1 : List Loc), tm_HW D cl tc lo h1 H1 → va_S (fun q => lo ≤ q) s.heap H1 locs1 → h1.1 = h.1 → h1.2.1 = h.2.1 → ls' = ls → W p l e R s m args below meth c H1 locs1 cells slots Q (F0 m pc' lsC st')) : W p l e R s m args below meth c H locs cells slots Q (F0 m pc lsC st) := by
  unfold tm_asr at hs
  split at hs
  · split at hs
    · rename_i ho hv
      split at hs
      · rename_i hc
        split at hs
        · cases hs
        · rename_i hi
          subst hc
          cases hs
          obtain ⟨r, g1, g2⟩ := hok
          obtain ⟨q1, q2, q3⟩ := hw.arr ho (by decide)
          obtain ⟨-, -, q6⟩ := hw.obj hv
          exact va_astq hx hb hK hw.2.2.1 tm_WL_D hS _ 5 _ _ q3 (by rw [g2]; rfl) q6 g1 hi hd (fun H1 locs1 hP _ hS1 => kk H1 locs1 (hw.put (e := .inl (5, _)) q1 q2 hP) hS1 rfl rfl rfl)
      · cases hs
    · cases hs
  · cases hs
theorem tm_aln_r (hx : p.tables.exec = Jvm.exec) (hb : c.code = cc) (hK : va_K D cl (tm_tys K tc) s) (hd : decode cc pc = .ok (.arraylength, 1)) (hw : tm_HW D cl tc lo h H) (hS : va_S (fun q => lo ≤ q) s.heap H locs) (hsc : tm_SC G lo s) (hs : tm_aln G pc ls st h = some (.inl (pc', ls', st', h1))) (kk : h1 = h → ls' = ls → W p l e R s m args below meth c H locs cells slots Q (F0 m pc' lsC st')) : W p l e R s m args below meth c H locs cells slots Q (F0 m pc lsC st) := by
  unfold tm_aln at hs
  split at hs
  · split at hs
    · rename_i t n x ho
      split at hs
      · rename_i ht
        cases hs
        obtain ⟨-, -, q3⟩ := hw.arr ho (by omega)
        have hT : ∃ ty, (tm_tys K tc)[t]? = some (tc t, ty) := by
          rcases (show t = 0 ∨ t = 1 ∨ t = 2 ∨ t = 3 ∨ t = 4 ∨ t = 5 by omega) with rfl | rfl | rfl | rfl | rfl | rfl <;> exact ⟨_, rfl⟩
        obtain ⟨ty, hT⟩ := hT
        exact va_alen hx hb hK hw.2.2.1 _ t q3 hT rfl hd (kk rfl rfl)
      · split at hs
        · rename_i ha
          cases hs
          rw [ha.2]
          exact va_slen hx hb hsc.1 hsc.2.1 (Nat.not_le.mpr hsc.2.2) hS hd (kk rfl rfl)
        · cases hs
    · cases hs
  · cases hs
end TMH
end
section
section TMN
variable {p : Program} {l : Launch} {e : Env} {R : Room} {s : State} {m : MethodId} {args : Array Value} {below : List Frame} {meth : Method} {c : Code} {H : Heap} {locs : List Loc} {cells slots : Nat} {Q : State → Prop}
variable {cc : ByteArray} {pc : Nat} {lsC : Array Slot}
variable {G : tm_G} {cl : List vw_C} {tbl : List Cond} {D : va_G} {tc : Nat → ClassId} {lo : Nat} {K : String} {EX : State → Prop} {M d pc' nL : Nat} {ls ls' st st' : List Value} {h h1 : tm_H}
theorem tm_grow {g : JFrame} {k n q : Nat} {x : tm_E} {H1 : Heap} (hz : h.1 = s.heap.size + cells) (hw : tm_HW D cl tc lo h H) (hP : va_P D cl (tm_WL lo tc h ++ [(q, tm_ce tc x)]) H1) (hD : va_D (fun q => lo ≤ q) (tm_WL lo tc h ++ [(q, tm_ce tc x)])) (kk : q = h.1 → tm_HW D cl tc lo (tm_new h k x) H1 → W p l e R s m args below meth c H1 locs (cells + 1) n Q g) : W p l e R s m args below meth c H1 locs (cells + 1) n Q g := by
  intro T hT X
  have h1 : (T.setVm s.vm).heap.size ≤ s.heap.size + (cells + 1) := X.same.2.2.1
  have h2 : T.heap.size ≤ s.heap.size + (cells + 1) := h1
  rw [hT] at h2
  obtain ⟨g1, g2⟩ := hw.new (k := k) hP hD (by omega)
  exact kk g1 g2 T hT X
theorem tm_nw_r {own : String} {i a : Nat} (hx : p.tables.exec = Jvm.exec) (hb : c.code = cc) (hts : ∀ w ∈ tbl, w.before args s = true) (hown : s.vm.findClass own = some m.cls) (hK : va_K D cl (tm_tys K tc) s) (hlo : lo ≤ s.heap.size) (hok : tm_okn G cl tbl own i a) (hd : decode cc pc = .ok (.new i, 3)) (hw : tm_HW D cl tc lo h H) (hS : va_S (fun q => lo ≤ q) s.heap H locs) (hz : h.1 = s.heap.size + cells) (hs : tm_nw G a pc ls st h = some (.inl (pc', ls', st', h1))) (hR : cells + h1.1 ≤ R.cells + h.1 ∧ slots + h1.2.1 ≤ R.slots + h.2.1) (kk : ∀ H1 : Heap, tm_HW D cl tc lo h1 H1 → va_S (fun q => lo ≤ q) s.heap H1 locs → ls' = ls → h1.1 = h.1 + 1 → h1.2.1 = h.2.1 + (h1.2.1 - h.2.1) → W p l e R s m args below meth c H1 locs (cells + 1) (slots + (h1.2.1 - h.2.1)) Q (F0 m pc' lsC st')) : W p l e R s m args below meth c H locs cells slots Q (F0 m pc lsC st) := by
  unfold tm_nw at hs
  cases hs
  obtain ⟨C, T, N, g1, g3, g4, g5, g6, g7, g8, g9⟩ := hok
  have e1 : (tm_new h (tm_dv G a).length (.inr (a, tm_dv G a))).1 = h.1 + 1 := rfl
  have e2 : (tm_new h (tm_dv G a).length (.inr (a, tm_dv G a))).2.1 = h.2.1 + N := by rw [← g8]; rfl
  rw [e1, e2] at hR
  rw [e2] at kk
  have e3 : h.2.1 + N - h.2.1 = N := by omega
  rw [e3] at kk
  exact va_new hx hb hts g3 _ g7 hown (hts _ g4) (hts _ g5) (hts _ g6) hK hw.2.2.1 tm_WL_D hS (fun q hq => Nat.le_trans hlo hq) g1 g9 (by omega) (by omega) hd (fun q H1 hP hD hS1 => tm_grow (x := .inr _) hz hw hP hD (fun hq hw1 => by subst hq; exact kk H1 hw1 hS1 rfl e1 rfl))
/-- a new array: its class is the one that is known -/
theorem tm_sameA {s : State} {t : Nat} {cA : ClassId} {ty : FieldType} (hK : va_K D cl (tm_tys K tc) s) (ht : (tm_tys K tc)[t]? = some (tc t, ty)) (hK2 : va_K D cl (tm_tys K tc ++ [(cA, ty)]) s) : cA = tc t := by
  have h1 := (hK.2 t _ ht).2
  have h2 := (hK2.2 6 (cA, ty) rfl).2
  cases ty with
  | object C =>
    obtain ⟨_, _, -, -, -, q4⟩ := h1
    obtain ⟨_, _, -, -, -, q8⟩ := h2
    exact Option.some.inj (q8.symm.trans q4)
  | _ => exact Option.some.inj ((show s.vm.findClass _ = some cA from h2).symm.trans (show s.vm.findClass _ = some (tc t) from h1))
theorem tm_nar_r {t len : Nat} {z : Nat → (Nat → Int32) ⊕ (Nat → Int64) ⊕ (Nat → UInt32) ⊕ (Nat → UInt64) ⊕ (Nat → Option Nat)} {ty : FieldType} (ht : (tm_tys K tc)[t]? = some (tc t, ty)) (hK : va_K D cl (tm_tys K tc) s) (hw : tm_HW D cl tc lo h H) (hz : h.1 = s.heap.size + cells)
    (row : ∀ (n : Int32) (r : List Value), ¬ n < 0 → n.toNatClampNeg ≤ 60000000 → cells + 1 ≤ R.cells → slots + n.toNatClampNeg ≤ R.slots → (∀ (q : Nat) (cA : ClassId) (H1 : Heap), va_K D cl (tm_tys K tc ++ [(cA, ty)]) s → va_P D cl (tm_WL lo tc h ++ [(q, .inl (cA, n.toNatClampNeg, z 0))]) H1 → va_D (fun q => lo ≤ q) (tm_WL lo tc h ++ [(q, .inl (cA, n.toNatClampNeg, z 0))]) → va_S (fun q => lo ≤ q) s.heap H1 locs → W p l e R s m args below meth c H1 locs (cells + 1) (slots + n.toNatClampNeg) Q (F0 m (pc + len) lsC (.ref q :: r))) → W p l e R s m args below meth c H locs cells slots Q (F0 m pc lsC (.int n :: r)))
    (hs : tm_nar t z len pc ls st h = some (.inl (pc', ls', st', h1))) (hR : cells + h1.1 ≤ R.cells + h.1 ∧ slots + h1.2.1 ≤ R.slots + h.2.1) (kk : ∀ H1 : Heap, tm_HW D cl tc lo h1 H1 → va_S (fun q => lo ≤ q) s.heap H1 locs → ls' = ls → h1.1 = h.1 + 1 → h1.2.1 = h.2.1 + (h1.2.1 - h.2.1) → W p l e R s m args below meth c H1 locs (cells + 1) (slots + (h1.2.1 - h.2.1)) Q (F0 m pc' lsC st')) : W p l e R s m args below meth c H locs cells slots Q (F0 m pc lsC st) := by
  unfold tm_nar at hs
  split at hs
  · rename_i n r
    split at hs
    · cases hs
    · rename_i hn
      have hn1 : ¬ n < 0 := fun q => hn (Or.inl q)
      have hn2 : n.toNatClampNeg ≤ 60000000 := Nat.not_lt.mp fun q => hn (Or.inr q)
      cases hs
      have e1 : (tm_new h n.toNatClampNeg (.inl (t, n.toNatClampNeg, z 0))).1 = h.1 + 1 := rfl
      have e2 : (tm_new h n.toNatClampNeg (.inl (t, n.toNatClampNeg, z 0))).2.1 = h.2.1 + n.toNatClampNeg := rfl
      rw [e1, e2] at hR
      rw [e2] at kk
      have e3 : h.2.1 + n.toNatClampNeg - h.2.1 = n.toNatClampNeg := by omega
      rw [e3] at kk
      refine row n r hn1 hn2 (by omega) (by omega) (fun q cA H1 hK2 hP hD hS1 => ?_)
      have hc := tm_sameA hK ht hK2
      subst hc
      exact tm_grow (x := .inl (t, _)) hz hw hP hD (fun hq hw1 => by subst hq; exact kk H1 hw1 hS1 rfl e1 rfl)
  · cases hs
theorem tm_oi_r {own : String} {i : Nat} (hx : p.tables.exec = Jvm.exec) (hb : c.code = cc) (hts : ∀ w ∈ tbl, w.before args s = true) (hown : s.vm.findClass own = some m.cls) (hl : lsC.size = c.maxLocals) (hok : Cond.methodLink own i Lib.objectInit ∈ tbl ∧ Cond.instanceMethod Lib.objectInit ∈ tbl ∧ Cond.code Lib.objectInit ⟨#[0xb1]⟩ 1 none ∈ tbl) (hd : decode cc pc = .ok (.invokespecial i, 3)) (hR : d ≤ R.frames ∧ 41 * d ≤ R.locals) (hs : tm_oi d pc ls st h = some (.inl (pc', ls', st', h1))) (kk : h1 = h → ls' = ls → W p l e R s m args below meth c H locs cells slots Q (F0 m pc' lsC st')) : W p l e R s m args below meth c H locs cells slots Q (F0 m pc lsC st) := by
  unfold tm_oi at hs
  split at hs
  · rename_i o r
    split at hs
    · rename_i hc
      cases hs
      have hroom := lv_room (m := m) (pc := pc) (ls := lsC) (rest := .ref o :: st') (st := st') hc.2
      exact W.objInit hx hb hown (hts _ hok.1) (hts _ hok.2.1) (hts _ hok.2.2) (g := F0 m pc lsC (.ref o :: st')) rfl hl rfl hd (by omega) (by omega) (kk rfl rfl)
    · cases hs
  · cases hs
theorem tm_cp_r {own : String} {i : Nat} (hx : p.tables.exec = Jvm.exec) (hb : c.code = cc) (hts : ∀ w ∈ tbl, w.before args s = true) (hown : s.vm.findClass own = some m.cls) (hl : lsC.size = c.maxLocals) (hK : va_K D cl (tm_tys K tc) s) (hok : Cond.methodLink own i arraycopyName ∈ tbl ∧ Cond.native arraycopyName ∈ tbl ∧ Cond.static arraycopyName ∈ tbl ∧ Cond.initialized "java/lang/System" ∈ tbl) (hd : decode cc pc = .ok (.invokestatic i, 3)) (hw : tm_HW D cl tc lo h H) (hS : va_S (fun q => lo ≤ q) s.heap H locs) (hR : d ≤ R.frames ∧ 41 * d ≤ R.locals) (hs : tm_cp d pc ls st h = some (.inl (pc', ls', st', h1))) (kk : ∀ (H1 : Heap) (locs1 : List Loc), tm_HW D cl tc lo h1 H1 → va_S (fun q => lo ≤ q) s.heap H1 locs1 → h1.1 = h.1 → h1.2.1 = h.2.1 → ls' = ls → W p l e R s m args below meth c H1 locs1 cells slots Q (F0 m pc' lsC st')) : W p l e R s m args below meth c H locs cells slots Q (F0 m pc lsC st) := by
  unfold tm_cp at hs
  split at hs
  · split at hs
    · rename_i ha hb2
      split at hs
      · rename_i hc
        obtain ⟨c1, c2, c3, c4, c5, c6, c7⟩ := hc
        cases hs
        obtain ⟨-, -, q3⟩ := hw.arr ha (by decide)
        obtain ⟨q4, q5, q6⟩ := hw.arr hb2 (by decide)
        have hn : nativeFrameWords "java/lang/System" "arraycopy" 5 = 7 := by decide
        exact va_copyi hx hb hl.symm hown (hts _ hok.1) (hts _ hok.2.1) (hts _ hok.2.2.1) (hts _ hok.2.2.2) hK hw.2.2.1 tm_WL_D hS _ _ 0 0 q3 q6 rfl rfl rfl c3 c4 c5 c6 c7 (fun i _ => rfl) (by omega) (by rw [hn]; unfold tm_cs at c2; omega) hd (fun H1 locs1 hP _ hS1 => kk H1 locs1 (hw.put (e := .inl (0, _)) q4 q5 hP) hS1 rfl rfl rfl)
      · cases hs
    · cases hs
  · cases hs
theorem tm_jmp_r {off : Int} (hs : tm_jmp pc off ls st h = some (.inl (pc', ls', st', h1))) : (pc : Int) + off = (pc' : Int) ∧ ls' = ls ∧ st' = st ∧ h1 = h := by
  unfold tm_jmp at hs
  split at hs
  · rename_i hp
    cases hs
    exact ⟨by omega, rfl, rfl, rfl⟩
  · cases hs
theorem tm_tsw_r {dflt lo2 hi : Int} {offs : Array Int} {len : Nat} (hx : p.tables.exec = Jvm.exec) (hb : c.code = cc) (hd : decode cc pc = .ok (.tableswitch dflt lo2 hi offs, len)) (hs : tm_tsw pc dflt lo2 hi offs ls st h = some (.inl (pc', ls', st', h1))) (kk : h1 = h → ls' = ls → W p l e R s m args below meth c H locs cells slots Q (F0 m pc' lsC st')) : W p l e R s m args below meth c H locs cells slots Q (F0 m pc lsC st) := by
  unfold tm_tsw at hs
  split at hs
  · split at hs
    · rename_i hc
      obtain ⟨q1, q2, rfl, q4⟩ := tm_jmp_r hs
      exact lv_tableOut hx hb hd hc q1 (kk q4 q2)
    · rename_i hc
      split at hs
      · rename_i off ho
        obtain ⟨q1, q2, rfl, q4⟩ := tm_jmp_r hs
        exact lv_tableIn hx hb hd (fun q => hc (Or.inl q)) (fun q => hc (Or.inr q)) ho q1 (kk q4 q2)
      · cases hs
  · cases hs
theorem tm_lsw_r {dflt : Int} {ps : Array (Int × Int)} {len : Nat} (hx : p.tables.exec = Jvm.exec) (hb : c.code = cc) (hd : decode cc pc = .ok (.lookupswitch dflt ps, len)) (hs : tm_lsw pc dflt ps ls st h = some (.inl (pc', ls', st', h1))) (kk : h1 = h → ls' = ls → W p l e R s m args below meth c H locs cells slots Q (F0 m pc' lsC st')) : W p l e R s m args below meth c H locs cells slots Q (F0 m pc lsC st) := by
  unfold tm_lsw at hs
  split at hs
  · split at hs
    · rename_i hc
      obtain ⟨q1, q2, rfl, q4⟩ := tm_jmp_r hs
      exact lv_lookup hx hb hd hc rfl q1 (kk q4 q2)
    · cases hs
  · cases hs
theorem tm_b1_r {cd : Jvm.ClassFile.Cond} {off : Int} {x : Int32} {a : Nat} {r : List Value} (hx : p.tables.exec = Jvm.exec) (hb : c.code = cc) (hd : decode cc pc = .ok (.ifCond cd off, 3)) (ht : (pc : Int) + off = (a : Int)) (hs : tm_b1 cd x (tm_nx a ls r h) (tm_nx (pc + 3) ls r h) = some (.inl (pc', ls', st', h1))) (kk : h1 = h → ls' = ls → W p l e R s m args below meth c H locs cells slots Q (F0 m pc' lsC st')) : W p l e R s m args below meth c H locs cells slots Q (F0 m pc lsC (.int x :: r)) := by
  cases cd
  · refine lv_if_eq hx hb hd ht (fun hc => ?_) (fun hc => ?_) <;> simp only [tm_b1, hc, if_true, if_false, tm_nx] at hs <;> (cases hs; exact kk rfl rfl)
  · refine lv_if_ne hx hb hd ht (fun hc => ?_) (fun hc => ?_) <;> simp only [tm_b1, hc, if_true, if_false, tm_nx] at hs <;> (cases hs; exact kk rfl rfl)
  · refine lv_if_lt hx hb hd ht (fun hc => ?_) (fun hc => ?_) <;> simp only [tm_b1, hc, if_true, if_false, tm_nx] at hs <;> (cases hs; exact kk rfl rfl)
  · refine lv_if_ge hx hb hd ht (fun hc => ?_) (fun hc => ?_) <;> simp only [tm_b1, hc, if_true, if_false, tm_nx] at hs <;> (cases hs; exact kk rfl rfl)
  · refine lv_if_gt hx hb hd ht (fun hc => ?_) (fun hc => ?_) <;> simp only [tm_b1, hc, if_true, if_false, tm_nx] at hs <;> (cases hs; exact kk rfl rfl)
  · refine lv_if_le hx hb hd ht (fun hc => ?_) (fun hc => ?_) <;> simp only [tm_b1, hc, if_true, if_false, tm_nx] at hs <;> (cases hs; exact kk rfl rfl)
theorem tm_b2_r {cd : Jvm.ClassFile.Cond} {off : Int} {x y : Int32} {a : Nat} {r : List Value} (hx : p.tables.exec = Jvm.exec) (hb : c.code = cc) (hd : decode cc pc = .ok (.if_icmp cd off, 3)) (ht : (pc : Int) + off = (a : Int)) (hs : tm_b2 cd x y (tm_nx a ls r h) (tm_nx (pc + 3) ls r h) = some (.inl (pc', ls', st', h1))) (kk : h1 = h → ls' = ls → W p l e R s m args below meth c H locs cells slots Q (F0 m pc' lsC st')) : W p l e R s m args below meth c H locs cells slots Q (F0 m pc lsC (.int y :: .int x :: r)) := by
  cases cd
  · refine lv_icmp_eq hx hb hd ht (fun hc => ?_) (fun hc => ?_) <;> simp only [tm_b2, hc, if_true, if_false, tm_nx] at hs <;> (cases hs; exact kk rfl rfl)
  · refine lv_icmp_ne hx hb hd ht (fun hc => ?_) (fun hc => ?_) <;> simp only [tm_b2, hc, if_true, if_false, tm_nx] at hs <;> (cases hs; exact kk rfl rfl)
  · refine lv_icmp_lt hx hb hd ht (fun hc => ?_) (fun hc => ?_) <;> simp only [tm_b2, hc, if_true, if_false, tm_nx] at hs <;> (cases hs; exact kk rfl rfl)
  · refine lv_icmp_ge hx hb hd ht (fun hc => ?_) (fun hc => ?_) <;> simp only [tm_b2, hc, if_true, if_false, tm_nx] at hs <;> (cases hs; exact kk rfl rfl)
  · refine lv_icmp_gt hx hb hd ht (fun hc => ?_) (fun hc => ?_) <;> simp only [tm_b2, hc, if_true, if_false, tm_nx] at hs <;> (cases hs; exact kk rfl rfl)
  · refine lv_icmp_le hx hb hd ht (fun hc => ?_) (fun hc => ?_) <;> simp only [tm_b2, hc, if_true, if_false, tm_nx] at hs <;> (cases hs; exact kk rfl rfl)
end TMN
end
section
theorem tm_dec {cc : ByteArray} {pc k : Nat} {i : Instr} (h : ∃ n, decode cc pc = .ok (i, n) ∧ (tm_len i = 0 ∨ n = tm_len i)) (hl : tm_len i = k + 1) : decode cc pc = .ok (i, k + 1) := by
  obtain ⟨n, h1, h2 | h2⟩ := h
  · omega
  · rw [h1, h2, hl]
section TMX
variable {p : Program} {l : Launch} {e : Env} {R : Room} {s : State} {m : MethodId} {args : Array Value} {below : List Frame} {meth : Method} {c : Code} {H : Heap} {locs : List Loc} {cells slots : Nat} {Q : State → Prop}
variable {pc : Nat} {lsC : Array Slot}
variable {G : tm_G} {cl : List vw_C} {tbl : List Cond} {D : va_G} {tc : Nat → ClassId} {lo : Nat} {K : String} {EX : State → Prop} {M d pc' : Nat} {ls ls' st st' : List Value} {h h1 : tm_H}
set_option maxHeartbeats 4000000 in
set_option maxRecDepth 10000 in
theorem tm_next {en : tm_N} (hsc : ∀ s, EX s → tm_SC G lo s) (hok : tm_ok G cl tbl K EX M pc en) (C0 : tm_C G cl tbl D tc lo K EX M p s m args meth c) (hw : tm_HW D cl tc lo h H) (hS : va_S (fun q => lo ≤ q) s.heap H locs) (hL : tm_LR lsC (tm_mt G M).2.2.1 ls) (hz : h.1 = s.heap.size + cells) (hR : d ≤ R.frames ∧ 41 * d ≤ R.locals)
    (hs : tm_stp G d en pc ls st h = some (.inl (pc', ls', st', h1))) (hc : cells + h1.1 ≤ R.cells + h.1 ∧ slots + h1.2.1 ≤ R.slots + h.2.1)
    (kk : ∀ (H1 : Heap) (locs1 : List Loc) (lsD : Array Slot) (cells1 slots1 : Nat), cells1 + h.1 = cells + h1.1 → slots1 + h.2.1 = slots + h1.2.1 → tm_HW D cl tc lo h1 H1 → va_S (fun q => lo ≤ q) s.heap H1 locs1 → tm_LR lsD (tm_mt G M).2.2.1 ls' → W p l e R s m args below meth c H1 locs1 cells1 slots1 Q (F0 m pc' lsD st')) : W p l e R s m args below meth c H locs cells slots Q (F0 m pc lsC st) := by
  obtain ⟨hx, hb, hml, hr, hown, hts, hK, hlk, hnm, hlo, hEX⟩ := C0
  have k0 : h1 = h → ls' = ls → W p l e R s m args below meth c H locs cells slots Q (F0 m pc' lsC st') := fun e1 e2 => kk H locs lsC cells slots (by rw [e1]) (by rw [e1]) (by rw [e1]; exact hw) hS (by rw [e2]; exact hL)
  have kS : ∀ lsD, h1 = h → tm_LR lsD (tm_mt G M).2.2.1 ls' → W p l e R s m args below meth c H locs cells slots Q (F0 m pc' lsD st') := fun lsD e1 e2 => kk H locs lsD cells slots (by rw [e1]) (by rw [e1]) (by rw [e1]; exact hw) hS e2
  have kP : ∀ (H1 : Heap) (locs1 : List Loc), tm_HW D cl tc lo h1 H1 → va_S (fun q => lo ≤ q) s.heap H1 locs1 → h1.1 = h.1 → h1.2.1 = h.2.1 → ls' = ls → W p l e R s m args below meth c H1 locs1 cells slots Q (F0 m pc' lsC st') := fun H1 locs1 q1 q2 q3 q4 q5 => kk H1 locs1 lsC cells slots (by rw [q3]) (by rw [q4]) q1 q2 (by rw [q5]; exact hL)
  have kN : ∀ H1 : Heap, tm_HW D cl tc lo h1 H1 → va_S (fun q => lo ≤ q) s.heap H1 locs → ls' = ls → h1.1 = h.1 + 1 → h1.2.1 = h.2.1 + (h1.2.1 - h.2.1) → W p l e R s m args below meth c H1 locs (cells + 1) (slots + (h1.2.1 - h.2.1)) Q (F0 m pc' lsC st') := fun H1 q1 q2 q5 q3 q4 => kk H1 locs lsC _ _ (by omega) (by omega) q1 q2 (by rw [q5]; exact hL)
  have hA : ∀ q, s.heap.size ≤ q → lo ≤ q := fun q hq => Nat.le_trans hlo hq
  have hsz : lsC.size = c.maxLocals := by rw [hml]; exact hL.2.1
  obtain ⟨i, a, b⟩ := en
  obtain ⟨hd, hok⟩ := hok
  cases i with
  | iconst k => cases hs; exact lv_iconst hx hb (tm_dec hd rfl) rfl (k0 rfl rfl)
  | bipush k => cases hs; exact lv_bipush hx hb (tm_dec hd rfl) rfl (k0 rfl rfl)
  | sipush k => cases hs; exact lv_sipush hx hb (tm_dec hd rfl) rfl (k0 rfl rfl)
  | lconst k => cases hs; exact lv_lconst hx hb (tm_dec hd rfl) rfl (k0 rfl rfl)
  | ldc k =>
    have hs : tm_ldc G 2 a b pc ls st h = some (.inl (pc', ls', st', h1)) := hs
    unfold tm_ldc at hs
    split at hs
    · rename_i hb0
      cases hs
      exact lv_ldc hx hb hown (hts _ (hok.1 hb0)) (tm_dec hd rfl) (k0 rfl rfl)
    · rename_i hb0
      cases hs
      obtain ⟨tx, htx⟩ := hok.2 hb0
      exact va_ldcS hx hb hown (htx s hEX) (tm_dec hd rfl) (k0 rfl rfl)
  | ldc_w k =>
    have hs : tm_ldc G 3 a b pc ls st h = some (.inl (pc', ls', st', h1)) := hs
    unfold tm_ldc at hs
    split at hs
    · rename_i hb0
      cases hs
      exact lv_ldcw hx hb hown (hts _ (hok.1 hb0)) (tm_dec hd rfl) (k0 rfl rfl)
    · rename_i hb0
      cases hs
      obtain ⟨tx, htx⟩ := hok.2 hb0
      exact tm_ldcwS hx hb hown (htx s hEX) (tm_dec hd rfl) (k0 rfl rfl)
  | ldc2_w k => cases hs; exact lv_ldc2 hx hb hown (hts _ hok) (tm_dec hd rfl) (k0 rfl rfl)
  | iload k => exact tm_ldi_r hL (fun x r hl q => lv_iload hx hb (tm_dec hd rfl) hl q) hs k0
  | iload_n k => exact tm_ldi_r hL (fun x r hl q => lv_iload_n hx hb (tm_dec hd rfl) rfl hl q) hs k0
  | lload k => exact tm_ldl_r hL (fun x r hl q => lv_lload hx hb (tm_dec hd rfl) hl q) hs k0
  | lload_n k => exact tm_ldl_r hL (fun x r hl q => lv_lload_n hx hb (tm_dec hd rfl) rfl hl q) hs k0
  | aload k => exact tm_lda_r hL (fun x r hl q => lv_aload hx hb (tm_dec hd rfl) hl q) hs k0
  | aload_n k => exact tm_lda_r hL (fun x r hl q => lv_aload_n hx hb (tm_dec hd rfl) rfl hl q) hs k0
  | istore k => exact tm_sti_r hL (fun x r hl q => lv_istore hx hb (tm_dec hd rfl) hL.2 hl rfl q) hs kS
  | istore_n k => exact tm_sti_r hL (fun x r hl q => lv_istore_n hx hb (tm_dec hd rfl) rfl hL.2 hl rfl q) hs kS
  | lstore k => exact tm_stl_r hL (fun x r hl q => lv_lstore hx hb (tm_dec hd rfl) hL.2 hl rfl q) hs kS
  | lstore_n k => exact tm_stl_r hL (fun x r hl q => lv_lstore_n hx hb (tm_dec hd rfl) rfl hL.2 hl rfl q) hs kS
  | astore k => exact tm_sta_r hL (fun x r hl q => lv_astore hx hb (tm_dec hd rfl) hL.2 hl rfl q) hs kS
  | astore_n k => exact tm_sta_r hL (fun x r hl q => lv_astore_n hx hb (tm_dec hd rfl) rfl hL.2 hl rfl q) hs kS
  | iinc k n => exact tm_inc_r hx hb (tm_dec hd rfl) hL hs kS
  | iadd => exact tm_i2_r (fun x y r q => lv_iadd hx hb (tm_dec hd rfl) q) hs k0
  | isub => exact tm_i2_r (fun x y r q => lv_isub hx hb (tm_dec hd rfl) q) hs k0
  | imul => exact tm_i2_r (fun x y r q => lv_imul hx hb (tm_dec hd rfl) q) hs k0
  | iand => exact tm_i2_r (fun x y r q => lv_iand hx hb (tm_dec hd rfl) q) hs k0
  | ior => exact tm_i2_r (fun x y r q => lv_ior hx hb (tm_dec hd rfl) q) hs k0
  | ixor => exact tm_i2_r (fun x y r q => lv_ixor hx hb (tm_dec hd rfl) q) hs k0
  | ishl => exact tm_i2_r (fun x y r q => lv_ishl hx hb (tm_dec hd rfl) q) hs k0
  | ishr => exact tm_i2_r (fun x y r q => lv_ishr hx hb (tm_dec hd rfl) q) hs k0
  | iushr => exact tm_i2_r (fun x y r q => lv_iushr hx hb (tm_dec hd rfl) rfl q) hs k0
  | idiv => exact tm_d2_r (fun x y r hy q => lv_idiv hx hb (tm_dec hd rfl) hy q) hs k0
  | irem => exact tm_d2_r (fun x y r hy q => lv_irem hx hb (tm_dec hd rfl) hy q) hs k0
  | ineg => exact tm_i1_r (fun x r q => lv_ineg hx hb (tm_dec hd rfl) q) hs k0
  | i2l => exact tm_i1_r (fun x r q => lv_i2l hx hb (tm_dec hd rfl) rfl q) hs k0
  | i2b => exact tm_i1_r (fun x r q => lv_i2b hx hb (tm_dec hd rfl) rfl q) hs k0
  | i2s => exact tm_i1_r (fun x r q => lv_i2s hx hb (tm_dec hd rfl) rfl q) hs k0
  | i2c => exact tm_i1_r (fun x r q => lv_i2c hx hb (tm_dec hd rfl) rfl q) hs k0
  | l2i => exact tm_l1_r (fun x r q => lv_l2i hx hb (tm_dec hd rfl) rfl q) hs k0
  | ladd => exact tm_l2_r (fun x y r q => lv_ladd hx hb (tm_dec hd rfl) q) hs k0
  | lmul => exact tm_l2_r (fun x y r q => lv_lmul hx hb (tm_dec hd rfl) q) hs k0
  | land => exact tm_l2_r (fun x y r q => lv_land hx hb (tm_dec hd rfl) q) hs k0
  | lor => exact tm_l2_r (fun x y r q => lv_lor hx hb (tm_dec hd rfl) q) hs k0
  | lxor => exact tm_l2_r (fun x y r q => lv_lxor hx hb (tm_dec hd rfl) q) hs k0
  | lcmp => exact tm_l2_r (fun x y r q => W.lcmp hx hb (tm_dec hd rfl) q) hs k0
  | ldiv => exact tm_e2_r (fun x y r hy q => lv_ldiv hx hb (tm_dec hd rfl) hy q) hs k0
  | lrem => exact tm_e2_r (fun x y r hy q => lv_lrem hx hb (tm_dec hd rfl) hy q) hs k0
  | lshl => exact tm_s2_r (fun x y r q => lv_lshl hx hb (tm_dec hd rfl) rfl q) hs k0
  | lushr => exact tm_s2_r (fun x y r q => lv_lushr hx hb (tm_dec hd rfl) rfl q) hs k0
  | dup =>
    simp only [tm_stp] at hs
    split at hs
    · split at hs
      · rename_i hv
        cases hs
        exact lv_dup hx hb (tm_dec hd rfl) hv (k0 rfl rfl)
      · cases hs
    · cases hs
  | pop =>
    simp only [tm_stp] at hs
    split at hs
    · split at hs
      · rename_i hv
        cases hs
        exact lv_pop hx hb (tm_dec hd rfl) hv (k0 rfl rfl)
      · cases hs
    · cases hs
  | dup2 =>
    simp only [tm_stp] at hs
    split at hs
    · split at hs
      · rename_i hv
        cases hs
        exact lv_dup2_11 hx hb (tm_dec hd rfl) hv.1 hv.2 (k0 rfl rfl)
      · cases hs
    · cases hs
  | dup_x1 =>
    simp only [tm_stp] at hs
    split at hs
    · split at hs
      · rename_i hv
        cases hs
        exact lv_dup_x1 hx hb (tm_dec hd rfl) hv.1 hv.2 (k0 rfl rfl)
      · cases hs
    · cases hs
  | goto off => cases hs; exact lv_goto hx hb (tm_dec hd rfl) hok (k0 rfl rfl)
  | ifCond cd off =>
    simp only [tm_stp] at hs
    split at hs
    · exact tm_b1_r hx hb (tm_dec hd rfl) hok hs k0
    · cases hs
  | if_icmp cd off =>
    simp only [tm_stp] at hs
    split at hs
    · exact tm_b2_r hx hb (tm_dec hd rfl) hok hs k0
    · cases hs
  | tableswitch w1 w2 w3 w4 =>
    obtain ⟨n, hd, -⟩ := hd
    exact tm_tsw_r hx hb hd hs k0
  | lookupswitch w1 w2 =>
    obtain ⟨n, hd, -⟩ := hd
    exact tm_lsw_r hx hb hd hs k0
  | getfield k => exact tm_get_r hx hb hts hown hK hok (tm_dec hd rfl) hw hs k0
  | putfield k => exact tm_set_r hx hb hts hown hnm hK hok (tm_dec hd rfl) hw hS hs kP
  | iaload => exact tm_ild_r hx hb hK (tm_dec hd rfl) hw hS (hsc s hEX) hs k0
  | baload => exact tm_bld_r hx hb hK (tm_dec hd rfl) hw hs k0
  | caload => exact tm_cld_r hx hb hK (tm_dec hd rfl) hw hs k0
  | laload => exact tm_lld_r hx hb hK (tm_dec hd rfl) hw hs k0
  | aaload => exact tm_ald_r hx hb hK (tm_dec hd rfl) hw hs k0
  | iastore => exact tm_isr_r hx hb hK (tm_dec hd rfl) hw hS hs kP
  | bastore => exact tm_bsr_r hx hb hK (tm_dec hd rfl) hw hS hs kP
  | castore => exact tm_csr_r hx hb hK (tm_dec hd rfl) hw hS hs kP
  | lastore => exact tm_lsr_r hx hb hK (tm_dec hd rfl) hw hS hs kP
  | aastore => exact tm_asr_r hx hb hK hok (tm_dec hd rfl) hw hS hs kP
  | arraylength => exact tm_aln_r hx hb hK (tm_dec hd rfl) hw hS (hsc s hEX) hs k0
  | new k => exact tm_nw_r hx hb hts hown hK hlo hok (tm_dec hd rfl) hw hS hz hs hc kN
  | newarray t =>
    cases t with
    | int => exact tm_nar_r (t := 0) (z := fun _ => .inl (fun _ => 0)) rfl hK hw hz (fun n r n1 n2 n3 n4 q => va_newa (atype := .int) hx hb (hts _ hok) rfl hK hw.2.2.1 tm_WL_D hS hA (fun _ => rfl) n1 rfl (by show _ * 4 ≤ _; omega) n3 n4 (tm_dec hd rfl) q) hs hc kN
    | byte => exact tm_nar_r (t := 1) (z := fun _ => .inl (fun _ => 0)) rfl hK hw hz (fun n r n1 n2 n3 n4 q => va_newa (atype := .byte) hx hb (hts _ hok) rfl hK hw.2.2.1 tm_WL_D hS hA (fun _ => rfl) n1 rfl (by show _ * 1 ≤ _; omega) n3 n4 (tm_dec hd rfl) q) hs hc kN
    | char => exact tm_nar_r (t := 2) (z := fun _ => .inl (fun _ => 0)) rfl hK hw hz (fun n r n1 n2 n3 n4 q => va_newa (atype := .char) hx hb (hts _ hok) rfl hK hw.2.2.1 tm_WL_D hS hA (fun _ => rfl) n1 rfl (by show _ * 2 ≤ _; omega) n3 n4 (tm_dec hd rfl) q) hs hc kN
    | long => exact tm_nar_r (t := 3) (z := fun _ => .inr (.inl (fun _ => 0))) rfl hK hw hz (fun n r n1 n2 n3 n4 q => va_newa (atype := .long) hx hb (hts _ hok) rfl hK hw.2.2.1 tm_WL_D hS hA (fun _ => rfl) n1 rfl (by show _ * 8 ≤ _; omega) n3 n4 (tm_dec hd rfl) q) hs hc kN
    | boolean => exact tm_nar_r (t := 4) (z := fun _ => .inl (fun _ => 0)) rfl hK hw hz (fun n r n1 n2 n3 n4 q => va_newa (atype := .boolean) hx hb (hts _ hok) rfl hK hw.2.2.1 tm_WL_D hS hA (fun _ => rfl) n1 rfl (by show _ * 1 ≤ _; omega) n3 n4 (tm_dec hd rfl) q) hs hc kN
    | _ => cases hs
  | anewarray k => exact tm_nar_r (t := 5) (z := fun _ => .inr (.inr (.inr (.inr (fun _ => none))))) rfl hK hw hz (fun n r n1 n2 n3 n4 q => va_newq hx hb hown (hts _ hok.1) (hok.2 s hEX) hK hw.2.2.1 tm_WL_D hS hA n1 rfl (by omega) n3 n4 (tm_dec hd rfl) q) hs hc kN
  | invokespecial k =>
    simp only [tm_stp] at hs
    split at hs
    · rename_i hb0
      subst hb0
      exact tm_oi_r hx hb hts hown hsz hok (tm_dec hd rfl) hR hs k0
    · unfold tm_ci at hs
      split at hs
      · split at hs <;> cases hs
      · cases hs
  | invokestatic k =>
    simp only [tm_stp] at hs
    split at hs
    · rename_i hb0
      subst hb0
      exact tm_cp_r hx hb hts hown hsz hK hok (tm_dec hd rfl) hw hS hR hs kP
    · rename_i hb0
      split at hs
      · rename_i hb1
        subst hb1
        unfold tm_mx at hs
        split at hs
        · split at hs
          · rename_i hc1
            cases hs
            exact va_mmax hx hb hsz.symm hown (hts _ hok.1) (hts _ hok.2.1) (hts _ hok.2.2.1) (hts _ hok.2.2.2) (by omega) (by have := hc1.2; unfold tm_cs at this; omega) (by omega) (by omega) (tm_dec hd rfl) (k0 rfl rfl)
          · cases hs
        · cases hs
      · split at hs
        · rename_i hb1
          subst hb1
          unfold tm_mn at hs
          split at hs
          · split at hs
            · rename_i hc1
              cases hs
              exact va_mmin hx hb hsz.symm hown (hts _ hok.1) (hts _ hok.2.1) (hts _ hok.2.2.1) (hts _ hok.2.2.2) (by omega) (by have := hc1.2; unfold tm_cs at this; omega) (by omega) (by omega) (tm_dec hd rfl) (k0 rfl rfl)
            · cases hs
          · cases hs
        · split at hs
          · rename_i hb1
            subst hb1
            unfold tm_ab at hs
            split at hs
            · split at hs
              · rename_i hc1
                cases hs
                exact va_mabs hx hb hsz.symm hown (hts _ hok.1) (hts _ hok.2.1) (hts _ hok.2.2.1) (hts _ hok.2.2.2) (by omega) (by have := hc1.2; unfold tm_cs at this; omega) (by omega) (by omega) (tm_dec hd rfl) (k0 rfl rfl)
              · cases hs
            · cases hs
          · unfold tm_ca at hs
            split at hs
            split at hs <;> cases hs
  | invokevirtual k =>
    simp only [tm_stp, tm_cv] at hs
    split at hs
    · split at hs
      · split at hs <;> cases hs
      · split at hs
        · split at hs <;> cases hs
        · cases hs
    · cases hs
  | ireturn =>
    simp only [tm_stp] at hs
    split at hs
    · split at hs <;> cases hs
    · cases hs
  | lreturn => simp only [tm_stp] at hs; split at hs <;> cases hs
  | areturn => simp only [tm_stp] at hs; split at hs <;> cases hs
  | return_ => simp only [tm_stp] at hs; split at hs <;> cases hs
  | _ => cases hs
end TMX
end
section
def tm_rm (d mc ms : Nat) : Room := { frames := d, cells := mc, slots := ms, locals := 41 * d }
def tm_Pc (cl : List vw_C) (D : va_G) (tc : Nat → ClassId) (lo : Nat) (K : String) (EX : State → Prop) (as : List Value) (h : tm_H) : Array Value → State → Prop := va_Pc as (fun U => U.heap.size = h.1 ∧ tm_HW D cl tc lo h U.heap ∧ va_K D cl (tm_tys K tc) U ∧ EX U)
def tm_Qc (cl : List vw_C) (D : va_G) (tc : Nat → ClassId) (lo : Nat) (r : Option Value) (h : tm_H) : Array Value → State → Outcome → State → Prop := fun _ st oc t => oc = .returned r ∧ t.heap.size = h.1 ∧ tm_HW D cl tc lo h t.heap ∧ va_F (fun q => lo ≤ q) st t
def tm_ws (G : tm_G) (tbl : List Cond) (mi : Nat) : List Cond := Cond.code (tm_mt G mi).1 (tm_mt G mi).2.1 (tm_mt G mi).2.2.1 (tm_mt G mi).2.2.2.1 :: tbl
/-- method mi, from the heap h with these arguments, returns r and leaves h' -/
def tm_Met (G : tm_G) (cl : List vw_C) (tbl : List Cond) (D : va_G) (tc : Nat → ClassId) (lo : Nat) (K : String) (EX : State → Prop) (l : Launch) (d mi : Nat) (as : List Value) (h : tm_H) (r : Option Value) (h' : tm_H) : Prop :=
  Met l (tm_mt G mi).1 (tm_ws G tbl mi) (tm_rm d (h'.1 - h.1) (h'.2.1 - h.2.1)) (tm_Pc cl D tc lo K EX as h) (tm_Qc cl D tc lo r h') (h'.1 - h.1) (h'.2.1 - h.2.1) (fun q => lo ≤ q)
/-- what stands below lo and in the tables stays as it is known -/
def tm_cls (lo : Nat) (EX : State → Prop) : Prop := ∀ U U' : State, (∀ q, q < lo → U'.heap[q]? = U.heap[q]?) → (U'.vm = U.vm ∨ U.WarmedH U'.vm) → EX U → EX U'
def tm_good (tbl : List Cond) : Prop := ∀ w ∈ tbl, (w.onTables && w.keeps) = true ∨ ∃ ty, w = .arrayClass ty
theorem tm_GI {tbl ws : List Cond} (hg : tm_good tbl) (h : ∀ w ∈ ws, w ∈ tbl) : GoodIn tbl ws := fun w hw => ⟨h w hw, hg w (h w hw)⟩
/-- the instruction by which a method of that type returns r -/
def tm_ret (ty : Option FieldType) (i : Instr) (r : Option Value) : Prop := match r with
  | some (.int v) => i = .ireturn ∧ ∃ rt, ty = some rt ∧ narrow rt (.int v) = .int v
  | some (.long _) => i = .lreturn ∧ ty = some .long
  | some (.ref _) => i = .areturn ∧ ∃ rt, ty = some rt ∧ ((∃ n, rt = .object n) ∨ ∃ t, rt = .array t)
  | none => i = .return_ ∧ ty = none
  | _ => False
set_option maxHeartbeats 4000000 in
set_option maxRecDepth 10000 in
theorem tm_mono1 {G : tm_G} {d pc pc' : Nat} {en : tm_N} {ls ls' st st' : List Value} {h h1 : tm_H} (hs : tm_stp G d en pc ls st h = some (.inl (pc', ls', st', h1))) : h.1 ≤ h1.1 ∧ h.2.1 ≤ h1.2.1 := by
  obtain ⟨i, a, b⟩ := en
  have hN : ∀ {k : Nat} {x : tm_E}, h.1 ≤ (tm_new h k x).1 ∧ h.2.1 ≤ (tm_new h k x).2.1 := fun {k x} => ⟨Nat.le_succ _, Nat.le_add_right _ _⟩
  cases i with
  | newarray t => cases t <;> first | (cases hs; done) | (simp only [tm_stp, tm_nar] at hs; repeat' (split at hs)) <;> first | (cases hs; done) | (cases hs; exact hN)
  | tableswitch w1 w2 w3 w4 =>
    simp only [tm_stp, tm_tsw, tm_jmp] at hs
    repeat' (split at hs)
    all_goals first | (cases hs; done) | (cases hs; exact ⟨Nat.le_refl _, Nat.le_refl _⟩)
  | lookupswitch w1 w2 =>
    simp only [tm_stp, tm_lsw, tm_jmp] at hs
    repeat' (split at hs)
    all_goals first | (cases hs; done) | (cases hs; exact ⟨Nat.le_refl _, Nat.le_refl _⟩)
  | ifCond cd off =>
    simp only [tm_stp] at hs
    cases cd <;> simp only [tm_b1] at hs <;> repeat' (split at hs)
    all_goals first | (cases hs; done) | (cases hs; exact ⟨Nat.le_refl _, Nat.le_refl _⟩)
  | if_icmp cd off =>
    simp only [tm_stp] at hs
    cases cd <;> simp only [tm_b2] at hs <;> repeat' (split at hs)
    all_goals first | (cases hs; done) | (cases hs; exact ⟨Nat.le_refl _, Nat.le_refl _⟩)
  | _ =>
    first
    | (cases hs; done)
    | (simp only [tm_stp, tm_i1, tm_i2, tm_d2, tm_l1, tm_l2, tm_e2, tm_s2, tm_ldi, tm_ldl, tm_lda, tm_sti, tm_sta, tm_stl, tm_inc, tm_ldc, tm_get, tm_set, tm_ild, tm_bld, tm_cld, tm_lld, tm_ald, tm_isr, tm_bsr, tm_csr, tm_lsr, tm_asr, tm_aln, tm_nar, tm_nw, tm_oi, tm_cp, tm_mx, tm_mn, tm_ab, tm_ci, tm_ca, tm_cv, tm_nx] at hs
       repeat' (split at hs)
       all_goals first | (cases hs; done) | (cases hs; exact ⟨Nat.le_refl _, Nat.le_refl _⟩) | (cases hs; exact hN))
set_option maxHeartbeats 4000000 in
set_option maxRecDepth 10000 in
theorem tm_only {G : tm_G} {d pc : Nat} {i : Instr} {a b : Nat} {ls st : List Value} {h : tm_H} {x : Nat × List Value × List Value} (hs : tm_stp G d (i, a, b) pc ls st h = some (.inr (.inr x))) : (∃ k, i = .invokevirtual k) ∨ (∃ k, i = .invokespecial k) ∨ ∃ k, i = .invokestatic k := by
  cases i with
  | newarray t => cases t <;> first | (cases hs; done) | (simp only [tm_stp, tm_nar, tm_nx] at hs; repeat' (split at hs)) <;> (cases hs; done)
  | tableswitch w1 w2 w3 w4 =>
    simp only [tm_stp, tm_tsw, tm_jmp, tm_nx] at hs
    repeat' (split at hs)
    all_goals (cases hs; done)
  | lookupswitch w1 w2 =>
    simp only [tm_stp, tm_lsw, tm_jmp, tm_nx] at hs
    repeat' (split at hs)
    all_goals (cases hs; done)
  | ifCond cd off =>
    simp only [tm_stp] at hs
    cases cd <;> simp only [tm_b1, tm_nx] at hs <;> repeat' (split at hs)
    all_goals (cases hs; done)
  | if_icmp cd off =>
    simp only [tm_stp] at hs
    cases cd <;> simp only [tm_b2, tm_nx] at hs <;> repeat' (split at hs)
    all_goals (cases hs; done)
  | invokevirtual k => exact Or.inl ⟨k, rfl⟩
  | invokespecial k => exact Or.inr (Or.inl ⟨k, rfl⟩)
  | invokestatic k => exact Or.inr (Or.inr ⟨k, rfl⟩)
  | _ =>
    first
    | (cases hs; done)
    | (simp only [tm_stp, tm_i1, tm_i2, tm_d2, tm_l1, tm_l2, tm_e2, tm_s2, tm_ldi, tm_ldl, tm_lda, tm_sti, tm_sta, tm_stl, tm_inc, tm_ldc, tm_get, tm_set, tm_ild, tm_bld, tm_cld, tm_lld, tm_ald, tm_isr, tm_bsr, tm_csr, tm_lsr, tm_asr, tm_aln, tm_nar, tm_nw, tm_oi, tm_cp, tm_mx, tm_mn, tm_ab, tm_ci, tm_ca, tm_cv, tm_nx] at hs
       repeat' (split at hs)
       all_goals (cases hs; done))
set_option maxHeartbeats 4000000 in
set_option maxRecDepth 10000 in
theorem tm_rets {G : tm_G} {d pc : Nat} {i : Instr} {a b : Nat} {ls st : List Value} {h : tm_H} {r : Option Value} {cl : List vw_C} {tbl : List Cond} {K : String} {EX : State → Prop} {M : Nat} (hok : tm_ok G cl tbl K EX M pc (i, a, b)) (hs : tm_stp G d (i, a, b) pc ls st h = some (.inr (.inl r))) : tm_ret (tm_mt G M).2.2.2.1 i r ∧ st = r.toList ∧ tm_len i = 1 := by
  cases i with
  | newarray t => cases t <;> first | (cases hs; done) | (simp only [tm_stp, tm_nar, tm_nx] at hs; repeat' (split at hs)) <;> (cases hs; done)
  | tableswitch w1 w2 w3 w4 =>
    simp only [tm_stp, tm_tsw, tm_jmp, tm_nx] at hs
    repeat' (split at hs)
    all_goals (cases hs; done)
  | lookupswitch w1 w2 =>
    simp only [tm_stp, tm_lsw, tm_jmp, tm_nx] at hs
    repeat' (split at hs)
    all_goals (cases hs; done)
  | ifCond cd off =>
    simp only [tm_stp] at hs
    cases cd <;> simp only [tm_b1, tm_nx] at hs <;> repeat' (split at hs)
    all_goals (cases hs; done)
  | if_icmp cd off =>
    simp only [tm_stp] at hs
    cases cd <;> simp only [tm_b2, tm_nx] at hs <;> repeat' (split at hs)
    all_goals (cases hs; done)
  | ireturn =>
    simp only [tm_stp] at hs
    split at hs
    · split at hs
      · rename_i hv
        cases hs
        exact ⟨⟨rfl, _, hok.2, hv⟩, rfl, rfl⟩
      · cases hs
    · cases hs
  | lreturn => simp only [tm_stp] at hs; split at hs <;> first | (cases hs; exact ⟨⟨rfl, hok.2⟩, rfl, rfl⟩) | cases hs
  | areturn => simp only [tm_stp] at hs; split at hs <;> first | (cases hs; exact ⟨⟨rfl, hok.2⟩, rfl, rfl⟩) | cases hs
  | return_ => simp only [tm_stp] at hs; split at hs <;> first | (cases hs; exact ⟨⟨rfl, hok.2⟩, rfl, rfl⟩) | cases hs
  | _ =>
    first
    | (cases hs; done)
    | (simp only [tm_stp, tm_i1, tm_i2, tm_d2, tm_l1, tm_l2, tm_e2, tm_s2, tm_ldi, tm_ldl, tm_lda, tm_sti, tm_sta, tm_stl, tm_inc, tm_ldc, tm_get, tm_set, tm_ild, tm_bld, tm_cld, tm_lld, tm_ald, tm_isr, tm_bsr, tm_csr, tm_lsr, tm_asr, tm_aln, tm_nar, tm_nw, tm_oi, tm_cp, tm_mx, tm_mn, tm_ab, tm_ci, tm_ca, tm_cv, tm_nx] at hs
       repeat' (split at hs)
       all_goals (cases hs; done))
end
section
section TMR
variable {p : Program} {l : Launch} {e : Env} {R : Room} {s : State} {m : MethodId} {args : Array Value} {below : List Frame} {meth : Method} {c : Code} {H : Heap} {locs : List Loc} {cells slots : Nat} {Q : State → Prop}
variable {pc : Nat} {lsC : Array Slot}
variable {G : tm_G} {cl : List vw_C} {tbl : List Cond} {D : va_G} {tc : Nat → ClassId} {lo : Nat} {K : String} {EX : State → Prop} {M d : Nat} {ls st : List Value} {h h' : tm_H} {r : Option Value}
theorem tm_callW {mc ms : Nat} {rest : List Value} {a : Array Value} (hr : va_Run p l e R s m args below meth c H locs cells slots mc ms (F0 m pc lsC st) rest (tm_Qc cl D tc lo r h' a) (fun q => lo ≤ q)) (hS : va_S (fun q => lo ≤ q) s.heap H locs)
    (kk : ∀ (H1 : Heap) (locs1 : List Loc), H1.size = h'.1 → tm_HW D cl tc lo h' H1 → va_S (fun q => lo ≤ q) s.heap H1 locs1 → W p l e R s m args below meth c H1 locs1 (cells + mc) (slots + ms) Q (F0 m (pc + 3) lsC (r.toList ++ rest))) : W p l e R s m args below meth c H locs cells slots Q (F0 m pc lsC st) := by
  intro T hT X
  obtain ⟨v, st₀, t, T', L, h0, X', hL, e1, e2, ⟨hv, hz, hw, hF⟩, st⟩ := hr T hT X
  cases hv
  obtain ⟨f1, f2⟩ := hF
  rw [h0] at f1 f2
  obtain ⟨t2, a1, b1⟩ := kk T'.heap (locs ++ L) (by rw [e1]; exact hz) (by rw [e1]; exact hw)
    ⟨Nat.le_trans hS.1 (by rw [e1]; exact f1), fun q h1 h2 => by rw [e1, f2 q (Nat.lt_of_lt_of_le h1 hS.1) h2]; exact hS.2.1 q h1 h2, fun q hq => by
      rcases List.mem_append.mp hq with h | h
      · exact hS.2.2 q h
      · exact hL q h⟩ T' rfl X'
  exact ⟨t2, st t2 a1, b1⟩
theorem tm_blind (hcl : tm_cls lo EX) {as : List Value} : FrameBlind (tm_Pc cl D tc lo K EX as h) := by
  rintro a U g mk ⟨q1, q2, q3, q4, q5⟩
  exact ⟨q1, q2, q3, va_K.moved (u := U) (U := U.calling g mk a) (Vm.Alike.refl U.vm) q4, hcl U (U.calling g mk a) (fun _ _ => rfl) (Or.inl rfl) q5⟩
theorem tm_preU (hcl : tm_cls lo EX) (hK : va_K D cl (tm_tys K tc) s) (hEX : EX s) (hlo : lo ≤ s.heap.size) (hw : tm_HW D cl tc lo h H) (hS : va_S (fun q => lo ≤ q) s.heap H locs) (hz : H.size = h.1) {as : List Value} (U : State) (hU : U.heap = H) (hW : s.WarmedH U.vm) : tm_Pc cl D tc lo K EX as h as.toArray U :=
  ⟨rfl, by rw [hU]; exact hz, by rw [hU]; exact hw, va_K.moved hW.alike hK, hcl s U (fun q hq => by rw [hU]; exact hS.2.1 q (Nat.lt_of_lt_of_le hq hlo) (Nat.not_le.mpr hq)) (Or.inr hW) hEX⟩
/-- a call -/
theorem tm_call {i : Instr} {a b : Nat} {as rest : List Value} {d' mi : Nat} (hmi : mi < 1000) (hcl : tm_cls lo EX) (hg : tm_good tbl) (hok : tm_ok G cl tbl K EX M pc (i, a, b)) (C0 : tm_C G cl tbl D tc lo K EX M p s m args meth c) (hw : tm_HW D cl tc lo h H) (hS : va_S (fun q => lo ≤ q) s.heap H locs) (hL : tm_LR lsC (tm_mt G M).2.2.1 ls) (hz : h.1 = s.heap.size + cells) (hR : d' + 1 ≤ R.frames ∧ 41 * (d' + 1) ≤ R.locals)
    (hs : tm_stp G (d' + 1) (i, a, b) pc ls st h = some (.inr (.inr (mi, as, rest)))) (hM : tm_Met G cl tbl D tc lo K EX l d' mi as h r h') (hm : h.1 ≤ h'.1 ∧ h.2.1 ≤ h'.2.1) (hc : cells + h'.1 ≤ R.cells + h.1 ∧ slots + h'.2.1 ≤ R.slots + h.2.1)
    (kk : ∀ (H1 : Heap) (locs1 : List Loc) (cells1 slots1 : Nat), cells1 + h.1 = cells + h'.1 → slots1 + h.2.1 = slots + h'.2.1 → tm_HW D cl tc lo h' H1 → va_S (fun q => lo ≤ q) s.heap H1 locs1 → W p l e R s m args below meth c H1 locs1 cells1 slots1 Q (F0 m (pc + 3) lsC (r.toList ++ rest))) : W p l e R s m args below meth c H locs cells slots Q (F0 m pc lsC st) := by
  obtain ⟨hx, hb, hml, hr, hown, hts, hK, hlk, hnm, hlo, hEX⟩ := C0
  refine tm_size hz hw (fun hH => ?_)
  have hsz : lsC.size = (tm_mt G M).2.2.1 := hL.2.1
  have kk' : ∀ (H1 : Heap) (locs1 : List Loc), H1.size = h'.1 → tm_HW D cl tc lo h' H1 → va_S (fun q => lo ≤ q) s.heap H1 locs1 → W p l e R s m args below meth c H1 locs1 (cells + (h'.1 - h.1)) (slots + (h'.2.1 - h.2.1)) Q (F0 m (pc + 3) lsC (r.toList ++ rest)) := fun H1 locs1 _ q2 q3 => kk H1 locs1 _ _ (by omega) (by omega) q2 q3
  have hbl : FrameBlind (tm_Pc cl D tc lo K EX as h) := tm_blind hcl
  have hpU : ∀ U : State, U.heap = H → s.WarmedH U.vm → tm_Pc cl D tc lo K EX as h as.toArray U := tm_preU hcl hK hEX hlo hw hS hH
  have hcc : cells + (h'.1 - h.1) ≤ R.cells ∧ slots + (h'.2.1 - h.2.1) ≤ R.slots := by omega
  obtain ⟨hd, hok⟩ := hok
  have hpop : ∀ (n : Nat) (st : List Value), st = (tm_pop n st).1.reverse ++ (tm_pop n st).2 := fun n st => by simp [tm_pop]
  rcases tm_only hs with ⟨k, rfl⟩ | ⟨k, rfl⟩ | ⟨k, rfl⟩
  · simp only [tm_stp, tm_cv] at hs
    split at hs
    · rename_i as' o r' hp
      split at hs
      · split at hs <;> cases hs
        omega
      split at hs
      · rename_i ho
        split at hs
        · rename_i hcd
          cases hs
          simp only [tm_okr, show ¬ 1000 ≤ a by omega, if_false] at hok
          obtain ⟨⟨o1, o2, o3, o4, o5, o6⟩, o7, o8, o9, T, N, o10⟩ := hok
          obtain ⟨hc1, hc2, hc3⟩ := hcd
          subst hc1
          obtain ⟨-, -, q3⟩ := hw.obj ho
          have hst : st = as'.reverse ++ .ref o :: rest := by have := hpop b st; rw [hp] at this; exact this
          refine tm_callW (va_runV (As := as') (rest := rest) (b := o) ⟨hx, hb, hml, hown, hts⟩ hM (cwV b hts (tm_GI hg ?_) rfl rfl rfl ⟨rfl, o3, o4, o5⟩ ⟨hR.1, by show 8 + (_ + 11) + 41 * d' ≤ _; omega⟩) ⟨hbl, va_recv hK hw.2.2.1 o10 q3, hpU⟩ rfl hc2 hsz hst (lv_room hc3) (tm_dec hd rfl) hcc) hS kk'
          intro w hw'
          simp only [wsV, tm_ws, List.cons_append, List.nil_append, List.mem_cons] at hw'
          rcases hw' with rfl | rfl | rfl | rfl | rfl | hw'
          · exact o7
          · exact o8
          · exact o9
          · exact o2
          · exact o1
          · exact hw'
        · cases hs
      · cases hs
    · cases hs
  · simp only [tm_stp] at hs
    split at hs
    · unfold tm_oi at hs
      split at hs
      · split at hs <;> cases hs
      · cases hs
    · rename_i hb0
      simp only [tm_okr, hb0, if_false] at hok
      obtain ⟨⟨o1, o2, o3, o4, o5, o6⟩, o7, o8, o9, o10⟩ := hok
      unfold tm_ci at hs
      split at hs
      · rename_i as' o r' hp
        split at hs
        · rename_i hcd
          cases hs
          obtain ⟨hc2, hc3⟩ := hcd
          have hst : st = as'.reverse ++ .ref o :: rest := by have := hpop b st; rw [hp] at this; exact this
          have hG : GoodIn tbl (tm_ws G tbl a) := tm_GI hg (fun w hw' => by
            rcases List.mem_cons.mp hw' with rfl | hw'
            · exact o1
            · exact hw')
          rcases o7 with o7 | ⟨host, o7⟩
          · exact tm_callW (va_runI (As := as') (rest := rest) (b := o) ⟨hx, hb, hml, hown, hts⟩ hM (cwI b hts hG (by unfold tm_ws; rw [o10]) rfl rfl (hts _ o2) (hts _ o7) (hts _ o9) o8 ⟨o3, o4, o5⟩ ⟨hR.1, by show 8 + (_ + 11) + 41 * d' ≤ _; omega⟩) ⟨hbl, hpU⟩ rfl hc2 hsz hst (lv_room hc3) (tm_dec hd rfl) hcc) hS kk'
          · exact tm_callW (va_runIN (As := as') (rest := rest) (b := o) ⟨hx, hb, hml, hown, hts⟩ hM ⟨va_cnB b hts hG (by unfold tm_ws; rw [o10]) rfl rfl (o7 s hEX) (hts _ o2) ⟨o3, o4, o5⟩ ⟨hR.1, by show 8 + (_ + 11) + 41 * d' ≤ _; omega⟩, o8, hts _ o9⟩ ⟨hbl, hpU⟩ rfl hc2 hsz hst (lv_room hc3) (tm_dec hd rfl) hcc) hS kk'
        · cases hs
      · cases hs
  · simp only [tm_stp] at hs
    split at hs
    · unfold tm_cp at hs
      split at hs
      · split at hs
        · split at hs <;> cases hs
        · cases hs
      · cases hs
    split at hs
    · unfold tm_mx at hs
      split at hs
      · split at hs <;> cases hs
      · cases hs
    split at hs
    · unfold tm_mn at hs
      split at hs
      · split at hs <;> cases hs
      · cases hs
    split at hs
    · unfold tm_ab at hs
      split at hs
      · split at hs <;> cases hs
      · cases hs
    · rename_i hb0 hb1 hb2 hb3
      unfold tm_ca at hs
      split at hs
      rename_i as' r' hp
      split at hs
      · rename_i hcd
        cases hs
        simp only [tm_okr, hb0, hb1, hb2, hb3, if_false, show ¬ 1000 ≤ a by omega] at hok
        obtain ⟨⟨o1, o2, o3, o4, o5, o6⟩, o7, o8⟩ := hok
        obtain ⟨hc2, hc3⟩ := hcd
        have hst : st = as.reverse ++ rest := by have := hpop b st; rw [hp] at this; exact this
        have hG : GoodIn tbl (tm_ws G tbl a) := tm_GI hg (fun w hw' => by
            rcases List.mem_cons.mp hw' with rfl | hw'
            · exact o1
            · exact hw')
        rcases o7 with o7 | ⟨host, o7⟩
        · refine tm_callW (va_runS (As := as) (rest := rest) ⟨hx, hb, hml, hown, hts⟩ hM (va_cwS b hts (tm_GI hg ?_) rfl rfl rfl ⟨o3, o4, o5⟩ ⟨hR.1, by show 8 + (_ + 11) + 41 * d' ≤ _; omega⟩) ⟨hbl, hpU⟩ rfl hc2 hsz hst (lv_room hc3) (tm_dec hd rfl) hcc) hS kk'
          intro w hw'
          simp only [va_wsS, tm_ws, List.cons_append, List.nil_append, List.mem_cons] at hw'
          rcases hw' with rfl | rfl | rfl | rfl | hw'
          · exact o7
          · exact o8
          · exact o2
          · exact o1
          · exact hw'
        · exact tm_callW (va_runSN (As := as) (rest := rest) ⟨hx, hb, hml, hown, hts⟩ hM ⟨va_cnB b hts hG rfl rfl rfl (o7 s hEX) (hts _ o2) ⟨o3, o4, o5⟩ ⟨hR.1, by show 8 + (_ + 11) + 41 * d' ≤ _; omega⟩, hts _ o8, trivial⟩ ⟨hbl, hpU⟩ rfl hc2 hsz hst (lv_room hc3) (tm_dec hd rfl) hcc) hS kk'
      · cases hs
/-- the rule of a call of mi that leaves h' and answers r -/
def tm_CK (G : tm_G) (cl : List vw_C) (tbl : List Cond) (D : va_G) (tc : Nat → ClassId) (lo : Nat) (K : String) (EX : State → Prop) (l : Launch) (d' mi : Nat) (as : List Value) (h : tm_H) (r : Option Value) (h' : tm_H) : Prop :=
  ∀ {p : Program} {e : Env} {R : Room} {s : State} {m : MethodId} {args : Array Value} {below : List Frame} {meth : Method} {c : Code} {H : Heap} {locs : List Loc} {cells slots : Nat} {Q : State → Prop} {lsC : Array Slot} {M pc : Nat} {ls st rest : List Value} {i : Instr} {a b : Nat},
    tm_ok G cl tbl K EX M pc (i, a, b) → tm_C G cl tbl D tc lo K EX M p s m args meth c → tm_HW D cl tc lo h H → va_S (fun q => lo ≤ q) s.heap H locs → tm_LR lsC (tm_mt G M).2.2.1 ls → h.1 = s.heap.size + cells → (d' + 1 ≤ R.frames ∧ 41 * (d' + 1) ≤ R.locals) → tm_stp G (d' + 1) (i, a, b) pc ls st h = some (.inr (.inr (mi, as, rest))) → (cells + h'.1 ≤ R.cells + h.1 ∧ slots + h'.2.1 ≤ R.slots + h.2.1) →
    (∀ (H1 : Heap) (locs1 : List Loc) (cells1 slots1 : Nat), cells1 + h.1 = cells + h'.1 → slots1 + h.2.1 = slots + h'.2.1 → tm_HW D cl tc lo h' H1 → va_S (fun q => lo ≤ q) s.heap H1 locs1 → W p l e R s m args below meth c H1 locs1 cells1 slots1 Q (F0 m (pc + 3) lsC (r.toList ++ rest))) → W p l e R s m args below meth c H locs cells slots Q (F0 m pc lsC st)
theorem tm_CK.ofMet {d' mi : Nat} {as : List Value} (hmi : mi < 1000) (hcl : tm_cls lo EX) (hg : tm_good tbl) (hM : tm_Met G cl tbl D tc lo K EX l d' mi as h r h') (hm : h.1 ≤ h'.1 ∧ h.2.1 ≤ h'.2.1) : tm_CK G cl tbl D tc lo K EX l d' mi as h r h' :=
  fun hok C0 hw hS hL hz hR hs hc kk => tm_call hmi hcl hg hok C0 hw hS hL hz hR hs hM hm hc kk
/-- what every program must keep: its tables are the class files', what it is said to do it does -/
def tm_prog (G : tm_G) (cl : List vw_C) (tbl : List Cond) (D : va_G) (tc : Nat → ClassId) (lo : Nat) (K : String) (EX : State → Prop) (l : Launch) : Prop :=
  tm_cls lo EX ∧ tm_good tbl ∧ (∀ s, EX s → tm_SC G lo s) ∧ (∀ M pc en, tm_ft G M pc = some en → tm_ok G cl tbl K EX M pc en) ∧ (∀ M, M < 1000 → plainName (tm_mt G M).1.cls = true) ∧
  (∀ mi d as h r h', tm_xt G mi d as h = some (r, h') → tm_CK G cl tbl D tc lo K EX l d mi as h r h' ∧ h.1 ≤ h'.1 ∧ h.2.1 ≤ h'.2.1)
theorem tm_mono (hP : tm_prog G cl tbl D tc lo K EX l) : ∀ {n d M pc : Nat} {ls st : List Value} {h h' : tm_H} {r : Option Value}, tm_run G n d M pc ls st h = some (r, h') → h.1 ≤ h'.1 ∧ h.2.1 ≤ h'.2.1 := by
  obtain ⟨-, -, -, -, -, hX⟩ := hP
  intro n
  induction n with
  | zero => intro d M pc ls st h h' r hr; cases hr
  | succ n ih =>
    intro d M pc ls st h h' r hr
    unfold tm_run at hr
    split at hr
    · cases hr
    · split at hr
      · cases hr
      · rename_i hs
        have h1 := tm_mono1 hs
        have h2 := ih hr
        omega
      · cases hr
        exact ⟨Nat.le_refl _, Nat.le_refl _⟩
      · split at hr
        · cases hr
        · split at hr
          · cases hr
          · rename_i hq
            have h2 := ih hr
            split at hq
            · have h1 := ih hq
              omega
            · have h1 := (hX _ _ _ _ _ _ hq).2
              omega
/-- A RUN OF THE THIN MACHINE IS A RUN OF THE MACHINE -/
theorem tm_sound (hP : tm_prog G cl tbl D tc lo K EX l) : ∀ {n d M pc : Nat} {ls st : List Value} {h h' : tm_H} {r : Option Value}, tm_run G n d M pc ls st h = some (r, h') →
    ∀ {p : Program} {e : Env} {R : Room} {s : State} {m : MethodId} {args : Array Value} {below : List Frame} {meth : Method} {c : Code} {H : Heap} {locs : List Loc} {cells slots : Nat} {Q : State → Prop} {lsC : Array Slot}, tm_C G cl tbl D tc lo K EX M p s m args meth c → tm_HW D cl tc lo h H → va_S (fun q => lo ≤ q) s.heap H locs → tm_LR lsC (tm_mt G M).2.2.1 ls → h.1 = s.heap.size + cells → (d ≤ R.frames ∧ 41 * d ≤ R.locals) → (cells + h'.1 ≤ R.cells + h.1 ∧ slots + h'.2.1 ≤ R.slots + h.2.1) →
      (∀ (pcR : Nat) (i : Instr) (H1 : Heap) (locs1 : List Loc) (lsD : Array Slot) (cells1 slots1 : Nat), decode (tm_mt G M).2.1 pcR = .ok (i, 1) → tm_ret (tm_mt G M).2.2.2.1 i r → cells1 + h.1 = cells + h'.1 → slots1 + h.2.1 = slots + h'.2.1 → H1.size = h'.1 → tm_HW D cl tc lo h' H1 → va_S (fun q => lo ≤ q) s.heap H1 locs1 → W p l e R s m args below meth c H1 locs1 cells1 slots1 Q (F0 m pcR lsD r.toList)) →
      W p l e R s m args below meth c H locs cells slots Q (F0 m pc lsC st) := by
  have hP0 := hP
  obtain ⟨hcl, hg, hsc, hft, hpl, hX⟩ := hP
  intro n
  induction n with
  | zero => intro d M pc ls st h h' r hr; cases hr
  | succ n ih =>
    intro d M pc ls st h h' r hr p e R s m args below meth c H locs cells slots Q lsC C0 hw hS hL hz hR hc hQ
    unfold tm_run at hr
    split at hr
    · cases hr
    · rename_i en hen
      have hok := hft M pc en hen
      split at hr
      · cases hr
      · rename_i pc' ls' st' h1 hs
        have g1 := tm_mono1 hs
        have g2 := tm_mono hP0 hr
        refine tm_next hsc hok C0 hw hS hL hz hR hs (by omega) (fun H1 locs1 lsD cells1 slots1 e1 e2 hw1 hS1 hL1 => ?_)
        exact ih hr C0 hw1 hS1 hL1 (by omega) hR (by omega) (fun pcR i H2 locs2 lsE cells2 slots2 q1 q2 q3 q4 q5 q6 q7 => hQ pcR i H2 locs2 lsE cells2 slots2 q1 q2 (by omega) (by omega) q5 q6 q7)
      · rename_i r' hs
        cases hr
        obtain ⟨i, a, b⟩ := en
        obtain ⟨t1, t2, t3⟩ := tm_rets hok hs
        refine tm_size hz hw (fun hH => ?_)
        rw [t2]
        exact hQ pc i H locs lsC cells slots (tm_dec hok.1 t3) t1 rfl rfl hH hw hS
      · rename_i mi as rest hs
        split at hr
        · cases hr
        · rename_i d'
          split at hr
          · cases hr
          · rename_i r1 h1 hq
            obtain ⟨i, a, b⟩ := en
            have g2 := tm_mono hP0 hr
            have hM : tm_CK G cl tbl D tc lo K EX l d' mi as h r1 h1 ∧ h.1 ≤ h1.1 ∧ h.2.1 ≤ h1.2.1 := by
              split at hq
              · rename_i hmi
                have g1 := tm_mono hP0 hq
                refine ⟨tm_CK.ofMet hmi.1 hcl hg ?_ g1, g1⟩
                unfold tm_Met
                refine Met.ofW (cc := (tm_mt G mi).2.1) (maxL := (tm_mt G mi).2.2.1) (ret := (tm_mt G mi).2.2.2.1) (hpl mi hmi.1) rfl ?_
                intro p2 e2 s2 m2 args2 below2 meth2 c2 s₁ B hml hv
                obtain ⟨rfl, v1, v2, v3, v4⟩ := hv
                have hts2 := atoms_spec (ws := tm_ws G tbl mi) B.pre
                have hn := name_of_methodNamed B.named B.method
                rw [lg_entry_eq]
                refine ih hq (R := tm_rm d' (h1.1 - h.1) (h1.2.1 - h.2.1)) ⟨B.exec, B.bytes, hml, B.returns, findClass_of_methodNamed B.named, fun w hw' => hts2 w (List.mem_cons_of_mem _ hw'), v3, B.notSynchronized, hn.1, by rw [v1]; exact v2.1, v4⟩ v2 va_S.rf (tm_LR.ent hmi.2) (by rw [v1]; rfl) ⟨Nat.le_refl _, Nat.le_refl _⟩ ⟨by show 0 + h1.1 ≤ (h1.1 - h.1) + h.1; omega, by show 0 + h1.2.1 ≤ (h1.2.1 - h.2.1) + h.2.1; omega⟩ ?_
                intro pcR i2 H2 locs2 lsE cells2 slots2 q1 q2 q3 q4 q5 q6 q7
                have hc2 : cells2 = h1.1 - h.1 := by omega
                have hs2 : slots2 = h1.2.1 - h.2.1 := by omega
                rw [hc2, hs2]
                have hend : ∀ t : State, t.heap = H2 → s2.WarmedH t.vm → tm_Qc cl D tc lo r1 h1 as.toArray s2 (.returned r1) t := fun t ht _ => ⟨rfl, by rw [ht]; exact q5, by rw [ht]; exact q6, q7.F ht⟩
                have hret := B.returns
                have hlk := B.notSynchronized
                have hfr : ∀ q ∈ locs2, lo ≤ q.base := q7.2.2
                cases r1 with
                | none =>
                  obtain ⟨rfl, q9⟩ := q2
                  exact W.vret B.exec B.bytes (hret.trans q9) hend hfr q1 hlk
                | some v =>
                  cases v with
                  | int v =>
                    obtain ⟨rfl, rt, q9, q10⟩ := q2
                    exact W.zret B.exec B.bytes (hret.trans q9) q10 hend hfr q1 hlk
                  | long v =>
                    obtain ⟨rfl, q9⟩ := q2
                    exact W.lret B.exec B.bytes (hret.trans q9) hend hfr q1 hlk
                  | ref v =>
                    obtain ⟨rfl, rt, q9, q10⟩ := q2
                    exact W.aret B.exec B.bytes (hret.trans q9) q10 (Or.inr ⟨v, rfl⟩) hend hfr q1 hlk
                  | _ => exact q2.elim
              · exact hX _ _ _ _ _ _ hq
            have hm := hM.2
            refine hM.1 hok C0 hw hS hL hz hR hs (by omega) (fun H1 locs1 cells1 slots1 e1 e2 hw1 hS1 => ?_)
            exact ih hr C0 hw1 hS1 hL (by omega) hR (by omega) (fun pcR i2 H2 locs2 lsE cells2 slots2 q1 q2 q3 q4 q5 q6 q7 => hQ pcR i2 H2 locs2 lsE cells2 slots2 q1 q2 (by omega) (by omega) q5 q6 q7)
end TMR
end
section
/-! what a run comes to: for plain proofs -/
theorem tm_fuel {G : tm_G} : ∀ {n : Nat} {d M pc : Nat} {ls st : List Value} {h : tm_H} {x : Option Value × tm_H}, tm_run G n d M pc ls st h = some x → ∀ k, n ≤ k → tm_run G k d M pc ls st h = some x := by
  intro n
  induction n with
  | zero => intro d M pc ls st h x hr; cases hr
  | succ n ih =>
    intro d M pc ls st h x hr k hk
    obtain ⟨k, rfl⟩ : ∃ j, k = j + 1 := ⟨k - 1, by omega⟩
    have hk : n ≤ k := by omega
    unfold tm_run at hr ⊢
    cases he : tm_ft G M pc with
    | none => rw [he] at hr; cases hr
    | some en =>
      rw [he] at hr
      dsimp only at hr ⊢
      cases hs : tm_stp G d en pc ls st h with
      | none => rw [hs] at hr; cases hr
      | some o =>
        rw [hs] at hr
        match o, hr with
        | .inl (pc', ls', st', h'), hr => exact ih hr k hk
        | .inr (.inl r), hr => exact hr
        | .inr (.inr (mi, as, rest)), hr =>
          dsimp only at hr ⊢
          cases d with
          | zero => exact hr
          | succ d' =>
            dsimp only at hr ⊢
            by_cases hm : mi < 1000 ∧ (tm_ex as).length ≤ (tm_mt G mi).2.2.1
            · rw [if_pos hm] at hr ⊢
              cases hq : tm_run G n d' mi 0 (tm_ent as (tm_mt G mi).2.2.1) [] h with
              | none => rw [hq] at hr; cases hr
              | some y =>
                rw [hq] at hr
                rw [ih hq k hk]
                exact ih hr k hk
            · rw [if_neg hm] at hr ⊢
              cases hq : tm_xt G mi d' as h with
              | none => rw [hq] at hr; cases hr
              | some y =>
                rw [hq] at hr
                exact ih hr k hk
/-- from here the method returns, and Q holds of what it returns and of the heap then -/
def tm_X (G : tm_G) (d M pc : Nat) (ls st : List Value) (h : tm_H) (Q : Option Value → tm_H → Prop) : Prop := ∃ n r h', tm_run G n d M pc ls st h = some (r, h') ∧ Q r h'
/-- a call of method mi -/
def tm_D (G : tm_G) (d mi : Nat) (as : List Value) (h : tm_H) (Q : Option Value → tm_H → Prop) : Prop := if mi < 1000 ∧ (tm_ex as).length ≤ (tm_mt G mi).2.2.1 then tm_X G d mi 0 (tm_ent as (tm_mt G mi).2.2.1) [] h Q else ∃ r h', tm_xt G mi d as h = some (r, h') ∧ Q r h'
/-- what an instruction's outcome asks -/
def tm_Y (G : tm_G) (d M pc : Nat) (ls : List Value) (h : tm_H) (Q : Option Value → tm_H → Prop) : Option tm_O → Prop
  | none => False
  | some (.inl (pc', ls', st', h')) => tm_X G d M pc' ls' st' h' Q
  | some (.inr (.inl r)) => Q r h
  | some (.inr (.inr (mi, as, rest))) => match d with
    | 0 => False
    | d' + 1 => tm_D G d' mi as h (fun r h' => tm_X G (d' + 1) M (pc + 3) ls (r.toList ++ rest) h' Q)
theorem tm_X_i {G : tm_G} {d M pc : Nat} {ls st : List Value} {h : tm_H} {Q : Option Value → tm_H → Prop} (en : tm_N) (he : tm_ft G M pc = some en) : tm_Y G d M pc ls h Q (tm_stp G d en pc ls st h) → tm_X G d M pc ls st h Q := by
  intro hy
  cases hs : tm_stp G d en pc ls st h with
  | none => rw [hs] at hy; exact hy.elim
  | some o =>
    rw [hs] at hy
    match o, hy with
    | .inl (pc', ls', st', h'), ⟨n, r, h2, hr, hq⟩ =>
      refine ⟨n + 1, r, h2, ?_, hq⟩
      unfold tm_run
      rw [he]
      dsimp only
      rw [hs]
      exact hr
    | .inr (.inl r), hy =>
      refine ⟨1, r, h, ?_, hy⟩
      unfold tm_run
      rw [he]
      dsimp only
      rw [hs]
    | .inr (.inr (mi, as, rest)), hy =>
      cases d with
      | zero => exact hy.elim
      | succ d' =>
        unfold tm_Y tm_D at hy
        by_cases hm : mi < 1000 ∧ (tm_ex as).length ≤ (tm_mt G mi).2.2.1
        · simp only [hm, and_self, if_true] at hy
          obtain ⟨n, r, h2, hr, n2, r2, h3, hr2, hq⟩ := hy
          refine ⟨max n n2 + 1, r2, h3, ?_, hq⟩
          unfold tm_run
          rw [he]
          dsimp only
          rw [hs]
          dsimp only
          rw [if_pos hm, tm_fuel hr _ (Nat.le_max_left _ _)]
          exact tm_fuel hr2 _ (Nat.le_max_right _ _)
        · simp only [hm, if_false] at hy
          obtain ⟨r, h2, hr, n2, r2, h3, hr2, hq⟩ := hy
          refine ⟨n2 + 1, r2, h3, ?_, hq⟩
          unfold tm_run
          rw [he]
          dsimp only
          rw [hs]
          dsimp only
          rw [if_neg hm, hr]
          exact hr2
theorem tm_X_m {G : tm_G} {d M pc : Nat} {ls st : List Value} {h : tm_H} {Q Q' : Option Value → tm_H → Prop} (hq : ∀ r h', Q r h' → Q' r h') : tm_X G d M pc ls st h Q → tm_X G d M pc ls st h Q' := fun ⟨n, r, h', h1, h2⟩ => ⟨n, r, h', h1, hq r h' h2⟩
theorem tm_D_m {G : tm_G} {d mi : Nat} {as : List Value} {h : tm_H} {Q Q' : Option Value → tm_H → Prop} (hq : ∀ r h', Q r h' → Q' r h') : tm_D G d mi as h Q → tm_D G d mi as h Q' := by
  unfold tm_D
  split
  · exact tm_X_m hq
  · exact fun ⟨r, h', h1, h2⟩ => ⟨r, h', h1, hq r h' h2⟩
theorem tm_X_o {G : tm_G} {d M pc : Nat} {ls st : List Value} {h : tm_H} {Q : Option Value → tm_H → Prop} (en : tm_N) (he : tm_ft G M pc = some en) : tm_X G d M pc ls st h Q → tm_Y G d M pc ls h Q (tm_stp G d en pc ls st h) := by
  rintro ⟨n, r, h2, hr, hq⟩
  cases n with
  | zero => cases hr
  | succ n =>
    unfold tm_run at hr
    rw [he] at hr
    dsimp only at hr
    cases hs : tm_stp G d en pc ls st h with
    | none => rw [hs] at hr; cases hr
    | some o =>
      rw [hs] at hr
      match o, hr with
      | .inl (pc', ls', st', h'), hr => exact ⟨n, r, h2, hr, hq⟩
      | .inr (.inl r'), hr => cases hr; exact hq
      | .inr (.inr (mi, as, rest)), hr =>
        dsimp only at hr
        cases d with
        | zero => cases hr
        | succ d' =>
          dsimp only at hr
          unfold tm_Y tm_D
          by_cases hm : mi < 1000 ∧ (tm_ex as).length ≤ (tm_mt G mi).2.2.1
          · rw [if_pos hm] at hr
            simp only [hm, and_self, if_true]
            cases hw : tm_run G n d' mi 0 (tm_ent as (tm_mt G mi).2.2.1) [] h with
            | none => rw [hw] at hr; cases hr
            | some y =>
              rw [hw] at hr
              exact ⟨n, y.1, y.2, hw, n, r, h2, hr, hq⟩
          · rw [if_neg hm] at hr
            simp only [hm, if_false]
            cases hw : tm_xt G mi d' as h with
            | none => rw [hw] at hr; cases hr
            | some y =>
              rw [hw] at hr
              exact ⟨y.1, y.2, rfl, n, r, h2, hr, hq⟩
theorem tm_X_e {G : tm_G} {d M pc : Nat} {ls st : List Value} {h : tm_H} {Q : Option Value → tm_H → Prop} (en : tm_N) (he : tm_ft G M pc = some en) : tm_X G d M pc ls st h Q ↔ tm_Y G d M pc ls h Q (tm_stp G d en pc ls st h) := ⟨tm_X_o en he, tm_X_i en he⟩
/-- a run has one end -/
theorem tm_X_1 {G : tm_G} {d M pc : Nat} {ls st : List Value} {h : tm_H} {r : Option Value} {h' : tm_H} (hx : tm_X G d M pc ls st h (fun r2 h2 => r2 = r ∧ h2 = h')) (Q : Option Value → tm_H → Prop) : tm_X G d M pc ls st h Q ↔ Q r h' := by
  obtain ⟨n, r2, h2, hr, rfl, rfl⟩ := hx
  constructor
  · rintro ⟨n3, r3, h3, hr3, hq⟩
    have e1 := tm_fuel hr _ (Nat.le_max_left n n3)
    have e2 := tm_fuel hr3 _ (Nat.le_max_right n n3)
    rw [e1] at e2
    cases e2
    exact hq
  · exact fun hq => ⟨n, r2, h2, hr, hq⟩
end
section
/-! an instruction's decoding looks at its own bytes alone (switches apart) -/
abbrev rd_D (α : Type) : Type := Jvm.ClassFile.Reader Jvm.ClassFile.DecodeError α
def rd_L {α : Type} (r r' : rd_D α) : Prop := ∀ (L S T : List UInt8) (p k k' : Nat) (x : α), L.drop p = S ++ T → Jvm.ClassFile.Reader.runAt r ⟨⟨S⟩⟩ k = .ok (x, k') → Jvm.ClassFile.Reader.runAt r' ⟨⟨L⟩⟩ (p + k) = .ok (x, p + k')
theorem rd_run_b {α β : Type} (r : rd_D α) (f : α → rd_D β) (b : ByteArray) (k : Nat) : Jvm.ClassFile.Reader.runAt (r >>= f) b k = match Jvm.ClassFile.Reader.runAt r b k with
    | .ok (x, k1) => Jvm.ClassFile.Reader.runAt (f x) b k1
    | .error e => .error e := by
  have e1 : Jvm.ClassFile.Reader.runAt (r >>= f) b k = Except.bind (r b k) (fun z => f z.1 b z.2) := rfl
  have e2 : Jvm.ClassFile.Reader.runAt r b k = r b k := rfl
  rw [e1, e2]
  cases r b k <;> rfl
theorem rd_pure {α : Type} (x : α) : rd_L (pure x) (pure x) := by
  intro L S T p k k' y _ h
  have h : Except.ok (x, k) = Except.ok (y, k') := h
  cases h
  rfl
theorem rd_bind {α β : Type} {r r' : rd_D α} {f f' : α → rd_D β} (hr : rd_L r r') (hf : ∀ x, rd_L (f x) (f' x)) : rd_L (r >>= f) (r' >>= f') := by
  intro L S T p k k' y hL h
  rw [rd_run_b] at h ⊢
  cases hq : Jvm.ClassFile.Reader.runAt r ⟨⟨S⟩⟩ k with
  | error e => rw [hq] at h; cases h
  | ok z =>
    obtain ⟨x, k1⟩ := z
    rw [hq] at h
    rw [hr L S T p k k1 x hL hq]
    exact hf x L S T p k1 k' y hL h
theorem rd_u1 : rd_L (Jvm.ClassFile.Reader.u1 : rd_D Nat) Jvm.ClassFile.Reader.u1 := by
  intro L S T p k k' y hL h
  have e : ∀ (A : List UInt8) (q : Nat), Jvm.ClassFile.Reader.runAt (Jvm.ClassFile.Reader.u1 : rd_D Nat) ⟨⟨A⟩⟩ q = if h : q < A.length then .ok ((A[q]).toNat, q + 1) else .error (Jvm.ClassFile.HasTruncated.truncated q) := by
    intro A q
    unfold Jvm.ClassFile.Reader.u1
    by_cases hq : q < A.length
    · rw [dif_pos hq]
      have hq' : q < (⟨⟨A⟩⟩ : ByteArray).size := hq
      show (if h : q < (⟨⟨A⟩⟩ : ByteArray).size then _ else _ : rd_D Nat) ⟨⟨A⟩⟩ q = _
      rw [dif_pos hq']
      rfl
    · rw [dif_neg hq]
      have hq' : ¬ q < (⟨⟨A⟩⟩ : ByteArray).size := hq
      show (if h : q < (⟨⟨A⟩⟩ : ByteArray).size then _ else _ : rd_D Nat) ⟨⟨A⟩⟩ q = _
      rw [dif_neg hq']
      rfl
  rw [e] at h ⊢
  by_cases hk : k < S.length
  · rw [dif_pos hk] at h
    cases h
    have h1 : (L.drop p)[k]? = some (S[k]) := by rw [hL, List.getElem?_append_left hk, List.getElem?_eq_getElem hk]
    rw [List.getElem?_drop] at h1
    obtain ⟨h2, h3⟩ := List.getElem?_eq_some_iff.mp h1
    rw [dif_pos h2, h3]
    rfl
  · rw [dif_neg hk] at h
    cases h
theorem rd_u2 : rd_L (Jvm.ClassFile.Reader.u2 : rd_D Nat) Jvm.ClassFile.Reader.u2 := rd_bind rd_u1 (fun _ => rd_bind rd_u1 (fun _ => rd_pure _))
theorem rd_u4 : rd_L (Jvm.ClassFile.Reader.u4 : rd_D Nat) Jvm.ClassFile.Reader.u4 := rd_bind rd_u2 (fun _ => rd_bind rd_u2 (fun _ => rd_pure _))
theorem rd_map {α β : Type} {r r' : rd_D α} (f : α → β) (hr : rd_L r r') : rd_L (f <$> r) (f <$> r') := by
  have e : ∀ q : rd_D α, f <$> q = q >>= fun x => pure (f x) := fun q => rfl
  rw [e, e]
  exact rd_bind hr (fun _ => rd_pure _)
theorem rd_s1 : rd_L (Jvm.ClassFile.Reader.s1 : rd_D Int) Jvm.ClassFile.Reader.s1 := rd_map _ rd_u1
theorem rd_s2 : rd_L (Jvm.ClassFile.Reader.s2 : rd_D Int) Jvm.ClassFile.Reader.s2 := rd_map _ rd_u2
theorem rd_s4 : rd_L (Jvm.ClassFile.Reader.s4 : rd_D Int) Jvm.ClassFile.Reader.s4 := rd_map _ rd_u4
theorem rd_throw {α : Type} (x : Jvm.ClassFile.DecodeError) (r : rd_D α) : rd_L (throw x) r := by
  intro L S T p k k' y _ h
  have h : (Except.error x : Except Jvm.ClassFile.DecodeError (α × Nat)) = .ok (y, k') := h
  cases h
theorem rd_newarray (pc pc' : Nat) : rd_L (Jvm.ClassFile.Decoder.newarray pc) (Jvm.ClassFile.Decoder.newarray pc') := by
  unfold Jvm.ClassFile.Decoder.newarray
  refine rd_bind rd_u1 (fun x => ?_)
  split <;> first | exact rd_pure _ | exact rd_throw _ _
set_option maxHeartbeats 4000000 in
set_option maxRecDepth 10000 in
theorem rd_instr (pc pc' : Nat) {L S T : List UInt8} {p k' : Nat} {x : Instr} (hL : L.drop p = S ++ T) (hop : S.head? ≠ some 170 ∧ S.head? ≠ some 171 ∧ S.head? ≠ some 185 ∧ S.head? ≠ some 186 ∧ S.head? ≠ some 196 ∧ S.head? ≠ some 197) (h : Jvm.ClassFile.Reader.runAt (Jvm.ClassFile.Decoder.instr pc) ⟨⟨S⟩⟩ 0 = .ok (x, k')) : Jvm.ClassFile.Reader.runAt (Jvm.ClassFile.Decoder.instr pc') ⟨⟨L⟩⟩ p = .ok (x, p + k') := by
  unfold Jvm.ClassFile.Decoder.instr at h ⊢
  rw [rd_run_b] at h ⊢
  cases hq : Jvm.ClassFile.Reader.runAt (Jvm.ClassFile.Reader.u1 : rd_D Nat) ⟨⟨S⟩⟩ 0 with
  | error e => rw [hq] at h; cases h
  | ok z =>
    obtain ⟨op, k1⟩ := z
    have hz : ∃ b : UInt8, S.head? = some b ∧ op = b.toNat := by
      cases S with
      | nil => cases hq
      | cons b S =>
        have : Except.ok (b.toNat, 1) = (Except.ok (op, k1) : Except Jvm.ClassFile.DecodeError (Nat × Nat)) := hq
        cases this
        exact ⟨b, rfl, rfl⟩
    obtain ⟨b, hb, hb2⟩ := hz
    have hne : ∀ n : UInt8, S.head? ≠ some n → op ≠ n.toNat := fun n hn e => hn (by rw [hb]; congr 1; exact UInt8.toNat_inj.mp (hb2.symm.trans e))
    have n1 := hne 170 hop.1
    have n2 := hne 171 hop.2.1
    have n3 := hne 185 hop.2.2.1
    have n4 := hne 186 hop.2.2.2.1
    have n5 := hne 196 hop.2.2.2.2.1
    have n6 := hne 197 hop.2.2.2.2.2
    rw [hq] at h
    have hu := rd_u1 L S T p 0 k1 op hL hq
    rw [Nat.add_zero] at hu
    rw [hu]
    dsimp only at h ⊢
    clear hu hq hne hb hb2 hop
    split at h <;> first
      | exact rd_pure _ L S T p _ _ _ hL h
      | exact rd_bind rd_u2 (fun _ => rd_pure _) L S T p _ _ _ hL h
      | exact rd_bind rd_s2 (fun _ => rd_pure _) L S T p _ _ _ hL h
      | exact rd_bind rd_u1 (fun _ => rd_pure _) L S T p _ _ _ hL h
      | exact rd_bind rd_s1 (fun _ => rd_pure _) L S T p _ _ _ hL h
      | exact rd_bind rd_u1 (fun _ => rd_bind rd_s1 (fun _ => rd_pure _)) L S T p _ _ _ hL h
      | exact rd_bind rd_s4 (fun _ => rd_pure _) L S T p _ _ _ hL h
      | exact rd_newarray _ _ L S T p _ _ _ hL h
      | exact absurd rfl n1
      | exact absurd rfl n2
      | exact absurd rfl n3
      | exact absurd rfl n4
      | exact absurd rfl n5
      | exact absurd rfl n6
      | exact rd_throw _ _ L S T p _ _ _ hL h
/-- decoding by the bytes from there on -/
theorem rd_decode {L S T : List UInt8} {p n : Nat} {x : Instr} (hL : L.drop p = S ++ T) (hop : S.head? ≠ some 170 ∧ S.head? ≠ some 171 ∧ S.head? ≠ some 185 ∧ S.head? ≠ some 186 ∧ S.head? ≠ some 196 ∧ S.head? ≠ some 197) (h : decode ⟨⟨S⟩⟩ 0 = .ok (x, n)) : decode ⟨⟨L⟩⟩ p = .ok (x, n) := by
  have e : ∀ (A : ByteArray) (q : Nat), decode A q = match Jvm.ClassFile.Reader.runAt (Jvm.ClassFile.Decoder.instr q) A q with
    | .ok (i, nx) => .ok (i, nx - q)
    | .error er => .error er := by
    intro A q
    unfold decode
    cases Jvm.ClassFile.Reader.runAt (Jvm.ClassFile.Decoder.instr q) A q <;> rfl
  rw [e] at h ⊢
  cases hq : Jvm.ClassFile.Reader.runAt (Jvm.ClassFile.Decoder.instr 0) ⟨⟨S⟩⟩ 0 with
  | error er => rw [hq] at h; cases h
  | ok z =>
    obtain ⟨i, k⟩ := z
    rw [hq] at h
    cases h
    rw [rd_instr 0 p hL hop hq]
    dsimp only
    congr 2
    omega
end
section
-- ===== PART A: goes FIRST, ahead of the names: the tables' words, and 'selects' of the private methods out of them =====
/-- a private method of a class that the tables say can be made, by its rows of tables_1 -/
def lw_okq (q : MethodName × Nat) : Prop := (q.1.cls ≠ "java/lang/invoke/MethodHandle" ∧ q.1.cls ≠ "java/lang/invoke/VarHandle") ∧ Cond.instantiable q.1.cls q.2 ∈ tables_1 ∧ Cond.privateMethod q.1 ∈ tables_1 ∧ Cond.instanceMethod q.1 ∈ tables_1
theorem lw_p0 : lw_okq (⟨"TypeAtNight$Rule", "putFirstRule", "()V"⟩, 7) := ⟨⟨by decide +kernel, by decide +kernel⟩, List.mem_of_getElem? (i := 141) (by decide +kernel), List.mem_of_getElem? (i := 147) (by decide +kernel), List.mem_of_getElem? (i := 148) (by decide +kernel)⟩
theorem lw_p1 : lw_okq (⟨"TypeAtNight$Rule", "putThing", "(I)V"⟩, 7) := ⟨⟨by decide +kernel, by decide +kernel⟩, List.mem_of_getElem? (i := 141) (by decide +kernel), List.mem_of_getElem? (i := 151) (by decide +kernel), List.mem_of_getElem? (i := 152) (by decide +kernel)⟩
theorem lw_p2 : lw_okq (⟨"TypeAtNight$Rule", "put", "(I)V"⟩, 7) := ⟨⟨by decide +kernel, by decide +kernel⟩, List.mem_of_getElem? (i := 141) (by decide +kernel), List.mem_of_getElem? (i := 155) (by decide +kernel), List.mem_of_getElem? (i := 156) (by decide +kernel)⟩
theorem lw_p3 : lw_okq (⟨"TypeAtNight", "faultOfLines", "()I"⟩, 16) := ⟨⟨by decide +kernel, by decide +kernel⟩, List.mem_of_getElem? (i := 30) (by decide +kernel), List.mem_of_getElem? (i := 351) (by decide +kernel), List.mem_of_getElem? (i := 352) (by decide +kernel)⟩
theorem lw_p4 : lw_okq (⟨"TypeAtNight", "addLines", "()I"⟩, 16) := ⟨⟨by decide +kernel, by decide +kernel⟩, List.mem_of_getElem? (i := 30) (by decide +kernel), List.mem_of_getElem? (i := 423) (by decide +kernel), List.mem_of_getElem? (i := 424) (by decide +kernel)⟩
theorem lw_p5 : lw_okq (⟨"TypeAtNight$Rule", "readJoined", "(LTypeAtNight$Text;II)Z"⟩, 7) := ⟨⟨by decide +kernel, by decide +kernel⟩, List.mem_of_getElem? (i := 141) (by decide +kernel), List.mem_of_getElem? (i := 463) (by decide +kernel), List.mem_of_getElem? (i := 464) (by decide +kernel)⟩
theorem lw_p6 : lw_okq (⟨"TypeAtNight$Rule", "readThing", "(LTypeAtNight$Text;I)Z"⟩, 7) := ⟨⟨by decide +kernel, by decide +kernel⟩, List.mem_of_getElem? (i := 141) (by decide +kernel), List.mem_of_getElem? (i := 467) (by decide +kernel), List.mem_of_getElem? (i := 468) (by decide +kernel)⟩
theorem lw_p7 : lw_okq (⟨"TypeAtNight$Rule", "readNumber", "(LTypeAtNight$Text;)V"⟩, 7) := ⟨⟨by decide +kernel, by decide +kernel⟩, List.mem_of_getElem? (i := 141) (by decide +kernel), List.mem_of_getElem? (i := 531) (by decide +kernel), List.mem_of_getElem? (i := 532) (by decide +kernel)⟩
theorem lw_p8 : lw_okq (⟨"TypeAtNight$Rule", "readInner", "(LTypeAtNight$Text;I)Z"⟩, 7) := ⟨⟨by decide +kernel, by decide +kernel⟩, List.mem_of_getElem? (i := 141) (by decide +kernel), List.mem_of_getElem? (i := 536) (by decide +kernel), List.mem_of_getElem? (i := 537) (by decide +kernel)⟩
theorem lw_p9 : lw_okq (⟨"TypeAtNight", "readLetters", "()I"⟩, 16) := ⟨⟨by decide +kernel, by decide +kernel⟩, List.mem_of_getElem? (i := 30) (by decide +kernel), List.mem_of_getElem? (i := 562) (by decide +kernel), List.mem_of_getElem? (i := 563) (by decide +kernel)⟩
theorem lw_p10 : lw_okq (⟨"TypeAtNight$TypeCase", "whose", "([II)I"⟩, 9) := ⟨⟨by decide +kernel, by decide +kernel⟩, List.mem_of_getElem? (i := 66) (by decide +kernel), List.mem_of_getElem? (i := 585) (by decide +kernel), List.mem_of_getElem? (i := 586) (by decide +kernel)⟩
theorem lw_p11 : lw_okq (⟨"TypeAtNight$TypeCase", "leastWorn", "(I)I"⟩, 9) := ⟨⟨by decide +kernel, by decide +kernel⟩, List.mem_of_getElem? (i := 66) (by decide +kernel), List.mem_of_getElem? (i := 589) (by decide +kernel), List.mem_of_getElem? (i := 590) (by decide +kernel)⟩
theorem lw_p12 : lw_okq (⟨"TypeAtNight$TypeCase", "weighBoxes", "()V"⟩, 9) := ⟨⟨by decide +kernel, by decide +kernel⟩, List.mem_of_getElem? (i := 66) (by decide +kernel), List.mem_of_getElem? (i := 653) (by decide +kernel), List.mem_of_getElem? (i := 654) (by decide +kernel)⟩
theorem lw_p13 : lw_okq (⟨"TypeAtNight$TypeCase", "turn", "(LTypeAtNight$Rule;I)I"⟩, 9) := ⟨⟨by decide +kernel, by decide +kernel⟩, List.mem_of_getElem? (i := 66) (by decide +kernel), List.mem_of_getElem? (i := 658) (by decide +kernel), List.mem_of_getElem? (i := 659) (by decide +kernel)⟩
theorem lw_p14 : lw_okq (⟨"TypeAtNight", "undoable", "(I)I"⟩, 16) := ⟨⟨by decide +kernel, by decide +kernel⟩, List.mem_of_getElem? (i := 30) (by decide +kernel), List.mem_of_getElem? (i := 697) (by decide +kernel), List.mem_of_getElem? (i := 698) (by decide +kernel)⟩
theorem lw_p15 : lw_okq (⟨"TypeAtNight", "faultOfWeek", "()I"⟩, 16) := ⟨⟨by decide +kernel, by decide +kernel⟩, List.mem_of_getElem? (i := 30) (by decide +kernel), List.mem_of_getElem? (i := 721) (by decide +kernel), List.mem_of_getElem? (i := 722) (by decide +kernel)⟩
def lw_privs_1 : List (MethodName × Nat) := [(⟨"TypeAtNight$Rule", "putFirstRule", "()V"⟩, 7), (⟨"TypeAtNight$Rule", "putThing", "(I)V"⟩, 7), (⟨"TypeAtNight$Rule", "put", "(I)V"⟩, 7), (⟨"TypeAtNight", "faultOfLines", "()I"⟩, 16), (⟨"TypeAtNight", "addLines", "()I"⟩, 16), (⟨"TypeAtNight$Rule", "readJoined", "(LTypeAtNight$Text;II)Z"⟩, 7), (⟨"TypeAtNight$Rule", "readThing", "(LTypeAtNight$Text;I)Z"⟩, 7), (⟨"TypeAtNight$Rule", "readNumber", "(LTypeAtNight$Text;)V"⟩, 7), (⟨"TypeAtNight$Rule", "readInner", "(LTypeAtNight$Text;I)Z"⟩, 7), (⟨"TypeAtNight", "readLetters", "()I"⟩, 16), (⟨"TypeAtNight$TypeCase", "whose", "([II)I"⟩, 9), (⟨"TypeAtNight$TypeCase", "leastWorn", "(I)I"⟩, 9), (⟨"TypeAtNight$TypeCase", "weighBoxes", "()V"⟩, 9), (⟨"TypeAtNight$TypeCase", "turn", "(LTypeAtNight$Rule;I)I"⟩, 9), (⟨"TypeAtNight", "undoable", "(I)I"⟩, 16), (⟨"TypeAtNight", "faultOfWeek", "()I"⟩, 16)]
theorem lw_r1 : ∀ q ∈ lw_privs_1, lw_okq q := List.forall_mem_cons.mpr ⟨lw_p0, List.forall_mem_cons.mpr ⟨lw_p1, List.forall_mem_cons.mpr ⟨lw_p2, List.forall_mem_cons.mpr ⟨lw_p3, List.forall_mem_cons.mpr ⟨lw_p4, List.forall_mem_cons.mpr ⟨lw_p5, List.forall_mem_cons.mpr ⟨lw_p6, List.forall_mem_cons.mpr ⟨lw_p7, List.forall_mem_cons.mpr ⟨lw_p8, List.forall_mem_cons.mpr ⟨lw_p9, List.forall_mem_cons.mpr ⟨lw_p10, List.forall_mem_cons.mpr ⟨lw_p11, List.forall_mem_cons.mpr ⟨lw_p12, List.forall_mem_cons.mpr ⟨lw_p13, List.forall_mem_cons.mpr ⟨lw_p14, List.forall_mem_cons.mpr ⟨lw_p15, fun _ h => absurd h List.not_mem_nil⟩⟩⟩⟩⟩⟩⟩⟩⟩⟩⟩⟩⟩⟩⟩⟩
theorem lw_p16 : lw_okq (⟨"TypeAtNight", "behindAct", "(II)I"⟩, 16) := ⟨⟨by decide +kernel, by decide +kernel⟩, List.mem_of_getElem? (i := 30) (by decide +kernel), List.mem_of_getElem? (i := 725) (by decide +kernel), List.mem_of_getElem? (i := 726) (by decide +kernel)⟩
theorem lw_p17 : lw_okq (⟨"TypeAtNight", "doAct", "(II)I"⟩, 16) := ⟨⟨by decide +kernel, by decide +kernel⟩, List.mem_of_getElem? (i := 30) (by decide +kernel), List.mem_of_getElem? (i := 743) (by decide +kernel), List.mem_of_getElem? (i := 744) (by decide +kernel)⟩
theorem lw_p18 : lw_okq (⟨"TypeAtNight", "setLetters", "(I)I"⟩, 16) := ⟨⟨by decide +kernel, by decide +kernel⟩, List.mem_of_getElem? (i := 30) (by decide +kernel), List.mem_of_getElem? (i := 747) (by decide +kernel), List.mem_of_getElem? (i := 748) (by decide +kernel)⟩
theorem lw_p19 : lw_okq (⟨"TypeAtNight$Words", "canBeSet", "(I)Z"⟩, 3) := ⟨⟨by decide +kernel, by decide +kernel⟩, List.mem_of_getElem? (i := 204) (by decide +kernel), List.mem_of_getElem? (i := 839) (by decide +kernel), List.mem_of_getElem? (i := 840) (by decide +kernel)⟩
theorem lw_p20 : lw_okq (⟨"TypeAtNight", "fewestToClean", "(III)I"⟩, 16) := ⟨⟨by decide +kernel, by decide +kernel⟩, List.mem_of_getElem? (i := 30) (by decide +kernel), List.mem_of_getElem? (i := 877) (by decide +kernel), List.mem_of_getElem? (i := 878) (by decide +kernel)⟩
theorem lw_p21 : lw_okq (⟨"TypeAtNight", "calms", "(IIII)Z"⟩, 16) := ⟨⟨by decide +kernel, by decide +kernel⟩, List.mem_of_getElem? (i := 30) (by decide +kernel), List.mem_of_getElem? (i := 881) (by decide +kernel), List.mem_of_getElem? (i := 882) (by decide +kernel)⟩
theorem lw_p22 : lw_okq (⟨"TypeAtNight$Boxing", "putApart", "(II)V"⟩, 2) := ⟨⟨by decide +kernel, by decide +kernel⟩, List.mem_of_getElem? (i := 220) (by decide +kernel), List.mem_of_getElem? (i := 900) (by decide +kernel), List.mem_of_getElem? (i := 901) (by decide +kernel)⟩
theorem lw_p23 : lw_okq (⟨"TypeAtNight$Boxing", "placeFrom", "(III)Z"⟩, 2) := ⟨⟨by decide +kernel, by decide +kernel⟩, List.mem_of_getElem? (i := 220) (by decide +kernel), List.mem_of_getElem? (i := 908) (by decide +kernel), List.mem_of_getElem? (i := 909) (by decide +kernel)⟩
theorem lw_p24 : lw_okq (⟨"TypeAtNight$Boxing", "mayStand", "(II)Z"⟩, 2) := ⟨⟨by decide +kernel, by decide +kernel⟩, List.mem_of_getElem? (i := 220) (by decide +kernel), List.mem_of_getElem? (i := 912) (by decide +kernel), List.mem_of_getElem? (i := 913) (by decide +kernel)⟩
theorem lw_p25 : lw_okq (⟨"TypeAtNight$Mixing", "fitsAll", "(I)Z"⟩, 5) := ⟨⟨by decide +kernel, by decide +kernel⟩, List.mem_of_getElem? (i := 247) (by decide +kernel), List.mem_of_getElem? (i := 1014) (by decide +kernel), List.mem_of_getElem? (i := 1015) (by decide +kernel)⟩
theorem lw_p26 : lw_okq (⟨"TypeAtNight$Galley", "learn", "(I)V"⟩, 2) := ⟨⟨by decide +kernel, by decide +kernel⟩, List.mem_of_getElem? (i := 269) (by decide +kernel), List.mem_of_getElem? (i := 1065) (by decide +kernel), List.mem_of_getElem? (i := 1066) (by decide +kernel)⟩
theorem lw_p27 : lw_okq (⟨"java/lang/Throwable", "fillInStackTrace", "(I)Ljava/lang/Throwable;"⟩, 6) := ⟨⟨by decide +kernel, by decide +kernel⟩, List.mem_of_getElem? (i := 1181) (by decide +kernel), List.mem_of_getElem? (i := 1179) (by decide +kernel), List.mem_of_getElem? (i := 1180) (by decide +kernel)⟩
theorem lw_p28 : lw_okq (⟨"TypeAtNightModel", "beginText", "(I)V"⟩, 47) := ⟨⟨by decide +kernel, by decide +kernel⟩, List.mem_of_getElem? (i := 1242) (by decide +kernel), List.mem_of_getElem? (i := 1409) (by decide +kernel), List.mem_of_getElem? (i := 1410) (by decide +kernel)⟩
theorem lw_p29 : lw_okq (⟨"TypeAtNightModel", "begin", "([BII)V"⟩, 47) := ⟨⟨by decide +kernel, by decide +kernel⟩, List.mem_of_getElem? (i := 1242) (by decide +kernel), List.mem_of_getElem? (i := 1413) (by decide +kernel), List.mem_of_getElem? (i := 1414) (by decide +kernel)⟩
theorem lw_p30 : lw_okq (⟨"TypeAtNightModel", "fine", "()Z"⟩, 47) := ⟨⟨by decide +kernel, by decide +kernel⟩, List.mem_of_getElem? (i := 1242) (by decide +kernel), List.mem_of_getElem? (i := 1417) (by decide +kernel), List.mem_of_getElem? (i := 1418) (by decide +kernel)⟩
theorem lw_p31 : lw_okq (⟨"TypeAtNightModel", "fault", "(I)V"⟩, 47) := ⟨⟨by decide +kernel, by decide +kernel⟩, List.mem_of_getElem? (i := 1242) (by decide +kernel), List.mem_of_getElem? (i := 1421) (by decide +kernel), List.mem_of_getElem? (i := 1422) (by decide +kernel)⟩
def lw_privs_2 : List (MethodName × Nat) := [(⟨"TypeAtNight", "behindAct", "(II)I"⟩, 16), (⟨"TypeAtNight", "doAct", "(II)I"⟩, 16), (⟨"TypeAtNight", "setLetters", "(I)I"⟩, 16), (⟨"TypeAtNight$Words", "canBeSet", "(I)Z"⟩, 3), (⟨"TypeAtNight", "fewestToClean", "(III)I"⟩, 16), (⟨"TypeAtNight", "calms", "(IIII)Z"⟩, 16), (⟨"TypeAtNight$Boxing", "putApart", "(II)V"⟩, 2), (⟨"TypeAtNight$Boxing", "placeFrom", "(III)Z"⟩, 2), (⟨"TypeAtNight$Boxing", "mayStand", "(II)Z"⟩, 2), (⟨"TypeAtNight$Mixing", "fitsAll", "(I)Z"⟩, 5), (⟨"TypeAtNight$Galley", "learn", "(I)V"⟩, 2), (⟨"java/lang/Throwable", "fillInStackTrace", "(I)Ljava/lang/Throwable;"⟩, 6), (⟨"TypeAtNightModel", "beginText", "(I)V"⟩, 47), (⟨"TypeAtNightModel", "begin", "([BII)V"⟩, 47), (⟨"TypeAtNightModel", "fine", "()Z"⟩, 47), (⟨"TypeAtNightModel", "fault", "(I)V"⟩, 47)]
theorem lw_r2 : ∀ q ∈ lw_privs_2, lw_okq q := List.forall_mem_cons.mpr ⟨lw_p16, List.forall_mem_cons.mpr ⟨lw_p17, List.forall_mem_cons.mpr ⟨lw_p18, List.forall_mem_cons.mpr ⟨lw_p19, List.forall_mem_cons.mpr ⟨lw_p20, List.forall_mem_cons.mpr ⟨lw_p21, List.forall_mem_cons.mpr ⟨lw_p22, List.forall_mem_cons.mpr ⟨lw_p23, List.forall_mem_cons.mpr ⟨lw_p24, List.forall_mem_cons.mpr ⟨lw_p25, List.forall_mem_cons.mpr ⟨lw_p26, List.forall_mem_cons.mpr ⟨lw_p27, List.forall_mem_cons.mpr ⟨lw_p28, List.forall_mem_cons.mpr ⟨lw_p29, List.forall_mem_cons.mpr ⟨lw_p30, List.forall_mem_cons.mpr ⟨lw_p31, fun _ h => absurd h List.not_mem_nil⟩⟩⟩⟩⟩⟩⟩⟩⟩⟩⟩⟩⟩⟩⟩⟩
theorem lw_p32 : lw_okq (⟨"TypeAtNightModel", "oneOf", "(CI)I"⟩, 47) := ⟨⟨by decide +kernel, by decide +kernel⟩, List.mem_of_getElem? (i := 1242) (by decide +kernel), List.mem_of_getElem? (i := 1425) (by decide +kernel), List.mem_of_getElem? (i := 1426) (by decide +kernel)⟩
theorem lw_p33 : lw_okq (⟨"TypeAtNightModel", "here", "()I"⟩, 47) := ⟨⟨by decide +kernel, by decide +kernel⟩, List.mem_of_getElem? (i := 1242) (by decide +kernel), List.mem_of_getElem? (i := 1429) (by decide +kernel), List.mem_of_getElem? (i := 1430) (by decide +kernel)⟩
theorem lw_p34 : lw_okq (⟨"TypeAtNightModel", "signedOf", "()I"⟩, 47) := ⟨⟨by decide +kernel, by decide +kernel⟩, List.mem_of_getElem? (i := 1242) (by decide +kernel), List.mem_of_getElem? (i := 1433) (by decide +kernel), List.mem_of_getElem? (i := 1434) (by decide +kernel)⟩
theorem lw_p35 : lw_okq (⟨"TypeAtNightModel", "passes", "(C)Z"⟩, 47) := ⟨⟨by decide +kernel, by decide +kernel⟩, List.mem_of_getElem? (i := 1242) (by decide +kernel), List.mem_of_getElem? (i := 1437) (by decide +kernel), List.mem_of_getElem? (i := 1438) (by decide +kernel)⟩
theorem lw_p36 : lw_okq (⟨"TypeAtNightModel", "wasRight", "()Z"⟩, 47) := ⟨⟨by decide +kernel, by decide +kernel⟩, List.mem_of_getElem? (i := 1242) (by decide +kernel), List.mem_of_getElem? (i := 1441) (by decide +kernel), List.mem_of_getElem? (i := 1442) (by decide +kernel)⟩
theorem lw_p37 : lw_okq (⟨"TypeAtNightModel", "readRule", "()Z"⟩, 47) := ⟨⟨by decide +kernel, by decide +kernel⟩, List.mem_of_getElem? (i := 1242) (by decide +kernel), List.mem_of_getElem? (i := 1449) (by decide +kernel), List.mem_of_getElem? (i := 1450) (by decide +kernel)⟩
theorem lw_p38 : lw_okq (⟨"TypeAtNightModel", "held", "(I)I"⟩, 47) := ⟨⟨by decide +kernel, by decide +kernel⟩, List.mem_of_getElem? (i := 1242) (by decide +kernel), List.mem_of_getElem? (i := 1453) (by decide +kernel), List.mem_of_getElem? (i := 1454) (by decide +kernel)⟩
theorem lw_p39 : lw_okq (⟨"TypeAtNightModel", "sum", "(I)I"⟩, 47) := ⟨⟨by decide +kernel, by decide +kernel⟩, List.mem_of_getElem? (i := 1242) (by decide +kernel), List.mem_of_getElem? (i := 1457) (by decide +kernel), List.mem_of_getElem? (i := 1458) (by decide +kernel)⟩
theorem lw_p40 : lw_okq (⟨"TypeAtNightModel", "product", "(I)I"⟩, 47) := ⟨⟨by decide +kernel, by decide +kernel⟩, List.mem_of_getElem? (i := 1242) (by decide +kernel), List.mem_of_getElem? (i := 1461) (by decide +kernel), List.mem_of_getElem? (i := 1462) (by decide +kernel)⟩
theorem lw_p41 : lw_okq (⟨"TypeAtNightModel", "thing", "(I)I"⟩, 47) := ⟨⟨by decide +kernel, by decide +kernel⟩, List.mem_of_getElem? (i := 1242) (by decide +kernel), List.mem_of_getElem? (i := 1465) (by decide +kernel), List.mem_of_getElem? (i := 1466) (by decide +kernel)⟩
theorem lw_p42 : lw_okq (⟨"TypeAtNightModel", "need", "(C)V"⟩, 47) := ⟨⟨by decide +kernel, by decide +kernel⟩, List.mem_of_getElem? (i := 1242) (by decide +kernel), List.mem_of_getElem? (i := 1469) (by decide +kernel), List.mem_of_getElem? (i := 1470) (by decide +kernel)⟩
theorem lw_p43 : lw_okq (⟨"TypeAtNightModel", "number", "(I)I"⟩, 47) := ⟨⟨by decide +kernel, by decide +kernel⟩, List.mem_of_getElem? (i := 1242) (by decide +kernel), List.mem_of_getElem? (i := 1473) (by decide +kernel), List.mem_of_getElem? (i := 1474) (by decide +kernel)⟩
theorem lw_p44 : lw_okq (⟨"TypeAtNightModel", "isSort", "(I)Z"⟩, 47) := ⟨⟨by decide +kernel, by decide +kernel⟩, List.mem_of_getElem? (i := 1242) (by decide +kernel), List.mem_of_getElem? (i := 1484) (by decide +kernel), List.mem_of_getElem? (i := 1485) (by decide +kernel)⟩
theorem lw_p45 : lw_okq (⟨"TypeAtNightModel", "lost", "()I"⟩, 47) := ⟨⟨by decide +kernel, by decide +kernel⟩, List.mem_of_getElem? (i := 1242) (by decide +kernel), List.mem_of_getElem? (i := 1488) (by decide +kernel), List.mem_of_getElem? (i := 1489) (by decide +kernel)⟩
theorem lw_p46 : lw_okq (⟨"TypeAtNightModel", "turnOf", "([II)I"⟩, 47) := ⟨⟨by decide +kernel, by decide +kernel⟩, List.mem_of_getElem? (i := 1242) (by decide +kernel), List.mem_of_getElem? (i := 1492) (by decide +kernel), List.mem_of_getElem? (i := 1493) (by decide +kernel)⟩
theorem lw_p47 : lw_okq (⟨"TypeAtNightModel", "inBox", "([II)I"⟩, 47) := ⟨⟨by decide +kernel, by decide +kernel⟩, List.mem_of_getElem? (i := 1242) (by decide +kernel), List.mem_of_getElem? (i := 1505) (by decide +kernel), List.mem_of_getElem? (i := 1506) (by decide +kernel)⟩
def lw_privs_3 : List (MethodName × Nat) := [(⟨"TypeAtNightModel", "oneOf", "(CI)I"⟩, 47), (⟨"TypeAtNightModel", "here", "()I"⟩, 47), (⟨"TypeAtNightModel", "signedOf", "()I"⟩, 47), (⟨"TypeAtNightModel", "passes", "(C)Z"⟩, 47), (⟨"TypeAtNightModel", "wasRight", "()Z"⟩, 47), (⟨"TypeAtNightModel", "readRule", "()Z"⟩, 47), (⟨"TypeAtNightModel", "held", "(I)I"⟩, 47), (⟨"TypeAtNightModel", "sum", "(I)I"⟩, 47), (⟨"TypeAtNightModel", "product", "(I)I"⟩, 47), (⟨"TypeAtNightModel", "thing", "(I)I"⟩, 47), (⟨"TypeAtNightModel", "need", "(C)V"⟩, 47), (⟨"TypeAtNightModel", "number", "(I)I"⟩, 47), (⟨"TypeAtNightModel", "isSort", "(I)Z"⟩, 47), (⟨"TypeAtNightModel", "lost", "()I"⟩, 47), (⟨"TypeAtNightModel", "turnOf", "([II)I"⟩, 47), (⟨"TypeAtNightModel", "inBox", "([II)I"⟩, 47)]
theorem lw_r3 : ∀ q ∈ lw_privs_3, lw_okq q := List.forall_mem_cons.mpr ⟨lw_p32, List.forall_mem_cons.mpr ⟨lw_p33, List.forall_mem_cons.mpr ⟨lw_p34, List.forall_mem_cons.mpr ⟨lw_p35, List.forall_mem_cons.mpr ⟨lw_p36, List.forall_mem_cons.mpr ⟨lw_p37, List.forall_mem_cons.mpr ⟨lw_p38, List.forall_mem_cons.mpr ⟨lw_p39, List.forall_mem_cons.mpr ⟨lw_p40, List.forall_mem_cons.mpr ⟨lw_p41, List.forall_mem_cons.mpr ⟨lw_p42, List.forall_mem_cons.mpr ⟨lw_p43, List.forall_mem_cons.mpr ⟨lw_p44, List.forall_mem_cons.mpr ⟨lw_p45, List.forall_mem_cons.mpr ⟨lw_p46, List.forall_mem_cons.mpr ⟨lw_p47, fun _ h => absurd h List.not_mem_nil⟩⟩⟩⟩⟩⟩⟩⟩⟩⟩⟩⟩⟩⟩⟩⟩
theorem lw_p48 : lw_okq (⟨"TypeAtNightModel", "moodsOf", "([II)I"⟩, 47) := ⟨⟨by decide +kernel, by decide +kernel⟩, List.mem_of_getElem? (i := 1242) (by decide +kernel), List.mem_of_getElem? (i := 1509) (by decide +kernel), List.mem_of_getElem? (i := 1510) (by decide +kernel)⟩
theorem lw_p49 : lw_okq (⟨"TypeAtNightModel", "wears", "()I"⟩, 47) := ⟨⟨by decide +kernel, by decide +kernel⟩, List.mem_of_getElem? (i := 1242) (by decide +kernel), List.mem_of_getElem? (i := 1520) (by decide +kernel), List.mem_of_getElem? (i := 1521) (by decide +kernel)⟩
theorem lw_p50 : lw_okq (⟨"TypeAtNightModel", "readLine", "()Z"⟩, 47) := ⟨⟨by decide +kernel, by decide +kernel⟩, List.mem_of_getElem? (i := 1242) (by decide +kernel), List.mem_of_getElem? (i := 1528) (by decide +kernel), List.mem_of_getElem? (i := 1529) (by decide +kernel)⟩
theorem lw_p51 : lw_okq (⟨"TypeAtNightModel", "layNeed", "()V"⟩, 47) := ⟨⟨by decide +kernel, by decide +kernel⟩, List.mem_of_getElem? (i := 1242) (by decide +kernel), List.mem_of_getElem? (i := 1532) (by decide +kernel), List.mem_of_getElem? (i := 1533) (by decide +kernel)⟩
theorem lw_p52 : lw_okq (⟨"TypeAtNightModel", "wouldTake", "()I"⟩, 47) := ⟨⟨by decide +kernel, by decide +kernel⟩, List.mem_of_getElem? (i := 1242) (by decide +kernel), List.mem_of_getElem? (i := 1536) (by decide +kernel), List.mem_of_getElem? (i := 1537) (by decide +kernel)⟩
theorem lw_p53 : lw_okq (⟨"TypeAtNightModel", "goSet", "([II)I"⟩, 47) := ⟨⟨by decide +kernel, by decide +kernel⟩, List.mem_of_getElem? (i := 1242) (by decide +kernel), List.mem_of_getElem? (i := 1543) (by decide +kernel), List.mem_of_getElem? (i := 1544) (by decide +kernel)⟩
theorem lw_p54 : lw_okq (⟨"TypeAtNightModel", "takes", "([II)I"⟩, 47) := ⟨⟨by decide +kernel, by decide +kernel⟩, List.mem_of_getElem? (i := 1242) (by decide +kernel), List.mem_of_getElem? (i := 1547) (by decide +kernel), List.mem_of_getElem? (i := 1548) (by decide +kernel)⟩
theorem lw_p55 : lw_okq (⟨"TypeAtNightModel", "remember", "([I)V"⟩, 47) := ⟨⟨by decide +kernel, by decide +kernel⟩, List.mem_of_getElem? (i := 1242) (by decide +kernel), List.mem_of_getElem? (i := 1551) (by decide +kernel), List.mem_of_getElem? (i := 1552) (by decide +kernel)⟩
theorem lw_p56 : lw_okq (⟨"TypeAtNightModel", "tell", "(J)V"⟩, 47) := ⟨⟨by decide +kernel, by decide +kernel⟩, List.mem_of_getElem? (i := 1242) (by decide +kernel), List.mem_of_getElem? (i := 1555) (by decide +kernel), List.mem_of_getElem? (i := 1556) (by decide +kernel)⟩
theorem lw_p57 : lw_okq (⟨"TypeAtNightModel", "goNights", "([II)V"⟩, 47) := ⟨⟨by decide +kernel, by decide +kernel⟩, List.mem_of_getElem? (i := 1242) (by decide +kernel), List.mem_of_getElem? (i := 1563) (by decide +kernel), List.mem_of_getElem? (i := 1564) (by decide +kernel)⟩
theorem lw_p58 : lw_okq (⟨"TypeAtNightModel", "goNight", "([I)V"⟩, 47) := ⟨⟨by decide +kernel, by decide +kernel⟩, List.mem_of_getElem? (i := 1242) (by decide +kernel), List.mem_of_getElem? (i := 1567) (by decide +kernel), List.mem_of_getElem? (i := 1568) (by decide +kernel)⟩
theorem lw_p59 : lw_okq (⟨"TypeAtNightModel", "all", "()I"⟩, 47) := ⟨⟨by decide +kernel, by decide +kernel⟩, List.mem_of_getElem? (i := 1242) (by decide +kernel), List.mem_of_getElem? (i := 1571) (by decide +kernel), List.mem_of_getElem? (i := 1572) (by decide +kernel)⟩
theorem lw_p60 : lw_okq (⟨"TypeAtNightModel", "atHome", "([I)I"⟩, 47) := ⟨⟨by decide +kernel, by decide +kernel⟩, List.mem_of_getElem? (i := 1242) (by decide +kernel), List.mem_of_getElem? (i := 1575) (by decide +kernel), List.mem_of_getElem? (i := 1576) (by decide +kernel)⟩
theorem lw_p61 : lw_okq (⟨"TypeAtNightModel", "refusesMove", "([III)I"⟩, 47) := ⟨⟨by decide +kernel, by decide +kernel⟩, List.mem_of_getElem? (i := 1242) (by decide +kernel), List.mem_of_getElem? (i := 1583) (by decide +kernel), List.mem_of_getElem? (i := 1584) (by decide +kernel)⟩
theorem lw_p62 : lw_okq (⟨"TypeAtNightModel", "refusesClean", "(I)I"⟩, 47) := ⟨⟨by decide +kernel, by decide +kernel⟩, List.mem_of_getElem? (i := 1242) (by decide +kernel), List.mem_of_getElem? (i := 1591) (by decide +kernel), List.mem_of_getElem? (i := 1592) (by decide +kernel)⟩
theorem lw_p63 : lw_okq (⟨"TypeAtNightModel", "refusesCast", "(I)I"⟩, 47) := ⟨⟨by decide +kernel, by decide +kernel⟩, List.mem_of_getElem? (i := 1242) (by decide +kernel), List.mem_of_getElem? (i := 1599) (by decide +kernel), List.mem_of_getElem? (i := 1600) (by decide +kernel)⟩
def lw_privs_4 : List (MethodName × Nat) := [(⟨"TypeAtNightModel", "moodsOf", "([II)I"⟩, 47), (⟨"TypeAtNightModel", "wears", "()I"⟩, 47), (⟨"TypeAtNightModel", "readLine", "()Z"⟩, 47), (⟨"TypeAtNightModel", "layNeed", "()V"⟩, 47), (⟨"TypeAtNightModel", "wouldTake", "()I"⟩, 47), (⟨"TypeAtNightModel", "goSet", "([II)I"⟩, 47), (⟨"TypeAtNightModel", "takes", "([II)I"⟩, 47), (⟨"TypeAtNightModel", "remember", "([I)V"⟩, 47), (⟨"TypeAtNightModel", "tell", "(J)V"⟩, 47), (⟨"TypeAtNightModel", "goNights", "([II)V"⟩, 47), (⟨"TypeAtNightModel", "goNight", "([I)V"⟩, 47), (⟨"TypeAtNightModel", "all", "()I"⟩, 47), (⟨"TypeAtNightModel", "atHome", "([I)I"⟩, 47), (⟨"TypeAtNightModel", "refusesMove", "([III)I"⟩, 47), (⟨"TypeAtNightModel", "refusesClean", "(I)I"⟩, 47), (⟨"TypeAtNightModel", "refusesCast", "(I)I"⟩, 47)]
theorem lw_r4 : ∀ q ∈ lw_privs_4, lw_okq q := List.forall_mem_cons.mpr ⟨lw_p48, List.forall_mem_cons.mpr ⟨lw_p49, List.forall_mem_cons.mpr ⟨lw_p50, List.forall_mem_cons.mpr ⟨lw_p51, List.forall_mem_cons.mpr ⟨lw_p52, List.forall_mem_cons.mpr ⟨lw_p53, List.forall_mem_cons.mpr ⟨lw_p54, List.forall_mem_cons.mpr ⟨lw_p55, List.forall_mem_cons.mpr ⟨lw_p56, List.forall_mem_cons.mpr ⟨lw_p57, List.forall_mem_cons.mpr ⟨lw_p58, List.forall_mem_cons.mpr ⟨lw_p59, List.forall_mem_cons.mpr ⟨lw_p60, List.forall_mem_cons.mpr ⟨lw_p61, List.forall_mem_cons.mpr ⟨lw_p62, List.forall_mem_cons.mpr ⟨lw_p63, fun _ h => absurd h List.not_mem_nil⟩⟩⟩⟩⟩⟩⟩⟩⟩⟩⟩⟩⟩⟩⟩⟩
theorem lw_p64 : lw_okq (⟨"TypeAtNightModel", "readAct", "(I)V"⟩, 47) := ⟨⟨by decide +kernel, by decide +kernel⟩, List.mem_of_getElem? (i := 1242) (by decide +kernel), List.mem_of_getElem? (i := 1607) (by decide +kernel), List.mem_of_getElem? (i := 1608) (by decide +kernel)⟩
theorem lw_p65 : lw_okq (⟨"TypeAtNightModel", "act", "(I)Z"⟩, 47) := ⟨⟨by decide +kernel, by decide +kernel⟩, List.mem_of_getElem? (i := 1242) (by decide +kernel), List.mem_of_getElem? (i := 1611) (by decide +kernel), List.mem_of_getElem? (i := 1612) (by decide +kernel)⟩
theorem lw_p66 : lw_okq (⟨"TypeAtNightModel", "free", "(I)I"⟩, 47) := ⟨⟨by decide +kernel, by decide +kernel⟩, List.mem_of_getElem? (i := 1242) (by decide +kernel), List.mem_of_getElem? (i := 1629) (by decide +kernel), List.mem_of_getElem? (i := 1630) (by decide +kernel)⟩
theorem lw_p67 : lw_okq (⟨"TypeAtNightModel", "isText", "(I)Z"⟩, 47) := ⟨⟨by decide +kernel, by decide +kernel⟩, List.mem_of_getElem? (i := 1242) (by decide +kernel), List.mem_of_getElem? (i := 1641) (by decide +kernel), List.mem_of_getElem? (i := 1642) (by decide +kernel)⟩
theorem lw_p68 : lw_okq (⟨"TypeAtNightModel", "canSet", "(I)Z"⟩, 47) := ⟨⟨by decide +kernel, by decide +kernel⟩, List.mem_of_getElem? (i := 1242) (by decide +kernel), List.mem_of_getElem? (i := 1653) (by decide +kernel), List.mem_of_getElem? (i := 1654) (by decide +kernel)⟩
theorem lw_p69 : lw_okq (⟨"TypeAtNightModel", "goThen", "(I)V"⟩, 47) := ⟨⟨by decide +kernel, by decide +kernel⟩, List.mem_of_getElem? (i := 1242) (by decide +kernel), List.mem_of_getElem? (i := 1661) (by decide +kernel), List.mem_of_getElem? (i := 1662) (by decide +kernel)⟩
theorem lw_p70 : lw_okq (⟨"TypeAtNightModel", "layTrail", "()V"⟩, 47) := ⟨⟨by decide +kernel, by decide +kernel⟩, List.mem_of_getElem? (i := 1242) (by decide +kernel), List.mem_of_getElem? (i := 1669) (by decide +kernel), List.mem_of_getElem? (i := 1670) (by decide +kernel)⟩
theorem lw_p71 : lw_okq (⟨"TypeAtNightModel", "areLike", "(IIII)Z"⟩, 47) := ⟨⟨by decide +kernel, by decide +kernel⟩, List.mem_of_getElem? (i := 1242) (by decide +kernel), List.mem_of_getElem? (i := 1673) (by decide +kernel), List.mem_of_getElem? (i := 1674) (by decide +kernel)⟩
theorem lw_p72 : lw_okq (⟨"TypeAtNightModel", "isCalm", "(III)Z"⟩, 47) := ⟨⟨by decide +kernel, by decide +kernel⟩, List.mem_of_getElem? (i := 1242) (by decide +kernel), List.mem_of_getElem? (i := 1690) (by decide +kernel), List.mem_of_getElem? (i := 1691) (by decide +kernel)⟩
theorem lw_p73 : lw_okq (⟨"TypeAtNightModel", "canBox", "(II)Z"⟩, 47) := ⟨⟨by decide +kernel, by decide +kernel⟩, List.mem_of_getElem? (i := 1242) (by decide +kernel), List.mem_of_getElem? (i := 1698) (by decide +kernel), List.mem_of_getElem? (i := 1699) (by decide +kernel)⟩
theorem lw_p74 : lw_okq (⟨"TypeAtNightModel", "isChord", "(I)Z"⟩, 47) := ⟨⟨by decide +kernel, by decide +kernel⟩, List.mem_of_getElem? (i := 1242) (by decide +kernel), List.mem_of_getElem? (i := 1714) (by decide +kernel), List.mem_of_getElem? (i := 1715) (by decide +kernel)⟩
theorem lw_p75 : lw_okq (⟨"TypeAtNightModel", "fitting", "()I"⟩, 47) := ⟨⟨by decide +kernel, by decide +kernel⟩, List.mem_of_getElem? (i := 1242) (by decide +kernel), List.mem_of_getElem? (i := 1733) (by decide +kernel), List.mem_of_getElem? (i := 1734) (by decide +kernel)⟩
theorem lw_p76 : lw_okq (⟨"TypeAtNightModel", "isSo", "(III)Z"⟩, 47) := ⟨⟨by decide +kernel, by decide +kernel⟩, List.mem_of_getElem? (i := 1242) (by decide +kernel), List.mem_of_getElem? (i := 1737) (by decide +kernel), List.mem_of_getElem? (i := 1738) (by decide +kernel)⟩
theorem lw_p77 : lw_okq (⟨"TypeAtNightModel", "isLaw", "(I)Z"⟩, 47) := ⟨⟨by decide +kernel, by decide +kernel⟩, List.mem_of_getElem? (i := 1242) (by decide +kernel), List.mem_of_getElem? (i := 1760) (by decide +kernel), List.mem_of_getElem? (i := 1761) (by decide +kernel)⟩
theorem lw_p78 : lw_okq (⟨"TypeAtNightModel", "farBehind5", "()I"⟩, 47) := ⟨⟨by decide +kernel, by decide +kernel⟩, List.mem_of_getElem? (i := 1242) (by decide +kernel), List.mem_of_getElem? (i := 1802) (by decide +kernel), List.mem_of_getElem? (i := 1803) (by decide +kernel)⟩
theorem lw_p79 : lw_okq (⟨"TypeAtNightModel", "draw", "(I)I"⟩, 47) := ⟨⟨by decide +kernel, by decide +kernel⟩, List.mem_of_getElem? (i := 1242) (by decide +kernel), List.mem_of_getElem? (i := 1810) (by decide +kernel), List.mem_of_getElem? (i := 1811) (by decide +kernel)⟩
def lw_privs_5 : List (MethodName × Nat) := [(⟨"TypeAtNightModel", "readAct", "(I)V"⟩, 47), (⟨"TypeAtNightModel", "act", "(I)Z"⟩, 47), (⟨"TypeAtNightModel", "free", "(I)I"⟩, 47), (⟨"TypeAtNightModel", "isText", "(I)Z"⟩, 47), (⟨"TypeAtNightModel", "canSet", "(I)Z"⟩, 47), (⟨"TypeAtNightModel", "goThen", "(I)V"⟩, 47), (⟨"TypeAtNightModel", "layTrail", "()V"⟩, 47), (⟨"TypeAtNightModel", "areLike", "(IIII)Z"⟩, 47), (⟨"TypeAtNightModel", "isCalm", "(III)Z"⟩, 47), (⟨"TypeAtNightModel", "canBox", "(II)Z"⟩, 47), (⟨"TypeAtNightModel", "isChord", "(I)Z"⟩, 47), (⟨"TypeAtNightModel", "fitting", "()I"⟩, 47), (⟨"TypeAtNightModel", "isSo", "(III)Z"⟩, 47), (⟨"TypeAtNightModel", "isLaw", "(I)Z"⟩, 47), (⟨"TypeAtNightModel", "farBehind5", "()I"⟩, 47), (⟨"TypeAtNightModel", "draw", "(I)I"⟩, 47)]
theorem lw_r5 : ∀ q ∈ lw_privs_5, lw_okq q := List.forall_mem_cons.mpr ⟨lw_p64, List.forall_mem_cons.mpr ⟨lw_p65, List.forall_mem_cons.mpr ⟨lw_p66, List.forall_mem_cons.mpr ⟨lw_p67, List.forall_mem_cons.mpr ⟨lw_p68, List.forall_mem_cons.mpr ⟨lw_p69, List.forall_mem_cons.mpr ⟨lw_p70, List.forall_mem_cons.mpr ⟨lw_p71, List.forall_mem_cons.mpr ⟨lw_p72, List.forall_mem_cons.mpr ⟨lw_p73, List.forall_mem_cons.mpr ⟨lw_p74, List.forall_mem_cons.mpr ⟨lw_p75, List.forall_mem_cons.mpr ⟨lw_p76, List.forall_mem_cons.mpr ⟨lw_p77, List.forall_mem_cons.mpr ⟨lw_p78, List.forall_mem_cons.mpr ⟨lw_p79, fun _ h => absurd h List.not_mem_nil⟩⟩⟩⟩⟩⟩⟩⟩⟩⟩⟩⟩⟩⟩⟩⟩
def lw_privs : List (MethodName × Nat) := lw_privs_1 ++ (lw_privs_2 ++ (lw_privs_3 ++ (lw_privs_4 ++ (lw_privs_5))))
def lw_tbl : List Cond := k2_sels lw_privs ++ tables_1
theorem lw_privs_ok : ∀ q ∈ lw_privs, lw_okq q := by
  show ∀ q ∈ lw_privs_1 ++ (lw_privs_2 ++ (lw_privs_3 ++ (lw_privs_4 ++ (lw_privs_5)))), lw_okq q
  exact List.forall_mem_append.mpr ⟨lw_r1, List.forall_mem_append.mpr ⟨lw_r2, List.forall_mem_append.mpr ⟨lw_r3, List.forall_mem_append.mpr ⟨lw_r4, lw_r5⟩⟩⟩⟩
/-! ===== BEGIN printed: names, fields, word lists, decode rows ===== -/
def RX0 : String := "TypeAtNight$Boxing"
def TX0 : u_T := fun k => match k with
  | 0 => ("TypeAtNight$Boxing", "place", "[I", true)
  | _ => ("TypeAtNight$Boxing", "apart", "[I", true)
def tyX0 : Nat → FieldType := fun k => match k with
  | 0 => .array .int
  | _ => .array .int
abbrev wsX00 : List Cond := u_ws RX0 TX0 2
theorem nmX0 : ∀ a, a < 2 → ∀ b, b < 2 → a ≠ b → (TX0 a).2.1 ≠ (TX0 b).2.1 := by decide +kernel
theorem tyX0_ok : ∀ k, k < 2 → parseFieldDescriptor (TX0 k).2.2.1 = some (tyX0 k) := by decide +kernel
abbrev cX0_init : ByteArray := prog_2_method_1_code
def yX0_init : MethodName := ⟨RX0, "<init>", "()V"⟩
abbrev cX0_read : ByteArray := prog_2_method_2_code
def yX0_read : MethodName := ⟨RX0, "read", "(LTypeAtNight$Text;)I"⟩
abbrev cX0_putApart : ByteArray := prog_2_method_3_code
def yX0_putApart : MethodName := ⟨RX0, "putApart", "(II)V"⟩
abbrev cX0_fewest : ByteArray := prog_2_method_4_code
def yX0_fewest : MethodName := ⟨RX0, "fewest", "()I"⟩
abbrev cX0_placeFrom : ByteArray := prog_2_method_5_code
def yX0_placeFrom : MethodName := ⟨RX0, "placeFrom", "(III)Z"⟩
abbrev cX0_mayStand : ByteArray := prog_2_method_6_code
def yX0_mayStand : MethodName := ⟨RX0, "mayStand", "(II)Z"⟩
def RX1 : String := "TypeAtNight$Galley"
def TX1 : u_T := fun k => match k with
  | 0 => ("TypeAtNight$Galley", "worth", "[I", true)
  | _ => ("TypeAtNight$Galley", "known", "I", false)
def tyX1 : Nat → FieldType := fun k => match k with
  | 0 => .array .int
  | _ => .int
abbrev wsX10 : List Cond := u_ws RX1 TX1 2
theorem nmX1 : ∀ a, a < 2 → ∀ b, b < 2 → a ≠ b → (TX1 a).2.1 ≠ (TX1 b).2.1 := by decide +kernel
theorem tyX1_ok : ∀ k, k < 2 → parseFieldDescriptor (TX1 k).2.2.1 = some (tyX1 k) := by decide +kernel
abbrev cX1_init : ByteArray := prog_3_method_1_code
def yX1_init : MethodName := ⟨RX1, "<init>", "()V"⟩
abbrev cX1_leftOfWin : ByteArray := prog_3_method_2_code
def yX1_leftOfWin : MethodName := ⟨RX1, "leftOfWin", "(I)I"⟩
abbrev cX1_learn : ByteArray := prog_3_method_3_code
def yX1_learn : MethodName := ⟨RX1, "learn", "(I)V"⟩
def RX2 : String := "TypeAtNight$Hearsay"
def TX2 : u_T := fun k => match k with
  | 0 => ("TypeAtNight$Hearsay", "questions", "[I", true)
  | _ => ("TypeAtNight$Hearsay", "size", "I", false)
def tyX2 : Nat → FieldType := fun k => match k with
  | 0 => .array .int
  | _ => .int
abbrev wsX20 : List Cond := u_ws RX2 TX2 2
theorem nmX2 : ∀ a, a < 2 → ∀ b, b < 2 → a ≠ b → (TX2 a).2.1 ≠ (TX2 b).2.1 := by decide +kernel
theorem tyX2_ok : ∀ k, k < 2 → parseFieldDescriptor (TX2 k).2.2.1 = some (tyX2 k) := by decide +kernel
abbrev cX2_init : ByteArray := prog_4_method_1_code
def yX2_init : MethodName := ⟨RX2, "<init>", "()V"⟩
abbrev cX2_size : ByteArray := prog_4_method_2_code
def yX2_size : MethodName := ⟨RX2, "size", "()I"⟩
abbrev cX2_hear : ByteArray := prog_4_method_3_code
def yX2_hear : MethodName := ⟨RX2, "hear", "(II)I"⟩
abbrev cX2_clear : ByteArray := prog_4_method_4_code
def yX2_clear : MethodName := ⟨RX2, "clear", "()I"⟩
abbrev cX2_mostOf : ByteArray := prog_4_method_5_code
def yX2_mostOf : MethodName := ⟨RX2, "mostOf", "(I)I"⟩
abbrev cX2_fitting : ByteArray := prog_4_method_6_code
def yX2_fitting : MethodName := ⟨RX2, "fitting", "(LTypeAtNight$TypeCase;)I"⟩
abbrev cX2_answering : ByteArray := prog_4_method_7_code
def yX2_answering : MethodName := ⟨RX2, "answering", "(LTypeAtNight$TypeCase;I)I"⟩
abbrev cX2_isSo : ByteArray := prog_4_method_8_code
def yX2_isSo : MethodName := ⟨RX2, "isSo", "(LTypeAtNight$TypeCase;III)Z"⟩
abbrev cX2_leftAtMost : ByteArray := prog_4_method_9_code
def yX2_leftAtMost : MethodName := ⟨RX2, "leftAtMost", "(LTypeAtNight$TypeCase;II)I"⟩
abbrev cX2_bestQuestion : ByteArray := prog_4_method_10_code
def yX2_bestQuestion : MethodName := ⟨RX2, "bestQuestion", "(LTypeAtNight$TypeCase;I)I"⟩
def RX3 : String := "TypeAtNight$Letters"
def TX3 : u_T := fun k => match k with
  | 0 => ("TypeAtNight$Letters", "need", "[I", true)
  | 1 => ("TypeAtNight$Letters", "size", "I", false)
  | 2 => ("TypeAtNight$Letters", "pools", "[I", true)
  | _ => ("TypeAtNight$Letters", "pool", "I", false)
def tyX3 : Nat → FieldType := fun k => match k with
  | 0 => .array .int
  | 1 => .int
  | 2 => .array .int
  | _ => .int
abbrev wsX30 : List Cond := u_ws RX3 TX3 4
theorem nmX3 : ∀ a, a < 4 → ∀ b, b < 4 → a ≠ b → (TX3 a).2.1 ≠ (TX3 b).2.1 := by decide +kernel
theorem tyX3_ok : ∀ k, k < 4 → parseFieldDescriptor (TX3 k).2.2.1 = some (tyX3 k) := by decide +kernel
abbrev cX3_init : ByteArray := prog_5_method_1_code
def yX3_init : MethodName := ⟨RX3, "<init>", "()V"⟩
abbrev cX3_read : ByteArray := prog_5_method_2_code
def yX3_read : MethodName := ⟨RX3, "read", "(LTypeAtNight$Text;II)I"⟩
abbrev cX3_gather : ByteArray := prog_5_method_3_code
def yX3_gather : MethodName := ⟨RX3, "gather", "(LTypeAtNight$TypeCase;)I"⟩
abbrev cX3_suits : ByteArray := prog_5_method_4_code
def yX3_suits : MethodName := ⟨RX3, "suits", "(I)Z"⟩
def RX4 : String := "TypeAtNight$Mixing"
def TX4 : u_T := fun k => match k with
  | 0 => ("TypeAtNight$Mixing", "moods", "[I", true)
  | 1 => ("TypeAtNight$Mixing", "besides", "[I", true)
  | 2 => ("TypeAtNight$Mixing", "outcomes", "[I", true)
  | 3 => ("TypeAtNight$Mixing", "lawsByOutcome", "[I", true)
  | _ => ("TypeAtNight$Mixing", "size", "I", false)
def tyX4 : Nat → FieldType := fun k => match k with
  | 0 => .array .int
  | 1 => .array .int
  | 2 => .array .int
  | 3 => .array .int
  | _ => .int
abbrev wsX40 : List Cond := u_ws RX4 TX4 5
theorem nmX4 : ∀ a, a < 5 → ∀ b, b < 5 → a ≠ b → (TX4 a).2.1 ≠ (TX4 b).2.1 := by decide +kernel
theorem tyX4_ok : ∀ k, k < 5 → parseFieldDescriptor (TX4 k).2.2.1 = some (tyX4 k) := by decide +kernel
abbrev cX4_init : ByteArray := prog_6_method_1_code
def yX4_init : MethodName := ⟨RX4, "<init>", "()V"⟩
abbrev cX4_size : ByteArray := prog_6_method_2_code
def yX4_size : MethodName := ⟨RX4, "size", "()I"⟩
abbrev cX4_see : ByteArray := prog_6_method_3_code
def yX4_see : MethodName := ⟨RX4, "see", "(III)I"⟩
abbrev cX4_clear : ByteArray := prog_6_method_4_code
def yX4_clear : MethodName := ⟨RX4, "clear", "()I"⟩
abbrev cX4_upperOf : ByteArray := prog_6_method_5_code
def yX4_upperOf : MethodName := ⟨RX4, "upperOf", "(I)I"⟩
abbrev cX4_lowerOf : ByteArray := prog_6_method_6_code
def yX4_lowerOf : MethodName := ⟨RX4, "lowerOf", "(I)I"⟩
abbrev cX4_becomes : ByteArray := prog_6_method_7_code
def yX4_becomes : MethodName := ⟨RX4, "becomes", "(III)I"⟩
abbrev cX4_fitting : ByteArray := prog_6_method_8_code
def yX4_fitting : MethodName := ⟨RX4, "fitting", "()I"⟩
abbrev cX4_fitsAll : ByteArray := prog_6_method_9_code
def yX4_fitsAll : MethodName := ⟨RX4, "fitsAll", "(I)Z"⟩
abbrev cX4_leftAtMost : ByteArray := prog_6_method_10_code
def yX4_leftAtMost : MethodName := ⟨RX4, "leftAtMost", "(II)I"⟩
abbrev cX4_bestLook : ByteArray := prog_6_method_11_code
def yX4_bestLook : MethodName := ⟨RX4, "bestLook", "(I)I"⟩
def RX5 : String := "TypeAtNight$Numbers"
def TX5 : u_T := fun k => match k with
  | 0 => ("TypeAtNight$Numbers", "numbers", "[J", true)
  | _ => ("TypeAtNight$Numbers", "size", "I", false)
def tyX5 : Nat → FieldType := fun k => match k with
  | 0 => .array .long
  | _ => .int
abbrev wsX50 : List Cond := u_ws RX5 TX5 2
theorem nmX5 : ∀ a, a < 2 → ∀ b, b < 2 → a ≠ b → (TX5 a).2.1 ≠ (TX5 b).2.1 := by decide +kernel
theorem tyX5_ok : ∀ k, k < 2 → parseFieldDescriptor (TX5 k).2.2.1 = some (tyX5 k) := by decide +kernel
abbrev cX5_init : ByteArray := prog_7_method_1_code
def yX5_init : MethodName := ⟨RX5, "<init>", "()V"⟩
abbrev cX5_clear : ByteArray := prog_7_method_2_code
def yX5_clear : MethodName := ⟨RX5, "clear", "()V"⟩
abbrev cX5_add : ByteArray := prog_7_method_3_code
def yX5_add : MethodName := ⟨RX5, "add", "(J)V"⟩
abbrev cX5_tell : ByteArray := prog_7_method_4_code
def yX5_tell : MethodName := ⟨RX5, "tell", "(J)V"⟩
abbrev cX5_tell_ : ByteArray := prog_7_method_5_code
def yX5_tell_ : MethodName := ⟨RX5, "tell", "(JJ)V"⟩
abbrev cX5_tell__ : ByteArray := prog_7_method_6_code
def yX5_tell__ : MethodName := ⟨RX5, "tell", "(JJJ)V"⟩
abbrev cX5_size : ByteArray := prog_7_method_7_code
def yX5_size : MethodName := ⟨RX5, "size", "()I"⟩
abbrev cX5_has : ByteArray := prog_7_method_8_code
def yX5_has : MethodName := ⟨RX5, "has", "(I)Z"⟩
abbrev cX5_at : ByteArray := prog_7_method_9_code
def yX5_at : MethodName := ⟨RX5, "at", "(I)J"⟩
def RX6 : String := "TypeAtNight$Past"
def TX6 : u_T := fun k => match k with
  | 0 => ("TypeAtNight$Past", "cases", "[LTypeAtNight$TypeCase;", true)
  | 1 => ("TypeAtNight$Past", "kept", "[LTypeAtNight$TypeCase;", true)
  | 2 => ("TypeAtNight$Past", "isKept", "[Z", true)
  | 3 => ("TypeAtNight$Past", "size", "I", false)
  | _ => ("TypeAtNight$Past", "next", "I", false)
def tyX6 : Nat → FieldType := fun k => match k with
  | 0 => .array (.object "TypeAtNight$TypeCase")
  | 1 => .array (.object "TypeAtNight$TypeCase")
  | 2 => .array .boolean
  | 3 => .int
  | _ => .int
abbrev wsX60 : List Cond := u_ws RX6 TX6 5
theorem nmX6 : ∀ a, a < 5 → ∀ b, b < 5 → a ≠ b → (TX6 a).2.1 ≠ (TX6 b).2.1 := by decide +kernel
theorem tyX6_ok : ∀ k, k < 5 → parseFieldDescriptor (TX6 k).2.2.1 = some (tyX6 k) := by decide +kernel
abbrev cX6_init : ByteArray := prog_8_method_1_code
def yX6_init : MethodName := ⟨RX6, "<init>", "()V"⟩
abbrev cX6_size : ByteArray := prog_8_method_2_code
def yX6_size : MethodName := ⟨RX6, "size", "()I"⟩
abbrev cX6_clear : ByteArray := prog_8_method_3_code
def yX6_clear : MethodName := ⟨RX6, "clear", "()V"⟩
abbrev cX6_push : ByteArray := prog_8_method_4_code
def yX6_push : MethodName := ⟨RX6, "push", "(LTypeAtNight$TypeCase;)V"⟩
abbrev cX6_pop : ByteArray := prog_8_method_5_code
def yX6_pop : MethodName := ⟨RX6, "pop", "(LTypeAtNight$TypeCase;)Z"⟩
abbrev cX6_keepUnder : ByteArray := prog_8_method_6_code
def yX6_keepUnder : MethodName := ⟨RX6, "keepUnder", "(ILTypeAtNight$TypeCase;)Z"⟩
abbrev cX6_bringBack : ByteArray := prog_8_method_7_code
def yX6_bringBack : MethodName := ⟨RX6, "bringBack", "(ILTypeAtNight$TypeCase;)Z"⟩
def RX7 : String := "TypeAtNight$Rule"
def TX7 : u_T := fun k => match k with
  | 0 => ("TypeAtNight$Rule", "things", "[I", true)
  | 1 => ("TypeAtNight$Rule", "steps", "[I", true)
  | 2 => ("TypeAtNight$Rule", "stack", "[I", true)
  | 3 => ("TypeAtNight$Rule", "size", "I", false)
  | 4 => ("TypeAtNight$Rule", "hasNight", "Z", false)
  | 5 => ("TypeAtNight$Rule", "at", "I", false)
  | _ => ("TypeAtNight$Rule", "end", "I", false)
def tyX7 : Nat → FieldType := fun k => match k with
  | 0 => .array .int
  | 1 => .array .int
  | 2 => .array .int
  | 3 => .int
  | 4 => .boolean
  | 5 => .int
  | _ => .int
abbrev wsX70 : List Cond := u_ws RX7 TX7 7
theorem nmX7 : ∀ a, a < 7 → ∀ b, b < 7 → a ≠ b → (TX7 a).2.1 ≠ (TX7 b).2.1 := by decide +kernel
theorem tyX7_ok : ∀ k, k < 7 → parseFieldDescriptor (TX7 k).2.2.1 = some (tyX7 k) := by decide +kernel
abbrev cX7_init : ByteArray := prog_9_method_1_code
def yX7_init : MethodName := ⟨RX7, "<init>", "()V"⟩
abbrev cX7_looksAtNight : ByteArray := prog_9_method_2_code
def yX7_looksAtNight : MethodName := ⟨RX7, "looksAtNight", "()Z"⟩
abbrev cX7_read : ByteArray := prog_9_method_3_code
def yX7_read : MethodName := ⟨RX7, "read", "(LTypeAtNight$Text;)I"⟩
abbrev cX7_putFirstRule : ByteArray := prog_9_method_4_code
def yX7_putFirstRule : MethodName := ⟨RX7, "putFirstRule", "()V"⟩
abbrev cX7_put : ByteArray := prog_9_method_5_code
def yX7_put : MethodName := ⟨RX7, "put", "(I)V"⟩
abbrev cX7_putThing : ByteArray := prog_9_method_6_code
def yX7_putThing : MethodName := ⟨RX7, "putThing", "(I)V"⟩
abbrev cX7_readJoined : ByteArray := prog_9_method_7_code
def yX7_readJoined : MethodName := ⟨RX7, "readJoined", "(LTypeAtNight$Text;II)Z"⟩
abbrev cX7_bindingOf : ByteArray := prog_9_method_8_code
def yX7_bindingOf : MethodName := ⟨RX7, "bindingOf", "(I)I"⟩
abbrev cX7_readThing : ByteArray := prog_9_method_9_code
def yX7_readThing : MethodName := ⟨RX7, "readThing", "(LTypeAtNight$Text;I)Z"⟩
abbrev cX7_readNumber : ByteArray := prog_9_method_10_code
def yX7_readNumber : MethodName := ⟨RX7, "readNumber", "(LTypeAtNight$Text;)V"⟩
abbrev cX7_readInner : ByteArray := prog_9_method_11_code
def yX7_readInner : MethodName := ⟨RX7, "readInner", "(LTypeAtNight$Text;I)Z"⟩
abbrev cX7_value : ByteArray := prog_9_method_12_code
def yX7_value : MethodName := ⟨RX7, "value", "()I"⟩
def RX8 : String := "TypeAtNight$Text"
def TX8 : u_T := fun k => match k with
  | 0 => ("TypeAtNight$Text", "signs", "[C", true)
  | _ => ("TypeAtNight$Text", "size", "I", false)
def tyX8 : Nat → FieldType := fun k => match k with
  | 0 => .array .char
  | _ => .int
abbrev wsX80 : List Cond := u_ws RX8 TX8 2
theorem nmX8 : ∀ a, a < 2 → ∀ b, b < 2 → a ≠ b → (TX8 a).2.1 ≠ (TX8 b).2.1 := by decide +kernel
theorem tyX8_ok : ∀ k, k < 2 → parseFieldDescriptor (TX8 k).2.2.1 = some (tyX8 k) := by decide +kernel
abbrev cX8_init : ByteArray := prog_10_method_1_code
def yX8_init : MethodName := ⟨RX8, "<init>", "()V"⟩
abbrev cX8_append : ByteArray := prog_10_method_2_code
def yX8_append : MethodName := ⟨RX8, "append", "(I)I"⟩
abbrev cX8_cut : ByteArray := prog_10_method_3_code
def yX8_cut : MethodName := ⟨RX8, "cut", "(I)Z"⟩
abbrev cX8_clear : ByteArray := prog_10_method_4_code
def yX8_clear : MethodName := ⟨RX8, "clear", "()V"⟩
abbrev cX8_size : ByteArray := prog_10_method_5_code
def yX8_size : MethodName := ⟨RX8, "size", "()I"⟩
abbrev cX8_at : ByteArray := prog_10_method_6_code
def yX8_at : MethodName := ⟨RX8, "at", "(I)I"⟩
abbrev cX8_letterAt : ByteArray := prog_10_method_7_code
def yX8_letterAt : MethodName := ⟨RX8, "letterAt", "(I)I"⟩
abbrev cX8_digitAt : ByteArray := prog_10_method_8_code
def yX8_digitAt : MethodName := ⟨RX8, "digitAt", "(I)I"⟩
abbrev cX8_twoDigitsAt : ByteArray := prog_10_method_9_code
def yX8_twoDigitsAt : MethodName := ⟨RX8, "twoDigitsAt", "(I)I"⟩
abbrev cX8_signedDigitAt : ByteArray := prog_10_method_10_code
def yX8_signedDigitAt : MethodName := ⟨RX8, "signedDigitAt", "(I)I"⟩
abbrev cX8_misfit : ByteArray := prog_10_method_11_code
def yX8_misfit : MethodName := ⟨RX8, "misfit", "(Ljava/lang/String;II)I"⟩
abbrev cX8_stands : ByteArray := prog_10_method_12_code
def yX8_stands : MethodName := ⟨RX8, "stands", "(CI)Z"⟩
def RX9 : String := "TypeAtNight$TypeCase"
def TX9 : u_T := fun k => match k with
  | 0 => ("TypeAtNight$TypeCase", "letter", "[I", true)
  | 1 => ("TypeAtNight$TypeCase", "wear", "[I", true)
  | 2 => ("TypeAtNight$TypeCase", "mood", "[I", true)
  | 3 => ("TypeAtNight$TypeCase", "box", "[I", true)
  | 4 => ("TypeAtNight$TypeCase", "size", "I", false)
  | 5 => ("TypeAtNight$TypeCase", "standing", "I", false)
  | 6 => ("TypeAtNight$TypeCase", "night", "I", false)
  | 7 => ("TypeAtNight$TypeCase", "moodsInBox", "[I", true)
  | _ => ("TypeAtNight$TypeCase", "sortsInBox", "[I", true)
def tyX9 : Nat → FieldType := fun k => match k with
  | 0 => .array .int
  | 1 => .array .int
  | 2 => .array .int
  | 3 => .array .int
  | 4 => .int
  | 5 => .int
  | 6 => .int
  | 7 => .array .int
  | _ => .array .int
abbrev wsX90 : List Cond := u_ws RX9 TX9 9
theorem nmX9 : ∀ a, a < 9 → ∀ b, b < 9 → a ≠ b → (TX9 a).2.1 ≠ (TX9 b).2.1 := by decide +kernel
theorem tyX9_ok : ∀ k, k < 9 → parseFieldDescriptor (TX9 k).2.2.1 = some (tyX9 k) := by decide +kernel
abbrev cX9_init : ByteArray := prog_11_method_1_code
def yX9_init : MethodName := ⟨RX9, "<init>", "()V"⟩
abbrev cX9_copy : ByteArray := prog_11_method_2_code
def yX9_copy : MethodName := ⟨RX9, "copy", "(LTypeAtNight$TypeCase;)V"⟩
abbrev cX9_add : ByteArray := prog_11_method_3_code
def yX9_add : MethodName := ⟨RX9, "add", "(III)V"⟩
abbrev cX9_has : ByteArray := prog_11_method_4_code
def yX9_has : MethodName := ⟨RX9, "has", "(I)Z"⟩
abbrev cX9_all : ByteArray := prog_11_method_5_code
def yX9_all : MethodName := ⟨RX9, "all", "()I"⟩
abbrev cX9_free : ByteArray := prog_11_method_6_code
def yX9_free : MethodName := ⟨RX9, "free", "()I"⟩
abbrev cX9_ofLetter : ByteArray := prog_11_method_7_code
def yX9_ofLetter : MethodName := ⟨RX9, "ofLetter", "(I)I"⟩
abbrev cX9_freeOf : ByteArray := prog_11_method_8_code
def yX9_freeOf : MethodName := ⟨RX9, "freeOf", "(I)I"⟩
abbrev cX9_inBox : ByteArray := prog_11_method_9_code
def yX9_inBox : MethodName := ⟨RX9, "inBox", "(I)I"⟩
abbrev cX9_whose : ByteArray := prog_11_method_10_code
def yX9_whose : MethodName := ⟨RX9, "whose", "([II)I"⟩
abbrev cX9_moodsOf : ByteArray := prog_11_method_11_code
def yX9_moodsOf : MethodName := ⟨RX9, "moodsOf", "(I)I"⟩
abbrev cX9_moodsOfAll : ByteArray := prog_11_method_12_code
def yX9_moodsOfAll : MethodName := ⟨RX9, "moodsOfAll", "()I"⟩
abbrev cX9_farFromRest : ByteArray := prog_11_method_13_code
def yX9_farFromRest : MethodName := ⟨RX9, "farFromRest", "()I"⟩
abbrev cX9_wearOfAll : ByteArray := prog_11_method_14_code
def yX9_wearOfAll : MethodName := ⟨RX9, "wearOfAll", "()I"⟩
abbrev cX9_atHome : ByteArray := prog_11_method_15_code
def yX9_atHome : MethodName := ⟨RX9, "atHome", "()I"⟩
abbrev cX9_hasTwoLetters : ByteArray := prog_11_method_16_code
def yX9_hasTwoLetters : MethodName := ⟨RX9, "hasTwoLetters", "(I)Z"⟩
abbrev cX9_lettersOf : ByteArray := prog_11_method_17_code
def yX9_lettersOf : MethodName := ⟨RX9, "lettersOf", "(I)I"⟩
abbrev cX9_packedMoods : ByteArray := prog_11_method_18_code
def yX9_packedMoods : MethodName := ⟨RX9, "packedMoods", "()J"⟩
abbrev cX9_wouldTake : ByteArray := prog_11_method_19_code
def yX9_wouldTake : MethodName := ⟨RX9, "wouldTake", "(LTypeAtNight$Letters;)I"⟩
abbrev cX9_leastWorn : ByteArray := prog_11_method_20_code
def yX9_leastWorn : MethodName := ⟨RX9, "leastWorn", "(I)I"⟩
abbrev cX9_setSorts : ByteArray := prog_11_method_21_code
def yX9_setSorts : MethodName := ⟨RX9, "setSorts", "(II)V"⟩
abbrev cX9_moveTo : ByteArray := prog_11_method_22_code
def yX9_moveTo : MethodName := ⟨RX9, "moveTo", "(II)I"⟩
abbrev cX9_clean : ByteArray := prog_11_method_23_code
def yX9_clean : MethodName := ⟨RX9, "clean", "(I)I"⟩
abbrev cX9_castAnew : ByteArray := prog_11_method_24_code
def yX9_castAnew : MethodName := ⟨RX9, "castAnew", "(I)I"⟩
abbrev cX9_distribute : ByteArray := prog_11_method_25_code
def yX9_distribute : MethodName := ⟨RX9, "distribute", "()V"⟩
abbrev cX9_passNights : ByteArray := prog_11_method_26_code
def yX9_passNights : MethodName := ⟨RX9, "passNights", "(LTypeAtNight$Rule;II)V"⟩
abbrev cX9_passNight : ByteArray := prog_11_method_27_code
def yX9_passNight : MethodName := ⟨RX9, "passNight", "(LTypeAtNight$Rule;I)Z"⟩
abbrev cX9_turnNow : ByteArray := prog_11_method_28_code
def yX9_turnNow : MethodName := ⟨RX9, "turnNow", "(LTypeAtNight$Rule;I)I"⟩
abbrev cX9_weighBoxes : ByteArray := prog_11_method_29_code
def yX9_weighBoxes : MethodName := ⟨RX9, "weighBoxes", "()V"⟩
abbrev cX9_turn : ByteArray := prog_11_method_30_code
def yX9_turn : MethodName := ⟨RX9, "turn", "(LTypeAtNight$Rule;I)I"⟩
def RX10 : String := "TypeAtNight$Words"
def TX10 : u_T := fun k => match k with
  | 0 => ("TypeAtNight$Words", "need", "[I", true)
  | 1 => ("TypeAtNight$Words", "there", "[I", true)
  | _ => ("TypeAtNight$Words", "size", "I", false)
def tyX10 : Nat → FieldType := fun k => match k with
  | 0 => .array .int
  | 1 => .array .int
  | _ => .int
abbrev wsX100 : List Cond := u_ws RX10 TX10 3
theorem nmX10 : ∀ a, a < 3 → ∀ b, b < 3 → a ≠ b → (TX10 a).2.1 ≠ (TX10 b).2.1 := by decide +kernel
theorem tyX10_ok : ∀ k, k < 3 → parseFieldDescriptor (TX10 k).2.2.1 = some (tyX10 k) := by decide +kernel
abbrev cX10_init : ByteArray := prog_12_method_1_code
def yX10_init : MethodName := ⟨RX10, "<init>", "()V"⟩
abbrev cX10_read : ByteArray := prog_12_method_2_code
def yX10_read : MethodName := ⟨RX10, "read", "(LTypeAtNight$Text;)I"⟩
abbrev cX10_mostAtOnce : ByteArray := prog_12_method_3_code
def yX10_mostAtOnce : MethodName := ⟨RX10, "mostAtOnce", "(LTypeAtNight$TypeCase;)I"⟩
abbrev cX10_canBeSet : ByteArray := prog_12_method_4_code
def yX10_canBeSet : MethodName := ⟨RX10, "canBeSet", "(I)Z"⟩
def RX11 : String := "TypeAtNight"
def TX11 : u_T := fun k => match k with
  | 0 => ("TypeAtNight", "text", "LTypeAtNight$Text;", true)
  | 1 => ("TypeAtNight", "told", "LTypeAtNight$Numbers;", true)
  | 2 => ("TypeAtNight", "now", "LTypeAtNight$TypeCase;", true)
  | 3 => ("TypeAtNight", "then", "LTypeAtNight$TypeCase;", true)
  | 4 => ("TypeAtNight", "trial", "LTypeAtNight$TypeCase;", true)
  | 5 => ("TypeAtNight", "before", "LTypeAtNight$TypeCase;", true)
  | 6 => ("TypeAtNight", "past", "LTypeAtNight$Past;", true)
  | 7 => ("TypeAtNight", "ruling", "LTypeAtNight$Rule;", false)
  | 8 => ("TypeAtNight", "another", "LTypeAtNight$Rule;", false)
  | 9 => ("TypeAtNight", "letters", "LTypeAtNight$Letters;", true)
  | 10 => ("TypeAtNight", "words", "LTypeAtNight$Words;", true)
  | 11 => ("TypeAtNight", "boxing", "LTypeAtNight$Boxing;", true)
  | 12 => ("TypeAtNight", "hearsay", "LTypeAtNight$Hearsay;", true)
  | 13 => ("TypeAtNight", "mixing", "LTypeAtNight$Mixing;", true)
  | 14 => ("TypeAtNight", "galleys", "LTypeAtNight$Galley;", true)
  | _ => ("TypeAtNight", "moodsBehind", "[J", true)
def tyX11 : Nat → FieldType := fun k => match k with
  | 0 => .object "TypeAtNight$Text"
  | 1 => .object "TypeAtNight$Numbers"
  | 2 => .object "TypeAtNight$TypeCase"
  | 3 => .object "TypeAtNight$TypeCase"
  | 4 => .object "TypeAtNight$TypeCase"
  | 5 => .object "TypeAtNight$TypeCase"
  | 6 => .object "TypeAtNight$Past"
  | 7 => .object "TypeAtNight$Rule"
  | 8 => .object "TypeAtNight$Rule"
  | 9 => .object "TypeAtNight$Letters"
  | 10 => .object "TypeAtNight$Words"
  | 11 => .object "TypeAtNight$Boxing"
  | 12 => .object "TypeAtNight$Hearsay"
  | 13 => .object "TypeAtNight$Mixing"
  | 14 => .object "TypeAtNight$Galley"
  | _ => .array .long
abbrev wsX110 : List Cond := u_ws RX11 TX11 16
theorem nmX11 : ∀ a, a < 16 → ∀ b, b < 16 → a ≠ b → (TX11 a).2.1 ≠ (TX11 b).2.1 := by decide +kernel
theorem tyX11_ok : ∀ k, k < 16 → parseFieldDescriptor (TX11 k).2.2.1 = some (tyX11 k) := by decide +kernel
abbrev cX11_init : ByteArray := prog_1_method_1_code
def yX11_init : MethodName := ⟨RX11, "<init>", "()V"⟩
abbrev cX11_sign : ByteArray := prog_1_method_2_code
def yX11_sign : MethodName := ⟨RX11, "sign", "(I)I"⟩
abbrev cX11_end : ByteArray := prog_1_method_3_code
def yX11_end : MethodName := ⟨RX11, "end", "(I)Z"⟩
abbrev cX11_sorts : ByteArray := prog_1_method_4_code
def yX11_sorts : MethodName := ⟨RX11, "sorts", "()I"⟩
abbrev cX11_rule : ByteArray := prog_1_method_5_code
def yX11_rule : MethodName := ⟨RX11, "rule", "()I"⟩
abbrev cX11_sort : ByteArray := prog_1_method_6_code
def yX11_sort : MethodName := ⟨RX11, "sort", "(II)I"⟩
abbrev cX11_box : ByteArray := prog_1_method_7_code
def yX11_box : MethodName := ⟨RX11, "box", "(II)I"⟩
abbrev cX11_sheet : ByteArray := prog_1_method_8_code
def yX11_sheet : MethodName := ⟨RX11, "sheet", "(IIII)I"⟩
abbrev cX11_sets : ByteArray := prog_1_method_9_code
def yX11_sets : MethodName := ⟨RX11, "sets", "(I)I"⟩
abbrev cX11_nights : ByteArray := prog_1_method_10_code
def yX11_nights : MethodName := ⟨RX11, "nights", "(I)I"⟩
abbrev cX11_moves : ByteArray := prog_1_method_11_code
def yX11_moves : MethodName := ⟨RX11, "moves", "(II)I"⟩
abbrev cX11_cleans : ByteArray := prog_1_method_12_code
def yX11_cleans : MethodName := ⟨RX11, "cleans", "(I)I"⟩
abbrev cX11_casts : ByteArray := prog_1_method_13_code
def yX11_casts : MethodName := ⟨RX11, "casts", "(I)I"⟩
abbrev cX11_week : ByteArray := prog_1_method_14_code
def yX11_week : MethodName := ⟨RX11, "week", "()I"⟩
abbrev cX11_undo : ByteArray := prog_1_method_15_code
def yX11_undo : MethodName := ⟨RX11, "undo", "()I"⟩
abbrev cX11_tells : ByteArray := prog_1_method_16_code
def yX11_tells : MethodName := ⟨RX11, "tells", "()I"⟩
abbrev cX11_often : ByteArray := prog_1_method_17_code
def yX11_often : MethodName := ⟨RX11, "often", "()I"⟩
abbrev cX11_shortest : ByteArray := prog_1_method_18_code
def yX11_shortest : MethodName := ⟨RX11, "shortest", "()I"⟩
abbrev cX11_bears : ByteArray := prog_1_method_19_code
def yX11_bears : MethodName := ⟨RX11, "bears", "(I)I"⟩
abbrev cX11_spans : ByteArray := prog_1_method_20_code
def yX11_spans : MethodName := ⟨RX11, "spans", "()I"⟩
abbrev cX11_packs : ByteArray := prog_1_method_21_code
def yX11_packs : MethodName := ⟨RX11, "packs", "()I"⟩
abbrev cX11_later : ByteArray := prog_1_method_22_code
def yX11_later : MethodName := ⟨RX11, "later", "(II)I"⟩
abbrev cX11_settles : ByteArray := prog_1_method_23_code
def yX11_settles : MethodName := ⟨RX11, "settles", "()I"⟩
abbrev cX11_round : ByteArray := prog_1_method_24_code
def yX11_round : MethodName := ⟨RX11, "round", "()I"⟩
abbrev cX11_gravest : ByteArray := prog_1_method_25_code
def yX11_gravest : MethodName := ⟨RX11, "gravest", "(I)I"⟩
abbrev cX11_blows : ByteArray := prog_1_method_26_code
def yX11_blows : MethodName := ⟨RX11, "blows", "(II)I"⟩
abbrev cX11_parts : ByteArray := prog_1_method_27_code
def yX11_parts : MethodName := ⟨RX11, "parts", "()I"⟩
abbrev cX11_mixed : ByteArray := prog_1_method_28_code
def yX11_mixed : MethodName := ⟨RX11, "mixed", "()I"⟩
abbrev cX11_rubs : ByteArray := prog_1_method_29_code
def yX11_rubs : MethodName := ⟨RX11, "rubs", "()I"⟩
abbrev cX11_chord : ByteArray := prog_1_method_30_code
def yX11_chord : MethodName := ⟨RX11, "chord", "(I)I"⟩
abbrev cX11_heard : ByteArray := prog_1_method_31_code
def yX11_heard : MethodName := ⟨RX11, "heard", "(II)I"⟩
abbrev cX11_forget : ByteArray := prog_1_method_32_code
def yX11_forget : MethodName := ⟨RX11, "forget", "()I"⟩
abbrev cX11_fits : ByteArray := prog_1_method_33_code
def yX11_fits : MethodName := ⟨RX11, "fits", "()I"⟩
abbrev cX11_asks : ByteArray := prog_1_method_34_code
def yX11_asks : MethodName := ⟨RX11, "asks", "()I"⟩
abbrev cX11_saw : ByteArray := prog_1_method_35_code
def yX11_saw : MethodName := ⟨RX11, "saw", "(III)I"⟩
abbrev cX11_denies : ByteArray := prog_1_method_36_code
def yX11_denies : MethodName := ⟨RX11, "denies", "()I"⟩
abbrev cX11_laws : ByteArray := prog_1_method_37_code
def yX11_laws : MethodName := ⟨RX11, "laws", "()I"⟩
abbrev cX11_looks : ByteArray := prog_1_method_38_code
def yX11_looks : MethodName := ⟨RX11, "looks", "()I"⟩
abbrev cX11_reads : ByteArray := prog_1_method_39_code
def yX11_reads : MethodName := ⟨RX11, "reads", "(I)I"⟩
abbrev cX11_galley : ByteArray := prog_1_method_40_code
def yX11_galley : MethodName := ⟨RX11, "galley", "(I)I"⟩
abbrev cX11_rests : ByteArray := prog_1_method_41_code
def yX11_rests : MethodName := ⟨RX11, "rests", "(I)I"⟩
abbrev cX11_law : ByteArray := prog_1_method_42_code
def yX11_law : MethodName := ⟨RX11, "law", "()I"⟩
abbrev cX11_years : ByteArray := prog_1_method_43_code
def yX11_years : MethodName := ⟨RX11, "years", "(II)I"⟩
abbrev cX11_keep : ByteArray := prog_1_method_44_code
def yX11_keep : MethodName := ⟨RX11, "keep", "(I)Z"⟩
abbrev cX11_again : ByteArray := prog_1_method_45_code
def yX11_again : MethodName := ⟨RX11, "again", "(I)Z"⟩
abbrev cX11_count : ByteArray := prog_1_method_46_code
def yX11_count : MethodName := ⟨RX11, "count", "(I)I"⟩
abbrev cX11_row : ByteArray := prog_1_method_47_code
def yX11_row : MethodName := ⟨RX11, "row", "(I)J"⟩
abbrev cX11_isMood : ByteArray := prog_1_method_48_code
def yX11_isMood : MethodName := ⟨RX11, "isMood", "(I)Z"⟩
abbrev cX11_isBox : ByteArray := prog_1_method_49_code
def yX11_isBox : MethodName := ⟨RX11, "isBox", "(I)Z"⟩
abbrev cX11_putToMood : ByteArray := prog_1_method_50_code
def yX11_putToMood : MethodName := ⟨RX11, "putToMood", "(I)I"⟩
abbrev cX11_readLetters : ByteArray := prog_1_method_51_code
def yX11_readLetters : MethodName := ⟨RX11, "readLetters", "()I"⟩
abbrev cX11_undoable : ByteArray := prog_1_method_52_code
def yX11_undoable : MethodName := ⟨RX11, "undoable", "(I)I"⟩
abbrev cX11_faultOfLines : ByteArray := prog_1_method_53_code
def yX11_faultOfLines : MethodName := ⟨RX11, "faultOfLines", "()I"⟩
abbrev cX11_addLines : ByteArray := prog_1_method_54_code
def yX11_addLines : MethodName := ⟨RX11, "addLines", "()I"⟩
abbrev cX11_entryOf : ByteArray := prog_1_method_55_code
def yX11_entryOf : MethodName := ⟨RX11, "entryOf", "(II)I"⟩
abbrev cX11_faultOfWeek : ByteArray := prog_1_method_56_code
def yX11_faultOfWeek : MethodName := ⟨RX11, "faultOfWeek", "()I"⟩
abbrev cX11_behindAct : ByteArray := prog_1_method_57_code
def yX11_behindAct : MethodName := ⟨RX11, "behindAct", "(II)I"⟩
abbrev cX11_shapeOfAct : ByteArray := prog_1_method_58_code
def yX11_shapeOfAct : MethodName := ⟨RX11, "shapeOfAct", "(I)Ljava/lang/String;"⟩
abbrev cX11_doAct : ByteArray := prog_1_method_59_code
def yX11_doAct : MethodName := ⟨RX11, "doAct", "(II)I"⟩
abbrev cX11_setLetters : ByteArray := prog_1_method_60_code
def yX11_setLetters : MethodName := ⟨RX11, "setLetters", "(I)I"⟩
abbrev cX11_fewestToClean : ByteArray := prog_1_method_61_code
def yX11_fewestToClean : MethodName := ⟨RX11, "fewestToClean", "(III)I"⟩
abbrev cX11_calms : ByteArray := prog_1_method_62_code
def yX11_calms : MethodName := ⟨RX11, "calms", "(IIII)Z"⟩
abbrev cX11_commonDivisor : ByteArray := prog_1_method_63_code
def yX11_commonDivisor : MethodName := ⟨RX11, "commonDivisor", "(JJ)J"⟩
abbrev cX11_sells : ByteArray := prog_1_method_64_code
def yX11_sells : MethodName := ⟨RX11, "sells", "(III)I"⟩
abbrev cX11_isContent : ByteArray := prog_1_method_65_code
def yX11_isContent : MethodName := ⟨RX11, "isContent", "(III)Z"⟩
abbrev cX11_nextDraw : ByteArray := prog_1_method_66_code
def yX11_nextDraw : MethodName := ⟨RX11, "nextDraw", "(I)I"⟩
abbrev cX11_drawOf : ByteArray := prog_1_method_67_code
def yX11_drawOf : MethodName := ⟨RX11, "drawOf", "(II)I"⟩
def RX12 : String := "TypeAtNightModel"
def TX12 : u_T := fun k => match k with
  | 0 => ("TypeAtNightModel", "now", "[I", true)
  | 1 => ("TypeAtNightModel", "sorts", "I", false)
  | 2 => ("TypeAtNightModel", "letter", "[I", true)
  | 3 => ("TypeAtNightModel", "text", "[B", true)
  | 4 => ("TypeAtNightModel", "typed", "I", false)
  | 5 => ("TypeAtNightModel", "row", "[J", true)
  | 6 => ("TypeAtNightModel", "rowMany", "I", false)
  | 7 => ("TypeAtNightModel", "thrown", "I", false)
  | 8 => ("TypeAtNightModel", "read", "[B", false)
  | 9 => ("TypeAtNightModel", "length", "I", false)
  | 10 => ("TypeAtNightModel", "top", "I", false)
  | 11 => ("TypeAtNightModel", "at", "I", false)
  | 12 => ("TypeAtNightModel", "wrong", "I", false)
  | 13 => ("TypeAtNightModel", "aheadOf", "[I", true)
  | 14 => ("TypeAtNightModel", "rule", "[B", false)
  | 15 => ("TypeAtNightModel", "otherRule", "[B", false)
  | 16 => ("TypeAtNightModel", "ruleSize", "I", false)
  | 17 => ("TypeAtNightModel", "isAsked", "Z", false)
  | 18 => ("TypeAtNightModel", "asked", "[I", true)
  | 19 => ("TypeAtNightModel", "undos", "[I", true)
  | 20 => ("TypeAtNightModel", "undoMany", "I", false)
  | 21 => ("TypeAtNightModel", "aside", "[I", true)
  | 22 => ("TypeAtNightModel", "then", "[I", true)
  | 23 => ("TypeAtNightModel", "line", "[I", true)
  | 24 => ("TypeAtNightModel", "lineMany", "I", false)
  | 25 => ("TypeAtNightModel", "need", "[I", true)
  | 26 => ("TypeAtNightModel", "acts", "[I", true)
  | 27 => ("TypeAtNightModel", "letters", "[I", true)
  | 28 => ("TypeAtNightModel", "lettersMany", "I", false)
  | 29 => ("TypeAtNightModel", "worded", "[I", true)
  | 30 => ("TypeAtNightModel", "trail", "[I", true)
  | 31 => ("TypeAtNightModel", "foes", "[I", true)
  | 32 => ("TypeAtNightModel", "boxed", "[I", true)
  | 33 => ("TypeAtNightModel", "heardOf", "[I", true)
  | 34 => ("TypeAtNightModel", "heardBy", "[I", true)
  | 35 => ("TypeAtNightModel", "heardMany", "I", false)
  | 36 => ("TypeAtNightModel", "sawOf", "[I", true)
  | 37 => ("TypeAtNightModel", "sawBeside", "[I", true)
  | 38 => ("TypeAtNightModel", "sawAs", "[I", true)
  | 39 => ("TypeAtNightModel", "sawMany", "I", false)
  | 40 => ("TypeAtNightModel", "many", "[I", true)
  | 41 => ("TypeAtNightModel", "worth", "[I", true)
  | 42 => ("TypeAtNightModel", "drawn", "I", false)
  | 43 => ("TypeAtNightModel", "came", "I", false)
  | 44 => ("TypeAtNightModel", "kept", "[I", true)
  | 45 => ("TypeAtNightModel", "isKept", "[Z", true)
  | _ => ("TypeAtNightModel", "keptCame", "[I", true)
def tyX12 : Nat → FieldType := fun k => match k with
  | 0 => .array .int
  | 1 => .int
  | 2 => .array .int
  | 3 => .array .byte
  | 4 => .int
  | 5 => .array .long
  | 6 => .int
  | 7 => .int
  | 8 => .array .byte
  | 9 => .int
  | 10 => .int
  | 11 => .int
  | 12 => .int
  | 13 => .array .int
  | 14 => .array .byte
  | 15 => .array .byte
  | 16 => .int
  | 17 => .boolean
  | 18 => .array .int
  | 19 => .array .int
  | 20 => .int
  | 21 => .array .int
  | 22 => .array .int
  | 23 => .array .int
  | 24 => .int
  | 25 => .array .int
  | 26 => .array .int
  | 27 => .array .int
  | 28 => .int
  | 29 => .array .int
  | 30 => .array .int
  | 31 => .array .int
  | 32 => .array .int
  | 33 => .array .int
  | 34 => .array .int
  | 35 => .int
  | 36 => .array .int
  | 37 => .array .int
  | 38 => .array .int
  | 39 => .int
  | 40 => .array .int
  | 41 => .array .int
  | 42 => .int
  | 43 => .int
  | 44 => .array .int
  | 45 => .array .boolean
  | _ => .array .int
abbrev wsX120 : List Cond := u_ws RX12 TX12 47
theorem nmX12 : ∀ a, a < 47 → ∀ b, b < 47 → a ≠ b → (TX12 a).2.1 ≠ (TX12 b).2.1 := by decide +kernel
theorem tyX12_ok : ∀ k, k < 47 → parseFieldDescriptor (TX12 k).2.2.1 = some (tyX12 k) := by decide +kernel
abbrev cX12_init : ByteArray := prog_14_method_1_code
def yX12_init : MethodName := ⟨RX12, "<init>", "()V"⟩
abbrev cX12_thrown : ByteArray := prog_14_method_2_code
def yX12_thrown : MethodName := ⟨RX12, "thrown", "()I"⟩
abbrev cX12_in : ByteArray := prog_14_method_3_code
def yX12_in : MethodName := ⟨RX12, "in", "(III)Z"⟩
abbrev cX12_has : ByteArray := prog_14_method_4_code
def yX12_has : MethodName := ⟨RX12, "has", "(II)Z"⟩
abbrev cX12_put : ByteArray := prog_14_method_5_code
def yX12_put : MethodName := ⟨RX12, "put", "(I)I"⟩
abbrev cX12_lost : ByteArray := prog_14_method_6_code
def yX12_lost : MethodName := ⟨RX12, "lost", "()I"⟩
abbrev cX12_tell : ByteArray := prog_14_method_7_code
def yX12_tell : MethodName := ⟨RX12, "tell", "(J)V"⟩
abbrev cX12_isSort : ByteArray := prog_14_method_8_code
def yX12_isSort : MethodName := ⟨RX12, "isSort", "(I)Z"⟩
abbrev cX12_all : ByteArray := prog_14_method_9_code
def yX12_all : MethodName := ⟨RX12, "all", "()I"⟩
abbrev cX12_sign : ByteArray := prog_14_method_10_code
def yX12_sign : MethodName := ⟨RX12, "sign", "(I)I"⟩
abbrev cX12_end : ByteArray := prog_14_method_11_code
def yX12_end : MethodName := ⟨RX12, "end", "(I)Z"⟩
abbrev cX12_begin : ByteArray := prog_14_method_12_code
def yX12_begin : MethodName := ⟨RX12, "begin", "([BII)V"⟩
abbrev cX12_beginText : ByteArray := prog_14_method_13_code
def yX12_beginText : MethodName := ⟨RX12, "beginText", "(I)V"⟩
abbrev cX12_here : ByteArray := prog_14_method_14_code
def yX12_here : MethodName := ⟨RX12, "here", "()I"⟩
abbrev cX12_fine : ByteArray := prog_14_method_15_code
def yX12_fine : MethodName := ⟨RX12, "fine", "()Z"⟩
abbrev cX12_fault : ByteArray := prog_14_method_16_code
def yX12_fault : MethodName := ⟨RX12, "fault", "(I)V"⟩
abbrev cX12_passes : ByteArray := prog_14_method_17_code
def yX12_passes : MethodName := ⟨RX12, "passes", "(C)Z"⟩
abbrev cX12_need : ByteArray := prog_14_method_18_code
def yX12_need : MethodName := ⟨RX12, "need", "(C)V"⟩
abbrev cX12_oneOf : ByteArray := prog_14_method_19_code
def yX12_oneOf : MethodName := ⟨RX12, "oneOf", "(CI)I"⟩
abbrev cX12_number : ByteArray := prog_14_method_20_code
def yX12_number : MethodName := ⟨RX12, "number", "(I)I"⟩
abbrev cX12_wasRight : ByteArray := prog_14_method_21_code
def yX12_wasRight : MethodName := ⟨RX12, "wasRight", "()Z"⟩
abbrev cX12_signedOf : ByteArray := prog_14_method_22_code
def yX12_signedOf : MethodName := ⟨RX12, "signedOf", "()I"⟩
abbrev cX12_sorts : ByteArray := prog_14_method_23_code
def yX12_sorts : MethodName := ⟨RX12, "sorts", "()I"⟩
abbrev cX12_held : ByteArray := prog_14_method_24_code
def yX12_held : MethodName := ⟨RX12, "held", "(I)I"⟩
abbrev cX12_sum : ByteArray := prog_14_method_25_code
def yX12_sum : MethodName := ⟨RX12, "sum", "(I)I"⟩
abbrev cX12_product : ByteArray := prog_14_method_26_code
def yX12_product : MethodName := ⟨RX12, "product", "(I)I"⟩
abbrev cX12_letterOf : ByteArray := prog_14_method_27_code
def yX12_letterOf : MethodName := ⟨RX12, "letterOf", "(I)I"⟩
abbrev cX12_thing : ByteArray := prog_14_method_28_code
def yX12_thing : MethodName := ⟨RX12, "thing", "(I)I"⟩
abbrev cX12_readRule : ByteArray := prog_14_method_29_code
def yX12_readRule : MethodName := ⟨RX12, "readRule", "()Z"⟩
abbrev cX12_rule : ByteArray := prog_14_method_30_code
def yX12_rule : MethodName := ⟨RX12, "rule", "()I"⟩
abbrev cX12_turnOf : ByteArray := prog_14_method_31_code
def yX12_turnOf : MethodName := ⟨RX12, "turnOf", "([II)I"⟩
abbrev cX12_sort : ByteArray := prog_14_method_32_code
def yX12_sort : MethodName := ⟨RX12, "sort", "(II)I"⟩
abbrev cX12_inBox : ByteArray := prog_14_method_33_code
def yX12_inBox : MethodName := ⟨RX12, "inBox", "([II)I"⟩
abbrev cX12_moodsOf : ByteArray := prog_14_method_34_code
def yX12_moodsOf : MethodName := ⟨RX12, "moodsOf", "([II)I"⟩
abbrev cX12_box : ByteArray := prog_14_method_35_code
def yX12_box : MethodName := ⟨RX12, "box", "(II)I"⟩
abbrev cX12_wears : ByteArray := prog_14_method_36_code
def yX12_wears : MethodName := ⟨RX12, "wears", "()I"⟩
abbrev cX12_sheet : ByteArray := prog_14_method_37_code
def yX12_sheet : MethodName := ⟨RX12, "sheet", "(IIII)I"⟩
abbrev cX12_lay : ByteArray := prog_14_method_38_code
def yX12_lay : MethodName := ⟨RX12, "lay", "([I[II)V"⟩
abbrev cX12_remember : ByteArray := prog_14_method_39_code
def yX12_remember : MethodName := ⟨RX12, "remember", "([I)V"⟩
abbrev cX12_layNeed : ByteArray := prog_14_method_40_code
def yX12_layNeed : MethodName := ⟨RX12, "layNeed", "()V"⟩
abbrev cX12_readLine : ByteArray := prog_14_method_41_code
def yX12_readLine : MethodName := ⟨RX12, "readLine", "()Z"⟩
abbrev cX12_takes : ByteArray := prog_14_method_42_code
def yX12_takes : MethodName := ⟨RX12, "takes", "([II)I"⟩
abbrev cX12_goSet : ByteArray := prog_14_method_43_code
def yX12_goSet : MethodName := ⟨RX12, "goSet", "([II)I"⟩
abbrev cX12_wouldTake : ByteArray := prog_14_method_44_code
def yX12_wouldTake : MethodName := ⟨RX12, "wouldTake", "()I"⟩
abbrev cX12_sets : ByteArray := prog_14_method_45_code
def yX12_sets : MethodName := ⟨RX12, "sets", "(I)I"⟩
abbrev cX12_goNight : ByteArray := prog_14_method_46_code
def yX12_goNight : MethodName := ⟨RX12, "goNight", "([I)V"⟩
abbrev cX12_goNights : ByteArray := prog_14_method_47_code
def yX12_goNights : MethodName := ⟨RX12, "goNights", "([II)V"⟩
abbrev cX12_atHome : ByteArray := prog_14_method_48_code
def yX12_atHome : MethodName := ⟨RX12, "atHome", "([I)I"⟩
abbrev cX12_nights : ByteArray := prog_14_method_49_code
def yX12_nights : MethodName := ⟨RX12, "nights", "(I)I"⟩
abbrev cX12_refusesMove : ByteArray := prog_14_method_50_code
def yX12_refusesMove : MethodName := ⟨RX12, "refusesMove", "([III)I"⟩
abbrev cX12_moves : ByteArray := prog_14_method_51_code
def yX12_moves : MethodName := ⟨RX12, "moves", "(II)I"⟩
abbrev cX12_refusesClean : ByteArray := prog_14_method_52_code
def yX12_refusesClean : MethodName := ⟨RX12, "refusesClean", "(I)I"⟩
abbrev cX12_cleans : ByteArray := prog_14_method_53_code
def yX12_cleans : MethodName := ⟨RX12, "cleans", "(I)I"⟩
abbrev cX12_refusesCast : ByteArray := prog_14_method_54_code
def yX12_refusesCast : MethodName := ⟨RX12, "refusesCast", "(I)I"⟩
abbrev cX12_casts : ByteArray := prog_14_method_55_code
def yX12_casts : MethodName := ⟨RX12, "casts", "(I)I"⟩
abbrev cX12_week : ByteArray := prog_14_method_56_code
def yX12_week : MethodName := ⟨RX12, "week", "()I"⟩
abbrev cX12_readAct : ByteArray := prog_14_method_57_code
def yX12_readAct : MethodName := ⟨RX12, "readAct", "(I)V"⟩
abbrev cX12_act : ByteArray := prog_14_method_58_code
def yX12_act : MethodName := ⟨RX12, "act", "(I)Z"⟩
abbrev cX12_undo : ByteArray := prog_14_method_59_code
def yX12_undo : MethodName := ⟨RX12, "undo", "()I"⟩
abbrev cX12_tells : ByteArray := prog_14_method_60_code
def yX12_tells : MethodName := ⟨RX12, "tells", "()I"⟩
abbrev cX12_free : ByteArray := prog_14_method_61_code
def yX12_free : MethodName := ⟨RX12, "free", "(I)I"⟩
abbrev cX12_often : ByteArray := prog_14_method_62_code
def yX12_often : MethodName := ⟨RX12, "often", "()I"⟩
abbrev cX12_shortest : ByteArray := prog_14_method_63_code
def yX12_shortest : MethodName := ⟨RX12, "shortest", "()I"⟩
abbrev cX12_isText : ByteArray := prog_14_method_64_code
def yX12_isText : MethodName := ⟨RX12, "isText", "(I)Z"⟩
abbrev cX12_bears : ByteArray := prog_14_method_65_code
def yX12_bears : MethodName := ⟨RX12, "bears", "(I)I"⟩
abbrev cX12_spans : ByteArray := prog_14_method_66_code
def yX12_spans : MethodName := ⟨RX12, "spans", "()I"⟩
abbrev cX12_canSet : ByteArray := prog_14_method_67_code
def yX12_canSet : MethodName := ⟨RX12, "canSet", "(I)Z"⟩
abbrev cX12_packs : ByteArray := prog_14_method_68_code
def yX12_packs : MethodName := ⟨RX12, "packs", "()I"⟩
abbrev cX12_goThen : ByteArray := prog_14_method_69_code
def yX12_goThen : MethodName := ⟨RX12, "goThen", "(I)V"⟩
abbrev cX12_later : ByteArray := prog_14_method_70_code
def yX12_later : MethodName := ⟨RX12, "later", "(II)I"⟩
abbrev cX12_layTrail : ByteArray := prog_14_method_71_code
def yX12_layTrail : MethodName := ⟨RX12, "layTrail", "()V"⟩
abbrev cX12_areLike : ByteArray := prog_14_method_72_code
def yX12_areLike : MethodName := ⟨RX12, "areLike", "(IIII)Z"⟩
abbrev cX12_settles : ByteArray := prog_14_method_73_code
def yX12_settles : MethodName := ⟨RX12, "settles", "()I"⟩
abbrev cX12_round : ByteArray := prog_14_method_74_code
def yX12_round : MethodName := ⟨RX12, "round", "()I"⟩
abbrev cX12_gravest : ByteArray := prog_14_method_75_code
def yX12_gravest : MethodName := ⟨RX12, "gravest", "(I)I"⟩
abbrev cX12_isCalm : ByteArray := prog_14_method_76_code
def yX12_isCalm : MethodName := ⟨RX12, "isCalm", "(III)Z"⟩
abbrev cX12_blows : ByteArray := prog_14_method_77_code
def yX12_blows : MethodName := ⟨RX12, "blows", "(II)I"⟩
abbrev cX12_canBox : ByteArray := prog_14_method_78_code
def yX12_canBox : MethodName := ⟨RX12, "canBox", "(II)Z"⟩
abbrev cX12_parts : ByteArray := prog_14_method_79_code
def yX12_parts : MethodName := ⟨RX12, "parts", "()I"⟩
abbrev cX12_mixed : ByteArray := prog_14_method_80_code
def yX12_mixed : MethodName := ⟨RX12, "mixed", "()I"⟩
abbrev cX12_rubs : ByteArray := prog_14_method_81_code
def yX12_rubs : MethodName := ⟨RX12, "rubs", "()I"⟩
abbrev cX12_isChord : ByteArray := prog_14_method_82_code
def yX12_isChord : MethodName := ⟨RX12, "isChord", "(I)Z"⟩
abbrev cX12_chord : ByteArray := prog_14_method_83_code
def yX12_chord : MethodName := ⟨RX12, "chord", "(I)I"⟩
abbrev cX12_highOf : ByteArray := prog_14_method_84_code
def yX12_highOf : MethodName := ⟨RX12, "highOf", "(I)I"⟩
abbrev cX12_heard : ByteArray := prog_14_method_85_code
def yX12_heard : MethodName := ⟨RX12, "heard", "(II)I"⟩
abbrev cX12_forget : ByteArray := prog_14_method_86_code
def yX12_forget : MethodName := ⟨RX12, "forget", "()I"⟩
abbrev cX12_isSo : ByteArray := prog_14_method_87_code
def yX12_isSo : MethodName := ⟨RX12, "isSo", "(III)Z"⟩
abbrev cX12_fitting : ByteArray := prog_14_method_88_code
def yX12_fitting : MethodName := ⟨RX12, "fitting", "()I"⟩
abbrev cX12_fits : ByteArray := prog_14_method_89_code
def yX12_fits : MethodName := ⟨RX12, "fits", "()I"⟩
abbrev cX12_asks : ByteArray := prog_14_method_90_code
def yX12_asks : MethodName := ⟨RX12, "asks", "()I"⟩
abbrev cX12_isMood : ByteArray := prog_14_method_91_code
def yX12_isMood : MethodName := ⟨RX12, "isMood", "(I)Z"⟩
abbrev cX12_saw : ByteArray := prog_14_method_92_code
def yX12_saw : MethodName := ⟨RX12, "saw", "(III)I"⟩
abbrev cX12_denies : ByteArray := prog_14_method_93_code
def yX12_denies : MethodName := ⟨RX12, "denies", "()I"⟩
abbrev cX12_becomes : ByteArray := prog_14_method_94_code
def yX12_becomes : MethodName := ⟨RX12, "becomes", "(III)I"⟩
abbrev cX12_isLaw : ByteArray := prog_14_method_95_code
def yX12_isLaw : MethodName := ⟨RX12, "isLaw", "(I)Z"⟩
abbrev cX12_laws : ByteArray := prog_14_method_96_code
def yX12_laws : MethodName := ⟨RX12, "laws", "()I"⟩
abbrev cX12_looks : ByteArray := prog_14_method_97_code
def yX12_looks : MethodName := ⟨RX12, "looks", "()I"⟩
abbrev cX12_common : ByteArray := prog_14_method_98_code
def yX12_common : MethodName := ⟨RX12, "common", "(JJ)J"⟩
abbrev cX12_power : ByteArray := prog_14_method_99_code
def yX12_power : MethodName := ⟨RX12, "power", "(JI)J"⟩
abbrev cX12_reads : ByteArray := prog_14_method_100_code
def yX12_reads : MethodName := ⟨RX12, "reads", "(I)I"⟩
abbrev cX12_galley : ByteArray := prog_14_method_101_code
def yX12_galley : MethodName := ⟨RX12, "galley", "(I)I"⟩
abbrev cX12_gets : ByteArray := prog_14_method_102_code
def yX12_gets : MethodName := ⟨RX12, "gets", "(III)I"⟩
abbrev cX12_isBest : ByteArray := prog_14_method_103_code
def yX12_isBest : MethodName := ⟨RX12, "isBest", "(III)Z"⟩
abbrev cX12_rests : ByteArray := prog_14_method_104_code
def yX12_rests : MethodName := ⟨RX12, "rests", "(I)I"⟩
abbrev cX12_farBehind5 : ByteArray := prog_14_method_105_code
def yX12_farBehind5 : MethodName := ⟨RX12, "farBehind5", "()I"⟩
abbrev cX12_law : ByteArray := prog_14_method_106_code
def yX12_law : MethodName := ⟨RX12, "law", "()I"⟩
abbrev cX12_draw : ByteArray := prog_14_method_107_code
def yX12_draw : MethodName := ⟨RX12, "draw", "(I)I"⟩
abbrev cX12_years : ByteArray := prog_14_method_108_code
def yX12_years : MethodName := ⟨RX12, "years", "(II)I"⟩
abbrev cX12_keep : ByteArray := prog_14_method_109_code
def yX12_keep : MethodName := ⟨RX12, "keep", "(I)Z"⟩
abbrev cX12_again : ByteArray := prog_14_method_110_code
def yX12_again : MethodName := ⟨RX12, "again", "(I)Z"⟩
abbrev cX12_count : ByteArray := prog_14_method_111_code
def yX12_count : MethodName := ⟨RX12, "count", "(I)I"⟩
abbrev cX12_row : ByteArray := prog_14_method_112_code
def yX12_row : MethodName := ⟨RX12, "row", "(I)J"⟩
def RJx145de : String := "java/io/Serializable"
def TJx145de : u_T := fun k => match k with
  | _ => ("", "", "", false)
def tyJx145de : Nat → FieldType := fun k => match k with
  | _ => .int
abbrev wsJx145de0 : List Cond := u_ws RJx145de TJx145de 0
theorem nmJx145de : ∀ a, a < 0 → ∀ b, b < 0 → a ≠ b → (TJx145de a).2.1 ≠ (TJx145de b).2.1 := by decide +kernel
theorem tyJx145de_ok : ∀ k, k < 0 → parseFieldDescriptor (TJx145de k).2.2.1 = some (tyJx145de k) := by decide +kernel
def RJx9f9b0 : String := "java/lang/CharSequence"
def TJx9f9b0 : u_T := fun k => match k with
  | _ => ("", "", "", false)
def tyJx9f9b0 : Nat → FieldType := fun k => match k with
  | _ => .int
abbrev wsJx9f9b00 : List Cond := u_ws RJx9f9b0 TJx9f9b0 0
theorem nmJx9f9b0 : ∀ a, a < 0 → ∀ b, b < 0 → a ≠ b → (TJx9f9b0 a).2.1 ≠ (TJx9f9b0 b).2.1 := by decide +kernel
theorem tyJx9f9b0_ok : ∀ k, k < 0 → parseFieldDescriptor (TJx9f9b0 k).2.2.1 = some (tyJx9f9b0 k) := by decide +kernel
def RJ11 : String := "java/lang/Character"
def TJ11 : u_T := fun k => match k with
  | _ => ("", "", "", false)
def tyJ11 : Nat → FieldType := fun k => match k with
  | _ => .int
abbrev wsJ110 : List Cond := u_ws RJ11 TJ11 0
theorem nmJ11 : ∀ a, a < 0 → ∀ b, b < 0 → a ≠ b → (TJ11 a).2.1 ≠ (TJ11 b).2.1 := by decide +kernel
theorem tyJ11_ok : ∀ k, k < 0 → parseFieldDescriptor (TJ11 k).2.2.1 = some (tyJ11 k) := by decide +kernel
abbrev cJ11_isValidCodePoint_9a6ad : ByteArray := prog_17_method_11_code
def yJ11_isValidCodePoint_9a6ad : MethodName := ⟨RJ11, "isValidCodePoint", "(I)Z"⟩
abbrev cJ11_highSurrogate_5068e : ByteArray := prog_17_method_28_code
def yJ11_highSurrogate_5068e : MethodName := ⟨RJ11, "highSurrogate", "(I)C"⟩
abbrev cJ11_lowSurrogate_5068e : ByteArray := prog_17_method_29_code
def yJ11_lowSurrogate_5068e : MethodName := ⟨RJ11, "lowSurrogate", "(I)C"⟩
def RJxb160c : String := "java/lang/Comparable"
def TJxb160c : u_T := fun k => match k with
  | _ => ("", "", "", false)
def tyJxb160c : Nat → FieldType := fun k => match k with
  | _ => .int
abbrev wsJxb160c0 : List Cond := u_ws RJxb160c TJxb160c 0
theorem nmJxb160c : ∀ a, a < 0 → ∀ b, b < 0 → a ≠ b → (TJxb160c a).2.1 ≠ (TJxb160c b).2.1 := by decide +kernel
theorem tyJxb160c_ok : ∀ k, k < 0 → parseFieldDescriptor (TJxb160c k).2.2.1 = some (tyJxb160c k) := by decide +kernel
def RJ6 : String := "java/lang/Integer"
def TJ6 : u_T := fun k => match k with
  | _ => ("", "", "", false)
def tyJ6 : Nat → FieldType := fun k => match k with
  | _ => .int
abbrev wsJ60 : List Cond := u_ws RJ6 TJ6 0
theorem nmJ6 : ∀ a, a < 0 → ∀ b, b < 0 → a ≠ b → (TJ6 a).2.1 ≠ (TJ6 b).2.1 := by decide +kernel
theorem tyJ6_ok : ∀ k, k < 0 → parseFieldDescriptor (TJ6 k).2.2.1 = some (tyJ6 k) := by decide +kernel
abbrev cJ6_numberOfTrailingZeros_0f7a4 : ByteArray := prog_20_method_48_code
def yJ6_numberOfTrailingZeros_0f7a4 : MethodName := ⟨RJ6, "numberOfTrailingZeros", "(I)I"⟩
abbrev cJ6_bitCount_0f7a4 : ByteArray := prog_20_method_49_code
def yJ6_bitCount_0f7a4 : MethodName := ⟨RJ6, "bitCount", "(I)I"⟩
def RJ13 : String := "java/lang/Long"
def TJ13 : u_T := fun k => match k with
  | _ => ("", "", "", false)
def tyJ13 : Nat → FieldType := fun k => match k with
  | _ => .int
abbrev wsJ130 : List Cond := u_ws RJ13 TJ13 0
theorem nmJ13 : ∀ a, a < 0 → ∀ b, b < 0 → a ≠ b → (TJ13 a).2.1 ≠ (TJ13 b).2.1 := by decide +kernel
theorem tyJ13_ok : ∀ k, k < 0 → parseFieldDescriptor (TJ13 k).2.2.1 = some (tyJ13 k) := by decide +kernel
abbrev cJ13_numberOfTrailingZeros_95d88 : ByteArray := prog_21_method_49_code
def yJ13_numberOfTrailingZeros_95d88 : MethodName := ⟨RJ13, "numberOfTrailingZeros", "(J)I"⟩
def RJ9 : String := "java/lang/Math"
def TJ9 : u_T := fun k => match k with
  | _ => ("", "", "", false)
def tyJ9 : Nat → FieldType := fun k => match k with
  | _ => .int
abbrev wsJ90 : List Cond := u_ws RJ9 TJ9 0
theorem nmJ9 : ∀ a, a < 0 → ∀ b, b < 0 → a ≠ b → (TJ9 a).2.1 ≠ (TJ9 b).2.1 := by decide +kernel
theorem tyJ9_ok : ∀ k, k < 0 → parseFieldDescriptor (TJ9 k).2.2.1 = some (tyJ9 k) := by decide +kernel
abbrev cJ9_abs_0f7a4 : ByteArray := prog_22_method_59_code
def yJ9_abs_0f7a4 : MethodName := ⟨RJ9, "abs", "(I)I"⟩
abbrev cJ9_max_7cf53 : ByteArray := prog_22_method_65_code
def yJ9_max_7cf53 : MethodName := ⟨RJ9, "max", "(II)I"⟩
abbrev cJ9_min_7cf53 : ByteArray := prog_22_method_69_code
def yJ9_min_7cf53 : MethodName := ⟨RJ9, "min", "(II)I"⟩
def RJxd2413 : String := "java/lang/Number"
def TJxd2413 : u_T := fun k => match k with
  | _ => ("", "", "", false)
def tyJxd2413 : Nat → FieldType := fun k => match k with
  | _ => .int
abbrev wsJxd24130 : List Cond := u_ws RJxd2413 TJxd2413 0
theorem nmJxd2413 : ∀ a, a < 0 → ∀ b, b < 0 → a ≠ b → (TJxd2413 a).2.1 ≠ (TJxd2413 b).2.1 := by decide +kernel
theorem tyJxd2413_ok : ∀ k, k < 0 → parseFieldDescriptor (TJxd2413 k).2.2.1 = some (tyJxd2413 k) := by decide +kernel
def RJ0 : String := "java/lang/String"
def TJ0 : u_T := fun k => match k with
  | _ => ("", "", "", false)
def tyJ0 : Nat → FieldType := fun k => match k with
  | _ => .int
abbrev wsJ00 : List Cond := u_ws RJ0 TJ0 0
theorem nmJ0 : ∀ a, a < 0 → ∀ b, b < 0 → a ≠ b → (TJ0 a).2.1 ≠ (TJ0 b).2.1 := by decide +kernel
theorem tyJ0_ok : ∀ k, k < 0 → parseFieldDescriptor (TJ0 k).2.2.1 = some (tyJ0 k) := by decide +kernel
abbrev cJ0_length_8abf5 : ByteArray := prog_25_method_54_code
def yJ0_length_8abf5 : MethodName := ⟨RJ0, "length", "()I"⟩
abbrev cJ0_isEmpty_aae02 : ByteArray := prog_25_method_55_code
def yJ0_isEmpty_aae02 : MethodName := ⟨RJ0, "isEmpty", "()Z"⟩
abbrev cJ0_charAt_5068e : ByteArray := prog_25_method_56_code
def yJ0_charAt_5068e : MethodName := ⟨RJ0, "charAt", "(I)C"⟩
abbrev cJ0_indexOf_0f7a4 : ByteArray := prog_25_method_79_code
def yJ0_indexOf_0f7a4 : MethodName := ⟨RJ0, "indexOf", "(I)I"⟩
abbrev cJ0_indexOf_7cf53 : ByteArray := prog_25_method_80_code
def yJ0_indexOf_7cf53 : MethodName := ⟨RJ0, "indexOf", "(II)I"⟩
abbrev cJ0_coder_7d493 : ByteArray := prog_25_method_152_code
def yJ0_coder_7d493 : MethodName := ⟨RJ0, "coder", "()B"⟩
abbrev cJ0_isLatin1_aae02 : ByteArray := prog_25_method_154_code
def yJ0_isLatin1_aae02 : MethodName := ⟨RJ0, "isLatin1", "()Z"⟩
abbrev cJ0_checkIndex_df160 : ByteArray := prog_25_method_155_code
def yJ0_checkIndex_df160 : MethodName := ⟨RJ0, "checkIndex", "(II)V"⟩
abbrev cJ0_checkBoundsBeginEnd_23922 : ByteArray := prog_25_method_158_code
def yJ0_checkBoundsBeginEnd_23922 : MethodName := ⟨RJ0, "checkBoundsBeginEnd", "(III)V"⟩
def RJ1 : String := "java/lang/StringLatin1"
def TJ1 : u_T := fun k => match k with
  | _ => ("", "", "", false)
def tyJ1 : Nat → FieldType := fun k => match k with
  | _ => .int
abbrev wsJ10 : List Cond := u_ws RJ1 TJ1 0
theorem nmJ1 : ∀ a, a < 0 → ∀ b, b < 0 → a ≠ b → (TJ1 a).2.1 ≠ (TJ1 b).2.1 := by decide +kernel
theorem tyJ1_ok : ∀ k, k < 0 → parseFieldDescriptor (TJ1 k).2.2.1 = some (tyJ1 k) := by decide +kernel
abbrev cJ1_charAt_3b067 : ByteArray := prog_26_method_2_code
def yJ1_charAt_3b067 : MethodName := ⟨RJ1, "charAt", "([BI)C"⟩
abbrev cJ1_canEncode_9a6ad : ByteArray := prog_26_method_4_code
def yJ1_canEncode_9a6ad : MethodName := ⟨RJ1, "canEncode", "(I)Z"⟩
abbrev cJ1_indexOf_4cfef : ByteArray := prog_26_method_22_code
def yJ1_indexOf_4cfef : MethodName := ⟨RJ1, "indexOf", "([BIII)I"⟩
abbrev cJ1_indexOfChar_4cfef : ByteArray := prog_26_method_23_code
def yJ1_indexOfChar_4cfef : MethodName := ⟨RJ1, "indexOfChar", "([BIII)I"⟩
def RJ2 : String := "java/lang/StringUTF16"
def TJ2 : u_T := fun k => match k with
  | _ => ("", "", "", false)
def tyJ2 : Nat → FieldType := fun k => match k with
  | _ => .int
abbrev wsJ20 : List Cond := u_ws RJ2 TJ2 0
theorem nmJ2 : ∀ a, a < 0 → ∀ b, b < 0 → a ≠ b → (TJ2 a).2.1 ≠ (TJ2 b).2.1 := by decide +kernel
theorem tyJ2_ok : ∀ k, k < 0 → parseFieldDescriptor (TJ2 k).2.2.1 = some (tyJ2 k) := by decide +kernel
abbrev cJ2_getChar_3b067 : ByteArray := prog_27_method_5_code
def yJ2_getChar_3b067 : MethodName := ⟨RJ2, "getChar", "([BI)C"⟩
abbrev cJ2_length_9d52b : ByteArray := prog_27_method_6_code
def yJ2_length_9d52b : MethodName := ⟨RJ2, "length", "([B)I"⟩
abbrev cJ2_indexOf_4cfef : ByteArray := prog_27_method_40_code
def yJ2_indexOf_4cfef : MethodName := ⟨RJ2, "indexOf", "([BIII)I"⟩
abbrev cJ2_indexOfChar_4cfef : ByteArray := prog_27_method_47_code
def yJ2_indexOfChar_4cfef : MethodName := ⟨RJ2, "indexOfChar", "([BIII)I"⟩
abbrev cJ2_indexOfCharUnsafe_4cfef : ByteArray := prog_27_method_48_code
def yJ2_indexOfCharUnsafe_4cfef : MethodName := ⟨RJ2, "indexOfCharUnsafe", "([BIII)I"⟩
abbrev cJ2_indexOfSupplementary_4cfef : ByteArray := prog_27_method_49_code
def yJ2_indexOfSupplementary_4cfef : MethodName := ⟨RJ2, "indexOfSupplementary", "([BIII)I"⟩
abbrev cJ2_charAt_3b067 : ByteArray := prog_27_method_83_code
def yJ2_charAt_3b067 : MethodName := ⟨RJ2, "charAt", "([BI)C"⟩
abbrev cJ2_checkIndex_2214a : ByteArray := prog_27_method_91_code
def yJ2_checkIndex_2214a : MethodName := ⟨RJ2, "checkIndex", "(I[B)V"⟩
abbrev cJ2_checkBoundsBeginEnd_d044e : ByteArray := prog_27_method_93_code
def yJ2_checkBoundsBeginEnd_d044e : MethodName := ⟨RJ2, "checkBoundsBeginEnd", "(II[B)V"⟩
def RJ10 : String := "java/lang/System"
def TJ10 : u_T := fun k => match k with
  | _ => ("", "", "", false)
def tyJ10 : Nat → FieldType := fun k => match k with
  | _ => .int
abbrev wsJ100 : List Cond := u_ws RJ10 TJ10 0
theorem nmJ10 : ∀ a, a < 0 → ∀ b, b < 0 → a ≠ b → (TJ10 a).2.1 ≠ (TJ10 b).2.1 := by decide +kernel
theorem tyJ10_ok : ∀ k, k < 0 → parseFieldDescriptor (TJ10 k).2.2.1 = some (tyJ10 k) := by decide +kernel
def RJxfd54e : String := "java/lang/constant/Constable"
def TJxfd54e : u_T := fun k => match k with
  | _ => ("", "", "", false)
def tyJxfd54e : Nat → FieldType := fun k => match k with
  | _ => .int
abbrev wsJxfd54e0 : List Cond := u_ws RJxfd54e TJxfd54e 0
theorem nmJxfd54e : ∀ a, a < 0 → ∀ b, b < 0 → a ≠ b → (TJxfd54e a).2.1 ≠ (TJxfd54e b).2.1 := by decide +kernel
theorem tyJxfd54e_ok : ∀ k, k < 0 → parseFieldDescriptor (TJxfd54e k).2.2.1 = some (tyJxfd54e k) := by decide +kernel
def RJx3cf43 : String := "java/lang/constant/ConstantDesc"
def TJx3cf43 : u_T := fun k => match k with
  | _ => ("", "", "", false)
def tyJx3cf43 : Nat → FieldType := fun k => match k with
  | _ => .int
abbrev wsJx3cf430 : List Cond := u_ws RJx3cf43 TJx3cf43 0
theorem nmJx3cf43 : ∀ a, a < 0 → ∀ b, b < 0 → a ≠ b → (TJx3cf43 a).2.1 ≠ (TJx3cf43 b).2.1 := by decide +kernel
theorem tyJx3cf43_ok : ∀ k, k < 0 → parseFieldDescriptor (TJx3cf43 k).2.2.1 = some (tyJx3cf43 k) := by decide +kernel
def RJ7 : String := "java/util/Arrays"
def TJ7 : u_T := fun k => match k with
  | _ => ("", "", "", false)
def tyJ7 : Nat → FieldType := fun k => match k with
  | _ => .int
abbrev wsJ70 : List Cond := u_ws RJ7 TJ7 0
theorem nmJ7 : ∀ a, a < 0 → ∀ b, b < 0 → a ≠ b → (TJ7 a).2.1 ≠ (TJ7 b).2.1 := by decide +kernel
theorem tyJ7_ok : ∀ k, k < 0 → parseFieldDescriptor (TJ7 k).2.2.1 = some (tyJ7 k) := by decide +kernel
abbrev cJ7_fill_53178 : ByteArray := prog_32_method_103_code
def yJ7_fill_53178 : MethodName := ⟨RJ7, "fill", "([II)V"⟩
def RJ3 : String := "jdk/internal/util/Preconditions"
def TJ3 : u_T := fun k => match k with
  | _ => ("", "", "", false)
def tyJ3 : Nat → FieldType := fun k => match k with
  | _ => .int
abbrev wsJ30 : List Cond := u_ws RJ3 TJ3 0
theorem nmJ3 : ∀ a, a < 0 → ∀ b, b < 0 → a ≠ b → (TJ3 a).2.1 ≠ (TJ3 b).2.1 := by decide +kernel
theorem tyJ3_ok : ∀ k, k < 0 → parseFieldDescriptor (TJ3 k).2.2.1 = some (tyJ3 k) := by decide +kernel
abbrev cJ3_checkIndex_8e157 : ByteArray := prog_34_method_11_code
def yJ3_checkIndex_8e157 : MethodName := ⟨RJ3, "checkIndex", "(IILjava/util/function/BiFunction;)I"⟩
abbrev cJ3_checkFromToIndex_8c36e : ByteArray := prog_34_method_12_code
def yJ3_checkFromToIndex_8c36e : MethodName := ⟨RJ3, "checkFromToIndex", "(IIILjava/util/function/BiFunction;)I"⟩
def RL : String := "TypeAtNightLaw"
abbrev cL_sort : ByteArray := method_3_code
def yL_sort : MethodName := ⟨RL, "sort", "(LTypeAtNight;II[J)I"⟩
abbrev cL_box : ByteArray := method_4_code
def yL_box : MethodName := ⟨RL, "box", "(LTypeAtNight;II[J)I"⟩
abbrev cL_row : ByteArray := method_5_code
def yL_row : MethodName := ⟨RL, "row", "(LTypeAtNight;I[J)I"⟩
abbrev cL_law : ByteArray := code
def yL_law : MethodName := ⟨RL, "law", "([I)Z"⟩
abbrev vwCl : List vw_C := [(RX0, TX0, 2), (RX1, TX1, 2), (RX2, TX2, 2), (RX3, TX3, 4), (RX4, TX4, 5), (RX5, TX5, 2), (RX6, TX6, 5), (RX7, TX7, 7), (RX8, TX8, 2), (RX9, TX9, 9), (RX10, TX10, 3), (RX11, TX11, 16), (RX12, TX12, 47)]
end
section
/-- TypeAtNightLaw.law([I)Z -/
def k_0 : List (Nat × tm_N) := [(0, (.new 8, 11, 0)), (3, (.dup, 0, 0)), (4, (.invokespecial 22, 109, 0)), (7, (.astore_n 1, 0, 0)), (8, (.new 23, 12, 0)), (11, (.dup, 0, 0)), (12, (.invokespecial 25, 176, 0)), (15, (.astore_n 2, 0, 0)), (16, (.iconst 1, 0, 0)), (17, (.newarray .long, 0, 0)), (19, (.astore_n 3, 0, 0)), (20, (.iconst 0, 0, 0)), (21, (.istore 4, 0, 0)), (23, (.iload 4, 0, 0)), (25, (.aload_n 0, 0, 0)), (26, (.arraylength, 0, 0)), (27, (.iconst 5, 0, 0)), (28, (.isub, 0, 0)), (29, (.if_icmp .gt 1347, 1376, 0)), (32, (.aload_n 0, 0, 0)), (33, (.iload 4, 0, 0)), (35, (.iaload, 0, 0)), (36, (.bipush 63, 0, 0)), (38, (.iand, 0, 0)), (39, (.tableswitch 1331 0 45 #[197, 222, 247, 260, 273, 341, 409, 470, 495, 520, 557, 582, 607, 620, 633, 646, 659, 672, 697, 710, 723, 760, 773, 786, 811, 848, 861, 874, 887, 912, 949, 962, 975, 988, 1037, 1050, 1063, 1076, 1101, 1126, 1151, 1164, 1201, 1226, 1251, 1276], 0, 0)), (236, (.aload_n 1, 0, 0)), (237, (.aload_n 0, 0, 0)), (238, (.iload 4, 0, 0)), (240, (.iconst 1, 0, 0)), (241, (.iadd, 0, 0)), (242, (.iaload, 0, 0)), (243, (.invokevirtual 26, 110, 1)), (246, (.aload_n 2, 0, 0)), (247, (.aload_n 0, 0, 0)), (248, (.iload 4, 0, 0)), (250, (.iconst 1, 0, 0)), (251, (.iadd, 0, 0)), (252, (.iaload, 0, 0)), (253, (.invokevirtual 30, 185, 1)), (256, (.if_icmp .eq 1114, 1370, 0)), (259, (.iconst 0, 0, 0)), (260, (.ireturn, 1, 0)), (261, (.aload_n 1, 0, 0)), (262, (.aload_n 0, 0, 0)), (263, (.iload 4, 0, 0)), (265, (.iconst 1, 0, 0)), (266, (.iadd, 0, 0)), (267, (.iaload, 0, 0)), (268, (.invokevirtual 31, 111, 1)), (271, (.aload_n 2, 0, 0)), (272, (.aload_n 0, 0, 0)), (273, (.iload 4, 0, 0)), (275, (.iconst 1, 0, 0)), (276, (.iadd, 0, 0)), (277, (.iaload, 0, 0)), (278, (.invokevirtual 35, 186, 1)), (281, (.if_icmp .eq 1089, 1370, 0)), (284, (.iconst 0, 0, 0)), (285, (.ireturn, 1, 0)), (286, (.aload_n 1, 0, 0)), (287, (.invokevirtual 36, 112, 0)), (290, (.aload_n 2, 0, 0)), (291, (.invokevirtual 40, 198, 0)), (294, (.if_icmp .eq 1076, 1370, 0)), (297, (.iconst 0, 0, 0)), (298, (.ireturn, 1, 0)), (299, (.aload_n 1, 0, 0)), (300, (.invokevirtual 41, 113, 0)), (303, (.aload_n 2, 0, 0)), (304, (.invokevirtual 44, 205, 0)), (307, (.if_icmp .eq 1063, 1370, 0)), (310, (.iconst 0, 0, 0)), (311, (.ireturn, 1, 0)), (312, (.aload_n 1, 0, 0)), (313, (.aload_n 0, 0, 0)), (314, (.iload 4, 0, 0)), (316, (.iconst 1, 0, 0)), (317, (.iadd, 0, 0)), (318, (.iaload, 0, 0)), (319, (.aload_n 0, 0, 0)), (320, (.iload 4, 0, 0)), (322, (.iconst 2, 0, 0)), (323, (.iadd, 0, 0)), (324, (.iaload, 0, 0)), (325, (.aload_n 3, 0, 0)), (326, (.invokestatic 45, 1004, 4)), (329, (.istore 5, 0, 0)), (331, (.aload_n 2, 0, 0)), (332, (.aload_n 0, 0, 0)), (333, (.iload 4, 0, 0)), (335, (.iconst 1, 0, 0)), (336, (.iadd, 0, 0)), (337, (.iaload, 0, 0)), (338, (.aload_n 0, 0, 0)), (339, (.iload 4, 0, 0)), (341, (.iconst 2, 0, 0)), (342, (.iadd, 0, 0)), (343, (.iaload, 0, 0)), (344, (.invokevirtual 50, 207, 2)), (347, (.istore 6, 0, 0)), (349, (.aload_n 2, 0, 0)), (350, (.invokevirtual 51, 177, 0)), (353, (.iload 5, 0, 0)), (355, (.if_icmp .eq 5, 360, 0)), (358, (.iconst 0, 0, 0)), (359, (.ireturn, 1, 0)), (360, (.iload 5, 0, 0)), (362, (.ifCond .ne 15, 377, 0)), (365, (.aload_n 3, 0, 0)), (366, (.iconst 0, 0, 0)), (367, (.laload, 0, 0)), (368, (.iload 6, 0, 0)), (370, (.i2l, 0, 0)), (371, (.lcmp, 0, 0)), (372, (.ifCond .eq 5, 377, 0)), (375, (.iconst 0, 0, 0)), (376, (.ireturn, 1, 0)), (377, (.goto 993, 1370, 0)), (380, (.aload_n 1, 0, 0)), (381, (.aload_n 0, 0, 0)), (382, (.iload 4, 0, 0)), (384, (.iconst 1, 0, 0)), (385, (.iadd, 0, 0)), (386, (.iaload, 0, 0)), (387, (.aload_n 0, 0, 0)), (388, (.iload 4, 0, 0)), (390, (.iconst 2, 0, 0)), (391, (.iadd, 0, 0)), (392, (.iaload, 0, 0)), (393, (.aload_n 3, 0, 0)), (394, (.invokestatic 54, 1005, 4)), (397, (.istore 5, 0, 0)), (399, (.aload_n 2, 0, 0)), (400, (.aload_n 0, 0, 0)), (401, (.iload 4, 0, 0)), (403, (.iconst 1, 0, 0)), (404, (.iadd, 0, 0)), (405, (.iaload, 0, 0)), (406, (.aload_n 0, 0, 0)), (407, (.iload 4, 0, 0)), (409, (.iconst 2, 0, 0)), (410, (.iadd, 0, 0)), (411, (.iaload, 0, 0)), (412, (.invokevirtual 56, 210, 2)), (415, (.istore 6, 0, 0)), (417, (.aload_n 2, 0, 0)), (418, (.invokevirtual 51, 177, 0)), (421, (.iload 5, 0, 0)), (423, (.if_icmp .eq 5, 428, 0)), (426, (.iconst 0, 0, 0)), (427, (.ireturn, 1, 0)), (428, (.iload 5, 0, 0)), (430, (.ifCond .ne 15, 445, 0)), (433, (.aload_n 3, 0, 0)), (434, (.iconst 0, 0, 0)), (435, (.laload, 0, 0)), (436, (.iload 6, 0, 0)), (438, (.i2l, 0, 0)), (439, (.lcmp, 0, 0)), (440, (.ifCond .eq 5, 445, 0)), (443, (.iconst 0, 0, 0)), (444, (.ireturn, 1, 0)), (445, (.goto 925, 1370, 0)), (448, (.aload_n 1, 0, 0)), (449, (.aload_n 0, 0, 0)), (450, (.iload 4, 0, 0)), (452, (.iconst 1, 0, 0)), (453, (.iadd, 0, 0)), (454, (.iaload, 0, 0)), (455, (.aload_n 0, 0, 0)), (456, (.iload 4, 0, 0)), (458, (.iconst 2, 0, 0)), (459, (.iadd, 0, 0)), (460, (.iaload, 0, 0)), (461, (.aload_n 0, 0, 0)), (462, (.iload 4, 0, 0)), (464, (.iconst 3, 0, 0)), (465, (.iadd, 0, 0)), (466, (.iaload, 0, 0)), (467, (.aload_n 0, 0, 0)), (468, (.iload 4, 0, 0)), (470, (.iconst 4, 0, 0)), (471, (.iadd, 0, 0)), (472, (.iaload, 0, 0)), (473, (.invokevirtual 57, 116, 4)), (476, (.aload_n 2, 0, 0)), (477, (.aload_n 0, 0, 0)), (478, (.iload 4, 0, 0)), (480, (.iconst 1, 0, 0)), (481, (.iadd, 0, 0)), (482, (.iaload, 0, 0)), (483, (.aload_n 0, 0, 0)), (484, (.iload 4, 0, 0)), (486, (.iconst 2, 0, 0)), (487, (.iadd, 0, 0)), (488, (.iaload, 0, 0)), (489, (.aload_n 0, 0, 0)), (490, (.iload 4, 0, 0)), (492, (.iconst 3, 0, 0)), (493, (.iadd, 0, 0)), (494, (.iaload, 0, 0)), (495, (.aload_n 0, 0, 0)), (496, (.iload 4, 0, 0)), (498, (.iconst 4, 0, 0)), (499, (.iadd, 0, 0)), (500, (.iaload, 0, 0)), (501, (.invokevirtual 61, 212, 4)), (504, (.if_icmp .eq 866, 1370, 0)), (507, (.iconst 0, 0, 0)), (508, (.ireturn, 1, 0)), (509, (.aload_n 1, 0, 0)), (510, (.aload_n 0, 0, 0)), (511, (.iload 4, 0, 0)), (513, (.iconst 1, 0, 0)), (514, (.iadd, 0, 0)), (515, (.iaload, 0, 0)), (516, (.invokevirtual 62, 117, 1)), (519, (.aload_n 2, 0, 0)), (520, (.aload_n 0, 0, 0)), (521, (.iload 4, 0, 0)), (523, (.iconst 1, 0, 0)), (524, (.iadd, 0, 0)), (525, (.iaload, 0, 0)), (526, (.invokevirtual 65, 220, 1)), (529, (.if_icmp .eq 841, 1370, 0)), (532, (.iconst 0, 0, 0)), (533, (.ireturn, 1, 0)), (534, (.aload_n 1, 0, 0)), (535, (.aload_n 0, 0, 0)), (536, (.iload 4, 0, 0)), (538, (.iconst 1, 0, 0)), (539, (.iadd, 0, 0)), (540, (.iaload, 0, 0)), (541, (.invokevirtual 66, 118, 1)), (544, (.aload_n 2, 0, 0)), (545, (.aload_n 0, 0, 0)), (546, (.iload 4, 0, 0)), (548, (.iconst 1, 0, 0)), (549, (.iadd, 0, 0)), (550, (.iaload, 0, 0)), (551, (.invokevirtual 69, 224, 1)), (554, (.if_icmp .eq 816, 1370, 0)), (557, (.iconst 0, 0, 0)), (558, (.ireturn, 1, 0)), (559, (.aload_n 1, 0, 0)), (560, (.aload_n 0, 0, 0)), (561, (.iload 4, 0, 0)), (563, (.iconst 1, 0, 0)), (564, (.iadd, 0, 0)), (565, (.iaload, 0, 0)), (566, (.aload_n 0, 0, 0)), (567, (.iload 4, 0, 0)), (569, (.iconst 2, 0, 0)), (570, (.iadd, 0, 0)), (571, (.iaload, 0, 0)), (572, (.invokevirtual 70, 119, 2)), (575, (.aload_n 2, 0, 0)), (576, (.aload_n 0, 0, 0)), (577, (.iload 4, 0, 0)), (579, (.iconst 1, 0, 0)), (580, (.iadd, 0, 0)), (581, (.iaload, 0, 0)), (582, (.aload_n 0, 0, 0)), (583, (.iload 4, 0, 0)), (585, (.iconst 2, 0, 0)), (586, (.iadd, 0, 0)), (587, (.iaload, 0, 0)), (588, (.invokevirtual 73, 226, 2)), (591, (.if_icmp .eq 779, 1370, 0)), (594, (.iconst 0, 0, 0)), (595, (.ireturn, 1, 0)), (596, (.aload_n 1, 0, 0)), (597, (.aload_n 0, 0, 0)), (598, (.iload 4, 0, 0)), (600, (.iconst 1, 0, 0)), (601, (.iadd, 0, 0)), (602, (.iaload, 0, 0)), (603, (.invokevirtual 74, 120, 1)), (606, (.aload_n 2, 0, 0)), (607, (.aload_n 0, 0, 0)), (608, (.iload 4, 0, 0)), (610, (.iconst 1, 0, 0)), (611, (.iadd, 0, 0)), (612, (.iaload, 0, 0)), (613, (.invokevirtual 77, 228, 1)), (616, (.if_icmp .eq 754, 1370, 0)), (619, (.iconst 0, 0, 0)), (620, (.ireturn, 1, 0)), (621, (.aload_n 1, 0, 0)), (622, (.aload_n 0, 0, 0)), (623, (.iload 4, 0, 0)), (625, (.iconst 1, 0, 0)), (626, (.iadd, 0, 0)), (627, (.iaload, 0, 0)), (628, (.invokevirtual 78, 121, 1)), (631, (.aload_n 2, 0, 0)), (632, (.aload_n 0, 0, 0)), (633, (.iload 4, 0, 0)), (635, (.iconst 1, 0, 0)), (636, (.iadd, 0, 0)), (637, (.iaload, 0, 0)), (638, (.invokevirtual 81, 230, 1)), (641, (.if_icmp .eq 729, 1370, 0)), (644, (.iconst 0, 0, 0)), (645, (.ireturn, 1, 0)), (646, (.aload_n 1, 0, 0)), (647, (.invokevirtual 82, 122, 0)), (650, (.aload_n 2, 0, 0)), (651, (.invokevirtual 85, 231, 0)), (654, (.if_icmp .eq 716, 1370, 0)), (657, (.iconst 0, 0, 0)), (658, (.ireturn, 1, 0)), (659, (.aload_n 1, 0, 0)), (660, (.invokevirtual 86, 123, 0)), (663, (.aload_n 2, 0, 0)), (664, (.invokevirtual 89, 234, 0)), (667, (.if_icmp .eq 703, 1370, 0)), (670, (.iconst 0, 0, 0)), (671, (.ireturn, 1, 0)), (672, (.aload_n 1, 0, 0)), (673, (.invokevirtual 90, 124, 0)), (676, (.aload_n 2, 0, 0)), (677, (.invokevirtual 93, 235, 0)), (680, (.if_icmp .eq 690, 1370, 0)), (683, (.iconst 0, 0, 0)), (684, (.ireturn, 1, 0)), (685, (.aload_n 1, 0, 0)), (686, (.invokevirtual 94, 125, 0)), (689, (.aload_n 2, 0, 0)), (690, (.invokevirtual 97, 237, 0)), (693, (.if_icmp .eq 677, 1370, 0)), (696, (.iconst 0, 0, 0)), (697, (.ireturn, 1, 0)), (698, (.aload_n 1, 0, 0)), (699, (.invokevirtual 98, 126, 0)), (702, (.aload_n 2, 0, 0)), (703, (.invokevirtual 101, 238, 0)), (706, (.if_icmp .eq 664, 1370, 0)), (709, (.iconst 0, 0, 0)), (710, (.ireturn, 1, 0)), (711, (.aload_n 1, 0, 0)), (712, (.aload_n 0, 0, 0)), (713, (.iload 4, 0, 0)), (715, (.iconst 1, 0, 0)), (716, (.iadd, 0, 0)), (717, (.iaload, 0, 0)), (718, (.invokevirtual 102, 127, 1)), (721, (.aload_n 2, 0, 0)), (722, (.aload_n 0, 0, 0)), (723, (.iload 4, 0, 0)), (725, (.iconst 1, 0, 0)), (726, (.iadd, 0, 0)), (727, (.iaload, 0, 0)), (728, (.invokevirtual 105, 240, 1)), (731, (.if_icmp .eq 639, 1370, 0)), (734, (.iconst 0, 0, 0)), (735, (.ireturn, 1, 0)), (736, (.aload_n 1, 0, 0)), (737, (.invokevirtual 106, 128, 0)), (740, (.aload_n 2, 0, 0)), (741, (.invokevirtual 109, 241, 0)), (744, (.if_icmp .eq 626, 1370, 0)), (747, (.iconst 0, 0, 0)), (748, (.ireturn, 1, 0)), (749, (.aload_n 1, 0, 0)), (750, (.invokevirtual 110, 129, 0)), (753, (.aload_n 2, 0, 0)), (754, (.invokevirtual 113, 243, 0)), (757, (.if_icmp .eq 613, 1370, 0)), (760, (.iconst 0, 0, 0)), (761, (.ireturn, 1, 0)), (762, (.aload_n 1, 0, 0)), (763, (.aload_n 0, 0, 0)), (764, (.iload 4, 0, 0)), (766, (.iconst 1, 0, 0)), (767, (.iadd, 0, 0)), (768, (.iaload, 0, 0)), (769, (.aload_n 0, 0, 0)), (770, (.iload 4, 0, 0)), (772, (.iconst 2, 0, 0)), (773, (.iadd, 0, 0)), (774, (.iaload, 0, 0)), (775, (.invokevirtual 114, 130, 2)), (778, (.aload_n 2, 0, 0)), (779, (.aload_n 0, 0, 0)), (780, (.iload 4, 0, 0)), (782, (.iconst 1, 0, 0)), (783, (.iadd, 0, 0)), (784, (.iaload, 0, 0)), (785, (.aload_n 0, 0, 0)), (786, (.iload 4, 0, 0)), (788, (.iconst 2, 0, 0)), (789, (.iadd, 0, 0)), (790, (.iaload, 0, 0)), (791, (.invokevirtual 117, 245, 2)), (794, (.if_icmp .eq 576, 1370, 0)), (797, (.iconst 0, 0, 0)), (798, (.ireturn, 1, 0)), (799, (.aload_n 1, 0, 0)), (800, (.invokevirtual 118, 131, 0)), (803, (.aload_n 2, 0, 0)), (804, (.invokevirtual 121, 248, 0)), (807, (.if_icmp .eq 563, 1370, 0)), (810, (.iconst 0, 0, 0)), (811, (.ireturn, 1, 0)), (812, (.aload_n 1, 0, 0)), (813, (.invokevirtual 122, 132, 0)), (816, (.aload_n 2, 0, 0)), (817, (.invokevirtual 125, 249, 0)), (820, (.if_icmp .eq 550, 1370, 0)), (823, (.iconst 0, 0, 0)), (824, (.ireturn, 1, 0)), (825, (.aload_n 1, 0, 0)), (826, (.aload_n 0, 0, 0)), (827, (.iload 4, 0, 0)), (829, (.iconst 1, 0, 0)), (830, (.iadd, 0, 0)), (831, (.iaload, 0, 0)), (832, (.invokevirtual 126, 133, 1)), (835, (.aload_n 2, 0, 0)), (836, (.aload_n 0, 0, 0)), (837, (.iload 4, 0, 0)), (839, (.iconst 1, 0, 0)), (840, (.iadd, 0, 0)), (841, (.iaload, 0, 0)), (842, (.invokevirtual 129, 250, 1)), (845, (.if_icmp .eq 525, 1370, 0)), (848, (.iconst 0, 0, 0)), (849, (.ireturn, 1, 0)), (850, (.aload_n 1, 0, 0)), (851, (.aload_n 0, 0, 0)), (852, (.iload 4, 0, 0)), (854, (.iconst 1, 0, 0)), (855, (.iadd, 0, 0)), (856, (.iaload, 0, 0)), (857, (.aload_n 0, 0, 0)), (858, (.iload 4, 0, 0)), (860, (.iconst 2, 0, 0)), (861, (.iadd, 0, 0)), (862, (.iaload, 0, 0)), (863, (.invokevirtual 130, 134, 2)), (866, (.aload_n 2, 0, 0)), (867, (.aload_n 0, 0, 0)), (868, (.iload 4, 0, 0)), (870, (.iconst 1, 0, 0)), (871, (.iadd, 0, 0)), (872, (.iaload, 0, 0)), (873, (.aload_n 0, 0, 0)), (874, (.iload 4, 0, 0)), (876, (.iconst 2, 0, 0)), (877, (.iadd, 0, 0)), (878, (.iaload, 0, 0)), (879, (.invokevirtual 133, 252, 2)), (882, (.if_icmp .eq 488, 1370, 0)), (885, (.iconst 0, 0, 0)), (886, (.ireturn, 1, 0)), (887, (.aload_n 1, 0, 0)), (888, (.invokevirtual 134, 135, 0)), (891, (.aload_n 2, 0, 0)), (892, (.invokevirtual 137, 254, 0)), (895, (.if_icmp .eq 475, 1370, 0)), (898, (.iconst 0, 0, 0)), (899, (.ireturn, 1, 0)), (900, (.aload_n 1, 0, 0)), (901, (.invokevirtual 138, 136, 0)), (904, (.aload_n 2, 0, 0)), (905, (.invokevirtual 141, 255, 0)), (908, (.if_icmp .eq 462, 1370, 0)), (911, (.iconst 0, 0, 0)), (912, (.ireturn, 1, 0)), (913, (.aload_n 1, 0, 0)), (914, (.invokevirtual 142, 137, 0)), (917, (.aload_n 2, 0, 0)), (918, (.invokevirtual 145, 256, 0)), (921, (.if_icmp .eq 449, 1370, 0)), (924, (.iconst 0, 0, 0)), (925, (.ireturn, 1, 0)), (926, (.aload_n 1, 0, 0)), (927, (.aload_n 0, 0, 0)), (928, (.iload 4, 0, 0)), (930, (.iconst 1, 0, 0)), (931, (.iadd, 0, 0)), (932, (.iaload, 0, 0)), (933, (.invokevirtual 146, 138, 1)), (936, (.aload_n 2, 0, 0)), (937, (.aload_n 0, 0, 0)), (938, (.iload 4, 0, 0)), (940, (.iconst 1, 0, 0)), (941, (.iadd, 0, 0)), (942, (.iaload, 0, 0)), (943, (.invokevirtual 149, 258, 1)), (946, (.if_icmp .eq 424, 1370, 0)), (949, (.iconst 0, 0, 0)), (950, (.ireturn, 1, 0)), (951, (.aload_n 1, 0, 0)), (952, (.aload_n 0, 0, 0)), (953, (.iload 4, 0, 0)), (955, (.iconst 1, 0, 0)), (956, (.iadd, 0, 0)), (957, (.iaload, 0, 0)), (958, (.aload_n 0, 0, 0)), (959, (.iload 4, 0, 0)), (961, (.iconst 2, 0, 0)), (962, (.iadd, 0, 0)), (963, (.iaload, 0, 0)), (964, (.invokevirtual 150, 139, 2)), (967, (.aload_n 2, 0, 0)), (968, (.aload_n 0, 0, 0)), (969, (.iload 4, 0, 0)), (971, (.iconst 1, 0, 0)), (972, (.iadd, 0, 0)), (973, (.iaload, 0, 0)), (974, (.aload_n 0, 0, 0)), (975, (.iload 4, 0, 0)), (977, (.iconst 2, 0, 0)), (978, (.iadd, 0, 0)), (979, (.iaload, 0, 0)), (980, (.invokevirtual 153, 260, 2)), (983, (.if_icmp .eq 387, 1370, 0)), (986, (.iconst 0, 0, 0)), (987, (.ireturn, 1, 0)), (988, (.aload_n 1, 0, 0)), (989, (.invokevirtual 154, 140, 0)), (992, (.aload_n 2, 0, 0)), (993, (.invokevirtual 157, 261, 0)), (996, (.if_icmp .eq 374, 1370, 0)), (999, (.iconst 0, 0, 0)), (1000, (.ireturn, 1, 0)), (1001, (.aload_n 1, 0, 0)), (1002, (.invokevirtual 158, 141, 0)), (1005, (.aload_n 2, 0, 0)), (1006, (.invokevirtual 161, 264, 0)), (1009, (.if_icmp .eq 361, 1370, 0)), (1012, (.iconst 0, 0, 0)), (1013, (.ireturn, 1, 0)), (1014, (.aload_n 1, 0, 0)), (1015, (.invokevirtual 162, 142, 0)), (1018, (.aload_n 2, 0, 0)), (1019, (.invokevirtual 165, 265, 0)), (1022, (.if_icmp .eq 348, 1370, 0)), (1025, (.iconst 0, 0, 0)), (1026, (.ireturn, 1, 0)), (1027, (.aload_n 1, 0, 0)), (1028, (.aload_n 0, 0, 0)), (1029, (.iload 4, 0, 0)), (1031, (.iconst 1, 0, 0)), (1032, (.iadd, 0, 0)), (1033, (.iaload, 0, 0)), (1034, (.aload_n 0, 0, 0)), (1035, (.iload 4, 0, 0)), (1037, (.iconst 2, 0, 0)), (1038, (.iadd, 0, 0)), (1039, (.iaload, 0, 0)), (1040, (.aload_n 0, 0, 0)), (1041, (.iload 4, 0, 0)), (1043, (.iconst 3, 0, 0)), (1044, (.iadd, 0, 0)), (1045, (.iaload, 0, 0)), (1046, (.invokevirtual 166, 143, 3)), (1049, (.aload_n 2, 0, 0)), (1050, (.aload_n 0, 0, 0)), (1051, (.iload 4, 0, 0)), (1053, (.iconst 1, 0, 0)), (1054, (.iadd, 0, 0)), (1055, (.iaload, 0, 0)), (1056, (.aload_n 0, 0, 0)), (1057, (.iload 4, 0, 0)), (1059, (.iconst 2, 0, 0)), (1060, (.iadd, 0, 0)), (1061, (.iaload, 0, 0)), (1062, (.aload_n 0, 0, 0)), (1063, (.iload 4, 0, 0)), (1065, (.iconst 3, 0, 0)), (1066, (.iadd, 0, 0)), (1067, (.iaload, 0, 0)), (1068, (.invokevirtual 170, 267, 3)), (1071, (.if_icmp .eq 299, 1370, 0)), (1074, (.iconst 0, 0, 0)), (1075, (.ireturn, 1, 0)), (1076, (.aload_n 1, 0, 0)), (1077, (.invokevirtual 171, 144, 0)), (1080, (.aload_n 2, 0, 0)), (1081, (.invokevirtual 174, 268, 0)), (1084, (.if_icmp .eq 286, 1370, 0)), (1087, (.iconst 0, 0, 0)), (1088, (.ireturn, 1, 0)), (1089, (.aload_n 1, 0, 0)), (1090, (.invokevirtual 175, 145, 0)), (1093, (.aload_n 2, 0, 0)), (1094, (.invokevirtual 178, 271, 0)), (1097, (.if_icmp .eq 273, 1370, 0)), (1100, (.iconst 0, 0, 0)), (1101, (.ireturn, 1, 0)), (1102, (.aload_n 1, 0, 0)), (1103, (.invokevirtual 179, 146, 0)), (1106, (.aload_n 2, 0, 0)), (1107, (.invokevirtual 182, 272, 0)), (1110, (.if_icmp .eq 260, 1370, 0)), (1113, (.iconst 0, 0, 0)), (1114, (.ireturn, 1, 0)), (1115, (.aload_n 1, 0, 0)), (1116, (.aload_n 0, 0, 0)), (1117, (.iload 4, 0, 0)), (1119, (.iconst 1, 0, 0)), (1120, (.iadd, 0, 0)), (1121, (.iaload, 0, 0)), (1122, (.invokevirtual 183, 147, 1)), (1125, (.aload_n 2, 0, 0)), (1126, (.aload_n 0, 0, 0)), (1127, (.iload 4, 0, 0)), (1129, (.iconst 1, 0, 0)), (1130, (.iadd, 0, 0)), (1131, (.iaload, 0, 0)), (1132, (.invokevirtual 186, 275, 1)), (1135, (.if_icmp .eq 235, 1370, 0)), (1138, (.iconst 0, 0, 0)), (1139, (.ireturn, 1, 0)), (1140, (.aload_n 1, 0, 0)), (1141, (.aload_n 0, 0, 0)), (1142, (.iload 4, 0, 0)), (1144, (.iconst 1, 0, 0)), (1145, (.iadd, 0, 0)), (1146, (.iaload, 0, 0)), (1147, (.invokevirtual 187, 148, 1)), (1150, (.aload_n 2, 0, 0)), (1151, (.aload_n 0, 0, 0)), (1152, (.iload 4, 0, 0)), (1154, (.iconst 1, 0, 0)), (1155, (.iadd, 0, 0)), (1156, (.iaload, 0, 0)), (1157, (.invokevirtual 190, 276, 1)), (1160, (.if_icmp .eq 210, 1370, 0)), (1163, (.iconst 0, 0, 0)), (1164, (.ireturn, 1, 0)), (1165, (.aload_n 1, 0, 0)), (1166, (.aload_n 0, 0, 0)), (1167, (.iload 4, 0, 0)), (1169, (.iconst 1, 0, 0)), (1170, (.iadd, 0, 0)), (1171, (.iaload, 0, 0)), (1172, (.invokevirtual 191, 149, 1)), (1175, (.aload_n 2, 0, 0)), (1176, (.aload_n 0, 0, 0)), (1177, (.iload 4, 0, 0)), (1179, (.iconst 1, 0, 0)), (1180, (.iadd, 0, 0)), (1181, (.iaload, 0, 0)), (1182, (.invokevirtual 194, 279, 1)), (1185, (.if_icmp .eq 185, 1370, 0)), (1188, (.iconst 0, 0, 0)), (1189, (.ireturn, 1, 0)), (1190, (.aload_n 1, 0, 0)), (1191, (.invokevirtual 195, 150, 0)), (1194, (.aload_n 2, 0, 0)), (1195, (.invokevirtual 198, 281, 0)), (1198, (.if_icmp .eq 172, 1370, 0)), (1201, (.iconst 0, 0, 0)), (1202, (.ireturn, 1, 0)), (1203, (.aload_n 1, 0, 0)), (1204, (.aload_n 0, 0, 0)), (1205, (.iload 4, 0, 0)), (1207, (.iconst 1, 0, 0)), (1208, (.iadd, 0, 0)), (1209, (.iaload, 0, 0)), (1210, (.aload_n 0, 0, 0)), (1211, (.iload 4, 0, 0)), (1213, (.iconst 2, 0, 0)), (1214, (.iadd, 0, 0)), (1215, (.iaload, 0, 0)), (1216, (.invokevirtual 199, 151, 2)), (1219, (.aload_n 2, 0, 0)), (1220, (.aload_n 0, 0, 0)), (1221, (.iload 4, 0, 0)), (1223, (.iconst 1, 0, 0)), (1224, (.iadd, 0, 0)), (1225, (.iaload, 0, 0)), (1226, (.aload_n 0, 0, 0)), (1227, (.iload 4, 0, 0)), (1229, (.iconst 2, 0, 0)), (1230, (.iadd, 0, 0)), (1231, (.iaload, 0, 0)), (1232, (.invokevirtual 202, 283, 2)), (1235, (.if_icmp .eq 135, 1370, 0)), (1238, (.iconst 0, 0, 0)), (1239, (.ireturn, 1, 0)), (1240, (.aload_n 1, 0, 0)), (1241, (.aload_n 0, 0, 0)), (1242, (.iload 4, 0, 0)), (1244, (.iconst 1, 0, 0)), (1245, (.iadd, 0, 0)), (1246, (.iaload, 0, 0)), (1247, (.invokevirtual 203, 152, 1)), (1250, (.aload_n 2, 0, 0)), (1251, (.aload_n 0, 0, 0)), (1252, (.iload 4, 0, 0)), (1254, (.iconst 1, 0, 0)), (1255, (.iadd, 0, 0)), (1256, (.iaload, 0, 0)), (1257, (.invokevirtual 206, 284, 1)), (1260, (.if_icmp .eq 110, 1370, 0)), (1263, (.iconst 0, 0, 0)), (1264, (.ireturn, 1, 0)), (1265, (.aload_n 1, 0, 0)), (1266, (.aload_n 0, 0, 0)), (1267, (.iload 4, 0, 0)), (1269, (.iconst 1, 0, 0)), (1270, (.iadd, 0, 0)), (1271, (.iaload, 0, 0)), (1272, (.invokevirtual 207, 153, 1)), (1275, (.aload_n 2, 0, 0)), (1276, (.aload_n 0, 0, 0)), (1277, (.iload 4, 0, 0)), (1279, (.iconst 1, 0, 0)), (1280, (.iadd, 0, 0)), (1281, (.iaload, 0, 0)), (1282, (.invokevirtual 210, 285, 1)), (1285, (.if_icmp .eq 85, 1370, 0)), (1288, (.iconst 0, 0, 0)), (1289, (.ireturn, 1, 0)), (1290, (.aload_n 1, 0, 0)), (1291, (.aload_n 0, 0, 0)), (1292, (.iload 4, 0, 0)), (1294, (.iconst 1, 0, 0)), (1295, (.iadd, 0, 0)), (1296, (.iaload, 0, 0)), (1297, (.invokevirtual 211, 154, 1)), (1300, (.aload_n 2, 0, 0)), (1301, (.aload_n 0, 0, 0)), (1302, (.iload 4, 0, 0)), (1304, (.iconst 1, 0, 0)), (1305, (.iadd, 0, 0)), (1306, (.iaload, 0, 0)), (1307, (.invokevirtual 214, 286, 1)), (1310, (.if_icmp .eq 60, 1370, 0)), (1313, (.iconst 0, 0, 0)), (1314, (.ireturn, 1, 0)), (1315, (.aload_n 1, 0, 0)), (1316, (.aload_n 0, 0, 0)), (1317, (.iload 4, 0, 0)), (1319, (.iconst 1, 0, 0)), (1320, (.iadd, 0, 0)), (1321, (.iaload, 0, 0)), (1322, (.aload_n 3, 0, 0)), (1323, (.invokestatic 215, 1006, 3)), (1326, (.istore 5, 0, 0)), (1328, (.aload_n 2, 0, 0)), (1329, (.aload_n 0, 0, 0)), (1330, (.iload 4, 0, 0)), (1332, (.iconst 1, 0, 0)), (1333, (.iadd, 0, 0)), (1334, (.iaload, 0, 0)), (1335, (.invokevirtual 218, 287, 1)), (1338, (.lstore 6, 0, 0)), (1340, (.aload_n 2, 0, 0)), (1341, (.invokevirtual 51, 177, 0)), (1344, (.iload 5, 0, 0)), (1346, (.if_icmp .eq 5, 1351, 0)), (1349, (.iconst 0, 0, 0)), (1350, (.ireturn, 1, 0)), (1351, (.iload 5, 0, 0)), (1353, (.ifCond .ne 14, 1367, 0)), (1356, (.aload_n 3, 0, 0)), (1357, (.iconst 0, 0, 0)), (1358, (.laload, 0, 0)), (1359, (.lload 6, 0, 0)), (1361, (.lcmp, 0, 0)), (1362, (.ifCond .eq 5, 1367, 0)), (1365, (.iconst 0, 0, 0)), (1366, (.ireturn, 1, 0)), (1367, (.goto 3, 1370, 0)), (1370, (.iinc 4 5, 0, 0)), (1373, (.goto (-1350), 23, 0)), (1376, (.iconst 1, 0, 0)), (1377, (.ireturn, 1, 0))]
/-- TypeAtNight$Boxing.<init>()V -/
def k_1 : List (Nat × tm_N) := [(0, (.aload_n 0, 0, 0)), (1, (.invokespecial 3, 0, 1000)), (4, (.aload_n 0, 0, 0)), (5, (.bipush 8, 0, 0)), (7, (.newarray .int, 0, 0)), (9, (.putfield 9, 0, 0)), (12, (.aload_n 0, 0, 0)), (13, (.bipush 8, 0, 0)), (15, (.newarray .int, 0, 0)), (17, (.putfield 15, 0, 1)), (20, (.return_, 0, 0))]
/-- TypeAtNight$Boxing.read(LTypeAtNight$Text;)I -/
def k_2 : List (Nat × tm_N) := [(0, (.aload_n 0, 0, 0)), (1, (.getfield 15, 0, 1)), (4, (.iconst 0, 0, 0)), (5, (.invokestatic 18, 291, 2)), (8, (.aload_n 1, 0, 0)), (9, (.invokevirtual 24, 67, 0)), (12, (.bipush 59, 0, 0)), (14, (.invokestatic 30, 0, 1002)), (17, (.istore_n 2, 0, 0)), (18, (.iload_n 2, 0, 0)), (19, (.ifCond .ne 5, 24, 0)), (22, (.iconst (-1), 0, 0)), (23, (.ireturn, 0, 0)), (24, (.iconst 0, 0, 0)), (25, (.istore_n 3, 0, 0)), (26, (.iload_n 3, 0, 0)), (27, (.iload_n 2, 0, 0)), (28, (.if_icmp .gt 107, 135, 0)), (31, (.aload_n 1, 0, 0)), (32, (.ldc 36, 7, 1)), (34, (.iload_n 3, 0, 0)), (35, (.iload_n 2, 0, 0)), (36, (.invokevirtual 38, 73, 3)), (39, (.istore 4, 0, 0)), (41, (.iload 4, 0, 0)), (43, (.iconst (-1), 0, 0)), (44, (.if_icmp .eq 6, 50, 0)), (47, (.iload 4, 0, 0)), (49, (.ireturn, 0, 0)), (50, (.aload_n 1, 0, 0)), (51, (.iload_n 3, 0, 0)), (52, (.invokevirtual 42, 68, 1)), (55, (.aload_n 1, 0, 0)), (56, (.iload_n 3, 0, 0)), (57, (.iconst 1, 0, 0)), (58, (.iadd, 0, 0)), (59, (.invokevirtual 42, 68, 1)), (62, (.if_icmp .ne 7, 69, 0)), (65, (.iload_n 3, 0, 0)), (66, (.iconst 1, 0, 0)), (67, (.iadd, 0, 0)), (68, (.ireturn, 0, 0)), (69, (.aload_n 0, 0, 0)), (70, (.aload_n 1, 0, 0)), (71, (.iload_n 3, 0, 0)), (72, (.invokevirtual 46, 69, 1)), (75, (.aload_n 1, 0, 0)), (76, (.iload_n 3, 0, 0)), (77, (.iconst 1, 0, 0)), (78, (.iadd, 0, 0)), (79, (.invokevirtual 46, 69, 1)), (82, (.invokevirtual 49, 3, 2)), (85, (.iload_n 3, 0, 0)), (86, (.iconst 2, 0, 0)), (87, (.iadd, 0, 0)), (88, (.iload_n 2, 0, 0)), (89, (.if_icmp .ge 19, 108, 0)), (92, (.aload_n 1, 0, 0)), (93, (.iload_n 3, 0, 0)), (94, (.iconst 2, 0, 0)), (95, (.iadd, 0, 0)), (96, (.invokevirtual 42, 68, 1)), (99, (.bipush 59, 0, 0)), (101, (.if_icmp .eq 7, 108, 0)), (104, (.iload_n 3, 0, 0)), (105, (.iconst 2, 0, 0)), (106, (.iadd, 0, 0)), (107, (.ireturn, 0, 0)), (108, (.iload_n 3, 0, 0)), (109, (.iconst 2, 0, 0)), (110, (.iadd, 0, 0)), (111, (.iload_n 2, 0, 0)), (112, (.if_icmp .lt 17, 129, 0)), (115, (.aload_n 1, 0, 0)), (116, (.invokevirtual 24, 67, 0)), (119, (.iload_n 2, 0, 0)), (120, (.if_icmp .le 7, 127, 0)), (123, (.iload_n 2, 0, 0)), (124, (.goto 4, 128, 0)), (127, (.iconst (-1), 0, 0)), (128, (.ireturn, 0, 0)), (129, (.iinc 3 3, 0, 0)), (132, (.goto (-106), 26, 0)), (135, (.iload_n 2, 0, 0)), (136, (.ireturn, 0, 0))]
/-- TypeAtNight$Boxing.putApart(II)V -/
def k_3 : List (Nat × tm_N) := [(0, (.aload_n 0, 0, 0)), (1, (.getfield 15, 0, 1)), (4, (.iload_n 1, 0, 0)), (5, (.dup2, 0, 0)), (6, (.iaload, 0, 0)), (7, (.iconst 1, 0, 0)), (8, (.iload_n 2, 0, 0)), (9, (.ishl, 0, 0)), (10, (.ior, 0, 0)), (11, (.iastore, 0, 0)), (12, (.aload_n 0, 0, 0)), (13, (.getfield 15, 0, 1)), (16, (.iload_n 2, 0, 0)), (17, (.dup2, 0, 0)), (18, (.iaload, 0, 0)), (19, (.iconst 1, 0, 0)), (20, (.iload_n 1, 0, 0)), (21, (.ishl, 0, 0)), (22, (.ior, 0, 0)), (23, (.iastore, 0, 0)), (24, (.return_, 0, 0))]
/-- TypeAtNight$Boxing.fewest()I -/
def k_4 : List (Nat × tm_N) := [(0, (.iconst 1, 0, 0)), (1, (.istore_n 1, 0, 0)), (2, (.iload_n 1, 0, 0)), (3, (.bipush 8, 0, 0)), (5, (.if_icmp .ge 21, 26, 0)), (8, (.aload_n 0, 0, 0)), (9, (.iconst 0, 0, 0)), (10, (.iload_n 1, 0, 0)), (11, (.iconst 0, 0, 0)), (12, (.invokevirtual 53, 5, 3)), (15, (.ifCond .eq 5, 20, 0)), (18, (.iload_n 1, 0, 0)), (19, (.ireturn, 0, 0)), (20, (.iinc 1 1, 0, 0)), (23, (.goto (-21), 2, 0)), (26, (.aload_n 0, 0, 0)), (27, (.iconst 0, 0, 0)), (28, (.bipush 8, 0, 0)), (30, (.iconst 0, 0, 0)), (31, (.invokevirtual 53, 5, 3)), (34, (.pop, 0, 0)), (35, (.bipush 8, 0, 0)), (37, (.ireturn, 0, 0))]
/-- TypeAtNight$Boxing.placeFrom(III)Z -/
def k_5 : List (Nat × tm_N) := [(0, (.iload_n 1, 0, 0)), (1, (.bipush 8, 0, 0)), (3, (.if_icmp .lt 5, 8, 0)), (6, (.iconst 1, 0, 0)), (7, (.ireturn, 1, 0)), (8, (.iconst 0, 0, 0)), (9, (.istore 4, 0, 0)), (11, (.iload 4, 0, 0)), (13, (.iload_n 2, 0, 0)), (14, (.if_icmp .ge 54, 68, 0)), (17, (.iload 4, 0, 0)), (19, (.iload_n 3, 0, 0)), (20, (.if_icmp .gt 48, 68, 0)), (23, (.aload_n 0, 0, 0)), (24, (.iload_n 1, 0, 0)), (25, (.iload 4, 0, 0)), (27, (.invokevirtual 57, 6, 2)), (30, (.ifCond .eq 32, 62, 0)), (33, (.aload_n 0, 0, 0)), (34, (.getfield 9, 0, 0)), (37, (.iload_n 1, 0, 0)), (38, (.iload 4, 0, 0)), (40, (.iastore, 0, 0)), (41, (.aload_n 0, 0, 0)), (42, (.iload_n 1, 0, 0)), (43, (.iconst 1, 0, 0)), (44, (.iadd, 0, 0)), (45, (.iload_n 2, 0, 0)), (46, (.iload_n 3, 0, 0)), (47, (.iload 4, 0, 0)), (49, (.iconst 1, 0, 0)), (50, (.iadd, 0, 0)), (51, (.invokestatic 61, 0, 1001)), (54, (.invokevirtual 53, 5, 3)), (57, (.ifCond .eq 5, 62, 0)), (60, (.iconst 1, 0, 0)), (61, (.ireturn, 1, 0)), (62, (.iinc 4 1, 0, 0)), (65, (.goto (-54), 11, 0)), (68, (.iconst 0, 0, 0)), (69, (.ireturn, 1, 0))]
/-- TypeAtNight$Boxing.mayStand(II)Z -/
def k_6 : List (Nat × tm_N) := [(0, (.iconst 0, 0, 0)), (1, (.istore_n 3, 0, 0)), (2, (.iload_n 3, 0, 0)), (3, (.iload_n 1, 0, 0)), (4, (.if_icmp .ge 35, 39, 0)), (7, (.aload_n 0, 0, 0)), (8, (.getfield 9, 0, 0)), (11, (.iload_n 3, 0, 0)), (12, (.iaload, 0, 0)), (13, (.iload_n 2, 0, 0)), (14, (.if_icmp .ne 19, 33, 0)), (17, (.aload_n 0, 0, 0)), (18, (.getfield 15, 0, 1)), (21, (.iload_n 1, 0, 0)), (22, (.iaload, 0, 0)), (23, (.iload_n 3, 0, 0)), (24, (.ishr, 0, 0)), (25, (.iconst 1, 0, 0)), (26, (.iand, 0, 0)), (27, (.iconst 1, 0, 0)), (28, (.if_icmp .ne 5, 33, 0)), (31, (.iconst 0, 0, 0)), (32, (.ireturn, 1, 0)), (33, (.iinc 3 1, 0, 0)), (36, (.goto (-34), 2, 0)), (39, (.iconst 1, 0, 0)), (40, (.ireturn, 1, 0))]
/-- TypeAtNight$Galley.<init>()V -/
def k_7 : List (Nat × tm_N) := [(0, (.aload_n 0, 0, 0)), (1, (.invokespecial 3, 0, 1000)), (4, (.aload_n 0, 0, 0)), (5, (.bipush 61, 0, 0)), (7, (.newarray .int, 0, 0)), (9, (.putfield 11, 1, 0)), (12, (.aload_n 0, 0, 0)), (13, (.iconst 0, 0, 0)), (14, (.putfield 15, 1, 1)), (17, (.return_, 0, 0))]
/-- TypeAtNight$Galley.leftOfWin(I)I -/
def k_8 : List (Nat × tm_N) := [(0, (.aload_n 0, 0, 0)), (1, (.iload_n 1, 0, 0)), (2, (.invokevirtual 19, 9, 1)), (5, (.iload_n 1, 0, 0)), (6, (.iconst 1, 0, 0)), (7, (.if_icmp .ne 5, 12, 0)), (10, (.iconst 0, 0, 0)), (11, (.ireturn, 0, 0)), (12, (.iconst 0, 0, 0)), (13, (.istore_n 2, 0, 0)), (14, (.iload_n 2, 0, 0)), (15, (.iconst 2, 0, 0)), (16, (.iadd, 0, 0)), (17, (.iload_n 1, 0, 0)), (18, (.if_icmp .gt 30, 48, 0)), (21, (.aload_n 0, 0, 0)), (22, (.getfield 11, 1, 0)), (25, (.iload_n 2, 0, 0)), (26, (.iaload, 0, 0)), (27, (.aload_n 0, 0, 0)), (28, (.getfield 11, 1, 0)), (31, (.iload_n 1, 0, 0)), (32, (.iconst 2, 0, 0)), (33, (.isub, 0, 0)), (34, (.iload_n 2, 0, 0)), (35, (.isub, 0, 0)), (36, (.iaload, 0, 0)), (37, (.if_icmp .ne 5, 42, 0)), (40, (.iload_n 2, 0, 0)), (41, (.ireturn, 0, 0)), (42, (.iinc 2 1, 0, 0)), (45, (.goto (-31), 14, 0)), (48, (.iconst (-1), 0, 0)), (49, (.ireturn, 0, 0))]
/-- TypeAtNight$Galley.learn(I)V -/
def k_9 : List (Nat × tm_N) := [(0, (.aload_n 0, 0, 0)), (1, (.getfield 15, 1, 1)), (4, (.iconst 1, 0, 0)), (5, (.iadd, 0, 0)), (6, (.istore_n 2, 0, 0)), (7, (.iload_n 2, 0, 0)), (8, (.iload_n 1, 0, 0)), (9, (.if_icmp .gt 86, 95, 0)), (12, (.iload_n 2, 0, 0)), (13, (.bipush 60, 0, 0)), (15, (.if_icmp .gt 80, 95, 0)), (18, (.iload_n 2, 0, 0)), (19, (.iconst 1, 0, 0)), (20, (.if_icmp .ne 7, 27, 0)), (23, (.lconst 1, 0, 0)), (24, (.goto 4, 28, 0)), (27, (.lconst 0, 0, 0)), (28, (.lstore_n 3, 0, 0)), (29, (.iconst 0, 0, 0)), (30, (.istore 5, 0, 0)), (32, (.iload 5, 0, 0)), (34, (.iconst 2, 0, 0)), (35, (.iadd, 0, 0)), (36, (.iload_n 2, 0, 0)), (37, (.if_icmp .gt 33, 70, 0)), (40, (.lload_n 3, 0, 0)), (41, (.lconst 1, 0, 0)), (42, (.aload_n 0, 0, 0)), (43, (.getfield 11, 1, 0)), (46, (.iload 5, 0, 0)), (48, (.iaload, 0, 0)), (49, (.aload_n 0, 0, 0)), (50, (.getfield 11, 1, 0)), (53, (.iload_n 2, 0, 0)), (54, (.iconst 2, 0, 0)), (55, (.isub, 0, 0)), (56, (.iload 5, 0, 0)), (58, (.isub, 0, 0)), (59, (.iaload, 0, 0)), (60, (.ixor, 0, 0)), (61, (.lshl, 0, 0)), (62, (.lor, 0, 0)), (63, (.lstore_n 3, 0, 0)), (64, (.iinc 5 1, 0, 0)), (67, (.goto (-35), 32, 0)), (70, (.aload_n 0, 0, 0)), (71, (.getfield 11, 1, 0)), (74, (.iload_n 2, 0, 0)), (75, (.lload_n 3, 0, 0)), (76, (.ldc2_w 23, 18446744073709551615, 0)), (79, (.lxor, 0, 0)), (80, (.invokestatic 25, 290, 1)), (83, (.iastore, 0, 0)), (84, (.aload_n 0, 0, 0)), (85, (.iload_n 2, 0, 0)), (86, (.putfield 15, 1, 1)), (89, (.iinc 2 1, 0, 0)), (92, (.goto (-85), 7, 0)), (95, (.return_, 0, 0))]
/-- TypeAtNight$Hearsay.<init>()V -/
def k_10 : List (Nat × tm_N) := [(0, (.aload_n 0, 0, 0)), (1, (.invokespecial 3, 0, 1000)), (4, (.aload_n 0, 0, 0)), (5, (.bipush 12, 0, 0)), (7, (.newarray .int, 0, 0)), (9, (.putfield 11, 2, 0)), (12, (.aload_n 0, 0, 0)), (13, (.iconst 0, 0, 0)), (14, (.putfield 15, 2, 1)), (17, (.return_, 0, 0))]
/-- TypeAtNight$Hearsay.size()I -/
def k_11 : List (Nat × tm_N) := [(0, (.aload_n 0, 0, 0)), (1, (.getfield 15, 2, 1)), (4, (.ireturn, 0, 0))]
/-- TypeAtNight$Hearsay.hear(II)I -/
def k_12 : List (Nat × tm_N) := [(0, (.iload_n 2, 0, 0)), (1, (.ifCond .lt 20, 21, 0)), (4, (.iload_n 2, 0, 0)), (5, (.iload_n 1, 0, 0)), (6, (.invokestatic 19, 14, 1)), (9, (.if_icmp .gt 12, 21, 0)), (12, (.aload_n 0, 0, 0)), (13, (.getfield 15, 2, 1)), (16, (.bipush 12, 0, 0)), (18, (.if_icmp .lt 5, 23, 0)), (21, (.iconst (-1), 0, 0)), (22, (.ireturn, 0, 0)), (23, (.aload_n 0, 0, 0)), (24, (.getfield 11, 2, 0)), (27, (.aload_n 0, 0, 0)), (28, (.getfield 15, 2, 1)), (31, (.bipush 10, 0, 0)), (33, (.iload_n 1, 0, 0)), (34, (.imul, 0, 0)), (35, (.iload_n 2, 0, 0)), (36, (.iadd, 0, 0)), (37, (.iastore, 0, 0)), (38, (.aload_n 0, 0, 0)), (39, (.dup, 0, 0)), (40, (.getfield 15, 2, 1)), (43, (.iconst 1, 0, 0)), (44, (.iadd, 0, 0)), (45, (.putfield 15, 2, 1)), (48, (.aload_n 0, 0, 0)), (49, (.getfield 15, 2, 1)), (52, (.ireturn, 0, 0))]
/-- TypeAtNight$Hearsay.clear()I -/
def k_13 : List (Nat × tm_N) := [(0, (.aload_n 0, 0, 0)), (1, (.getfield 15, 2, 1)), (4, (.istore_n 1, 0, 0)), (5, (.aload_n 0, 0, 0)), (6, (.iconst 0, 0, 0)), (7, (.putfield 15, 2, 1)), (10, (.iload_n 1, 0, 0)), (11, (.ireturn, 0, 0))]
/-- TypeAtNight$Hearsay.mostOf(I)I -/
def k_14 : List (Nat × tm_N) := [(0, (.iload_n 0, 0, 0)), (1, (.tableswitch 46 0 4 #[35, 38, 41, 35, 43], 0, 0)), (36, (.bipush 7, 0, 0)), (38, (.ireturn, 0, 0)), (39, (.bipush 9, 0, 0)), (41, (.ireturn, 0, 0)), (42, (.iconst 1, 0, 0)), (43, (.ireturn, 0, 0)), (44, (.bipush 9, 0, 0)), (46, (.ireturn, 0, 0)), (47, (.iconst (-1), 0, 0)), (48, (.ireturn, 0, 0))]
/-- TypeAtNight$Hearsay.fitting(LTypeAtNight$TypeCase;)I -/
def k_15 : List (Nat × tm_N) := [(0, (.aload_n 1, 0, 0)), (1, (.invokevirtual 23, 79, 0)), (4, (.istore_n 2, 0, 0)), (5, (.iconst 0, 0, 0)), (6, (.istore_n 3, 0, 0)), (7, (.iload_n 3, 0, 0)), (8, (.aload_n 0, 0, 0)), (9, (.getfield 15, 2, 1)), (12, (.if_icmp .ge 22, 34, 0)), (15, (.iload_n 2, 0, 0)), (16, (.aload_n 1, 0, 0)), (17, (.aload_n 0, 0, 0)), (18, (.getfield 11, 2, 0)), (21, (.iload_n 3, 0, 0)), (22, (.iaload, 0, 0)), (23, (.invokestatic 29, 16, 2)), (26, (.iand, 0, 0)), (27, (.istore_n 2, 0, 0)), (28, (.iinc 3 1, 0, 0)), (31, (.goto (-24), 7, 0)), (34, (.iload_n 2, 0, 0)), (35, (.ireturn, 0, 0))]
/-- TypeAtNight$Hearsay.answering(LTypeAtNight$TypeCase;I)I -/
def k_16 : List (Nat × tm_N) := [(0, (.iconst 0, 0, 0)), (1, (.istore_n 2, 0, 0)), (2, (.iconst 0, 0, 0)), (3, (.istore_n 3, 0, 0)), (4, (.iload_n 3, 0, 0)), (5, (.aload_n 0, 0, 0)), (6, (.getfield 33, 9, 4)), (9, (.if_icmp .ge 35, 44, 0)), (12, (.iload_n 2, 0, 0)), (13, (.aload_n 0, 0, 0)), (14, (.iload_n 3, 0, 0)), (15, (.iload_n 1, 0, 0)), (16, (.bipush 10, 0, 0)), (18, (.idiv, 0, 0)), (19, (.iload_n 1, 0, 0)), (20, (.bipush 10, 0, 0)), (22, (.irem, 0, 0)), (23, (.invokestatic 34, 17, 4)), (26, (.ifCond .eq 9, 35, 0)), (29, (.iconst 1, 0, 0)), (30, (.iload_n 3, 0, 0)), (31, (.ishl, 0, 0)), (32, (.goto 4, 36, 0)), (35, (.iconst 0, 0, 0)), (36, (.ior, 0, 0)), (37, (.istore_n 2, 0, 0)), (38, (.iinc 3 1, 0, 0)), (41, (.goto (-37), 4, 0)), (44, (.iload_n 2, 0, 0)), (45, (.ireturn, 0, 0))]
/-- TypeAtNight$Hearsay.isSo(LTypeAtNight$TypeCase;III)Z -/
def k_17 : List (Nat × tm_N) := [(0, (.iload_n 2, 0, 0)), (1, (.tableswitch 97 0 3 #[31, 47, 63, 81], 0, 0)), (32, (.aload_n 0, 0, 0)), (33, (.getfield 38, 9, 0)), (36, (.iload_n 1, 0, 0)), (37, (.iaload, 0, 0)), (38, (.iload_n 3, 0, 0)), (39, (.if_icmp .ne 7, 46, 0)), (42, (.iconst 1, 0, 0)), (43, (.goto 4, 47, 0)), (46, (.iconst 0, 0, 0)), (47, (.ireturn, 1, 0)), (48, (.aload_n 0, 0, 0)), (49, (.getfield 41, 9, 1)), (52, (.iload_n 1, 0, 0)), (53, (.iaload, 0, 0)), (54, (.iload_n 3, 0, 0)), (55, (.if_icmp .lt 7, 62, 0)), (58, (.iconst 1, 0, 0)), (59, (.goto 4, 63, 0)), (62, (.iconst 0, 0, 0)), (63, (.ireturn, 1, 0)), (64, (.aload_n 0, 0, 0)), (65, (.getfield 44, 9, 5)), (68, (.iload_n 1, 0, 0)), (69, (.ishr, 0, 0)), (70, (.iconst 1, 0, 0)), (71, (.iand, 0, 0)), (72, (.iload_n 3, 0, 0)), (73, (.if_icmp .ne 7, 80, 0)), (76, (.iconst 1, 0, 0)), (77, (.goto 4, 81, 0)), (80, (.iconst 0, 0, 0)), (81, (.ireturn, 1, 0)), (82, (.aload_n 0, 0, 0)), (83, (.getfield 47, 9, 3)), (86, (.iload_n 1, 0, 0)), (87, (.iaload, 0, 0)), (88, (.iload_n 3, 0, 0)), (89, (.if_icmp .ne 7, 96, 0)), (92, (.iconst 1, 0, 0)), (93, (.goto 4, 97, 0)), (96, (.iconst 0, 0, 0)), (97, (.ireturn, 1, 0)), (98, (.aload_n 0, 0, 0)), (99, (.getfield 50, 9, 2)), (102, (.iload_n 1, 0, 0)), (103, (.iaload, 0, 0)), (104, (.iload_n 3, 0, 0)), (105, (.if_icmp .lt 7, 112, 0)), (108, (.iconst 1, 0, 0)), (109, (.goto 4, 113, 0)), (112, (.iconst 0, 0, 0)), (113, (.ireturn, 1, 0))]
/-- TypeAtNight$Hearsay.leftAtMost(LTypeAtNight$TypeCase;II)I -/
def k_18 : List (Nat × tm_N) := [(0, (.iload_n 2, 0, 0)), (1, (.aload_n 1, 0, 0)), (2, (.iload_n 3, 0, 0)), (3, (.invokestatic 29, 16, 2)), (6, (.iand, 0, 0)), (7, (.invokestatic 53, 289, 1)), (10, (.istore 4, 0, 0)), (12, (.iload 4, 0, 0)), (14, (.iload_n 2, 0, 0)), (15, (.invokestatic 53, 289, 1)), (18, (.iload 4, 0, 0)), (20, (.isub, 0, 0)), (21, (.invokestatic 58, 0, 1001)), (24, (.ireturn, 0, 0))]
/-- TypeAtNight$Hearsay.bestQuestion(LTypeAtNight$TypeCase;I)I -/
def k_19 : List (Nat × tm_N) := [(0, (.iconst 0, 0, 0)), (1, (.istore_n 3, 0, 0)), (2, (.bipush 13, 0, 0)), (4, (.istore 4, 0, 0)), (6, (.iconst 0, 0, 0)), (7, (.istore 5, 0, 0)), (9, (.iload 5, 0, 0)), (11, (.iconst 5, 0, 0)), (12, (.if_icmp .ge 64, 76, 0)), (15, (.iconst 0, 0, 0)), (16, (.istore 6, 0, 0)), (18, (.iload 6, 0, 0)), (20, (.iload 5, 0, 0)), (22, (.invokestatic 19, 14, 1)), (25, (.if_icmp .gt 45, 70, 0)), (28, (.aload_n 0, 0, 0)), (29, (.aload_n 1, 0, 0)), (30, (.iload_n 2, 0, 0)), (31, (.bipush 10, 0, 0)), (33, (.iload 5, 0, 0)), (35, (.imul, 0, 0)), (36, (.iload 6, 0, 0)), (38, (.iadd, 0, 0)), (39, (.invokevirtual 64, 18, 3)), (42, (.istore 7, 0, 0)), (44, (.iload 7, 0, 0)), (46, (.iload 4, 0, 0)), (48, (.if_icmp .ge 16, 64, 0)), (51, (.iload 7, 0, 0)), (53, (.istore 4, 0, 0)), (55, (.bipush 10, 0, 0)), (57, (.iload 5, 0, 0)), (59, (.imul, 0, 0)), (60, (.iload 6, 0, 0)), (62, (.iadd, 0, 0)), (63, (.istore_n 3, 0, 0)), (64, (.iinc 6 1, 0, 0)), (67, (.goto (-49), 18, 0)), (70, (.iinc 5 1, 0, 0)), (73, (.goto (-64), 9, 0)), (76, (.iload_n 3, 0, 0)), (77, (.ireturn, 0, 0))]
/-- TypeAtNight$Letters.<init>()V -/
def k_20 : List (Nat × tm_N) := [(0, (.aload_n 0, 0, 0)), (1, (.invokespecial 3, 0, 1000)), (4, (.aload_n 0, 0, 0)), (5, (.bipush 8, 0, 0)), (7, (.newarray .int, 0, 0)), (9, (.putfield 9, 3, 0)), (12, (.aload_n 0, 0, 0)), (13, (.iconst 0, 0, 0)), (14, (.putfield 15, 3, 1)), (17, (.aload_n 0, 0, 0)), (18, (.bipush 8, 0, 0)), (20, (.newarray .int, 0, 0)), (22, (.putfield 19, 3, 2)), (25, (.aload_n 0, 0, 0)), (26, (.iconst 0, 0, 0)), (27, (.putfield 22, 3, 3)), (30, (.return_, 0, 0))]
/-- TypeAtNight$Letters.read(LTypeAtNight$Text;II)I -/
def k_21 : List (Nat × tm_N) := [(0, (.aload_n 0, 0, 0)), (1, (.getfield 9, 3, 0)), (4, (.iconst 0, 0, 0)), (5, (.invokestatic 25, 291, 2)), (8, (.aload_n 0, 0, 0)), (9, (.iconst 0, 0, 0)), (10, (.putfield 15, 3, 1)), (13, (.iload_n 2, 0, 0)), (14, (.istore 4, 0, 0)), (16, (.iload 4, 0, 0)), (18, (.iload_n 3, 0, 0)), (19, (.if_icmp .ge 60, 79, 0)), (22, (.aload_n 0, 0, 0)), (23, (.getfield 15, 3, 1)), (26, (.bipush 12, 0, 0)), (28, (.if_icmp .eq 17, 45, 0)), (31, (.bipush 108, 0, 0)), (33, (.aload_n 1, 0, 0)), (34, (.iload 4, 0, 0)), (36, (.invokevirtual 31, 68, 1)), (39, (.invokestatic 37, 74, 2)), (42, (.ifCond .ne 6, 48, 0)), (45, (.iload 4, 0, 0)), (47, (.ireturn, 0, 0)), (48, (.aload_n 0, 0, 0)), (49, (.getfield 9, 3, 0)), (52, (.aload_n 1, 0, 0)), (53, (.iload 4, 0, 0)), (55, (.invokevirtual 41, 69, 1)), (58, (.dup2, 0, 0)), (59, (.iaload, 0, 0)), (60, (.iconst 1, 0, 0)), (61, (.iadd, 0, 0)), (62, (.iastore, 0, 0)), (63, (.aload_n 0, 0, 0)), (64, (.dup, 0, 0)), (65, (.getfield 15, 3, 1)), (68, (.iconst 1, 0, 0)), (69, (.iadd, 0, 0)), (70, (.putfield 15, 3, 1)), (73, (.iinc 4 1, 0, 0)), (76, (.goto (-60), 16, 0)), (79, (.aload_n 0, 0, 0)), (80, (.getfield 15, 3, 1)), (83, (.ifCond .ne 7, 90, 0)), (86, (.iload_n 2, 0, 0)), (87, (.goto 4, 91, 0)), (90, (.iconst (-1), 0, 0)), (91, (.ireturn, 0, 0))]
/-- TypeAtNight$Letters.gather(LTypeAtNight$TypeCase;)I -/
def k_22 : List (Nat × tm_N) := [(0, (.aload_n 0, 0, 0)), (1, (.iconst 0, 0, 0)), (2, (.putfield 22, 3, 3)), (5, (.iconst 0, 0, 0)), (6, (.istore_n 2, 0, 0)), (7, (.iload_n 2, 0, 0)), (8, (.bipush 8, 0, 0)), (10, (.if_icmp .ge 53, 63, 0)), (13, (.aload_n 0, 0, 0)), (14, (.getfield 19, 3, 2)), (17, (.iload_n 2, 0, 0)), (18, (.aload_n 0, 0, 0)), (19, (.getfield 9, 3, 0)), (22, (.iload_n 2, 0, 0)), (23, (.iaload, 0, 0)), (24, (.ifCond .le 16, 40, 0)), (27, (.aload_n 1, 0, 0)), (28, (.iload_n 2, 0, 0)), (29, (.invokevirtual 44, 81, 1)), (32, (.aload_n 1, 0, 0)), (33, (.invokevirtual 49, 80, 0)), (36, (.iand, 0, 0)), (37, (.goto 4, 41, 0)), (40, (.iconst 0, 0, 0)), (41, (.iastore, 0, 0)), (42, (.aload_n 0, 0, 0)), (43, (.dup, 0, 0)), (44, (.getfield 22, 3, 3)), (47, (.aload_n 0, 0, 0)), (48, (.getfield 19, 3, 2)), (51, (.iload_n 2, 0, 0)), (52, (.iaload, 0, 0)), (53, (.ior, 0, 0)), (54, (.putfield 22, 3, 3)), (57, (.iinc 2 1, 0, 0)), (60, (.goto (-53), 7, 0)), (63, (.aload_n 0, 0, 0)), (64, (.getfield 22, 3, 3)), (67, (.ireturn, 0, 0))]
/-- TypeAtNight$Letters.suits(I)Z -/
def k_23 : List (Nat × tm_N) := [(0, (.iload_n 1, 0, 0)), (1, (.aload_n 0, 0, 0)), (2, (.getfield 22, 3, 3)), (5, (.iconst (-1), 0, 0)), (6, (.ixor, 0, 0)), (7, (.iand, 0, 0)), (8, (.ifCond .ne 14, 22, 0)), (11, (.iload_n 1, 0, 0)), (12, (.invokestatic 53, 289, 1)), (15, (.aload_n 0, 0, 0)), (16, (.getfield 15, 3, 1)), (19, (.if_icmp .eq 5, 24, 0)), (22, (.iconst 0, 0, 0)), (23, (.ireturn, 1, 0)), (24, (.iconst 0, 0, 0)), (25, (.istore_n 2, 0, 0)), (26, (.iload_n 2, 0, 0)), (27, (.bipush 8, 0, 0)), (29, (.if_icmp .ge 31, 60, 0)), (32, (.iload_n 1, 0, 0)), (33, (.aload_n 0, 0, 0)), (34, (.getfield 19, 3, 2)), (37, (.iload_n 2, 0, 0)), (38, (.iaload, 0, 0)), (39, (.iand, 0, 0)), (40, (.invokestatic 53, 289, 1)), (43, (.aload_n 0, 0, 0)), (44, (.getfield 9, 3, 0)), (47, (.iload_n 2, 0, 0)), (48, (.iaload, 0, 0)), (49, (.if_icmp .eq 5, 54, 0)), (52, (.iconst 0, 0, 0)), (53, (.ireturn, 1, 0)), (54, (.iinc 2 1, 0, 0)), (57, (.goto (-31), 26, 0)), (60, (.iconst 1, 0, 0)), (61, (.ireturn, 1, 0))]
/-- TypeAtNight$Mixing.<init>()V -/
def k_24 : List (Nat × tm_N) := [(0, (.aload_n 0, 0, 0)), (1, (.invokespecial 3, 0, 1000)), (4, (.aload_n 0, 0, 0)), (5, (.bipush 10, 0, 0)), (7, (.newarray .int, 0, 0)), (9, (.putfield 11, 4, 0)), (12, (.aload_n 0, 0, 0)), (13, (.bipush 10, 0, 0)), (15, (.newarray .int, 0, 0)), (17, (.putfield 15, 4, 1)), (20, (.aload_n 0, 0, 0)), (21, (.bipush 10, 0, 0)), (23, (.newarray .int, 0, 0)), (25, (.putfield 18, 4, 2)), (28, (.aload_n 0, 0, 0)), (29, (.bipush 19, 0, 0)), (31, (.newarray .int, 0, 0)), (33, (.putfield 21, 4, 3)), (36, (.aload_n 0, 0, 0)), (37, (.iconst 0, 0, 0)), (38, (.putfield 24, 4, 4)), (41, (.return_, 0, 0))]
/-- TypeAtNight$Mixing.size()I -/
def k_25 : List (Nat × tm_N) := [(0, (.aload_n 0, 0, 0)), (1, (.getfield 24, 4, 4)), (4, (.ireturn, 0, 0))]
/-- TypeAtNight$Mixing.see(III)I -/
def k_26 : List (Nat × tm_N) := [(0, (.aload_n 0, 0, 0)), (1, (.getfield 24, 4, 4)), (4, (.bipush 10, 0, 0)), (6, (.if_icmp .lt 5, 11, 0)), (9, (.iconst (-1), 0, 0)), (10, (.ireturn, 0, 0)), (11, (.aload_n 0, 0, 0)), (12, (.getfield 11, 4, 0)), (15, (.aload_n 0, 0, 0)), (16, (.getfield 24, 4, 4)), (19, (.iload_n 1, 0, 0)), (20, (.iastore, 0, 0)), (21, (.aload_n 0, 0, 0)), (22, (.getfield 15, 4, 1)), (25, (.aload_n 0, 0, 0)), (26, (.getfield 24, 4, 4)), (29, (.iload_n 2, 0, 0)), (30, (.iastore, 0, 0)), (31, (.aload_n 0, 0, 0)), (32, (.getfield 18, 4, 2)), (35, (.aload_n 0, 0, 0)), (36, (.getfield 24, 4, 4)), (39, (.iload_n 3, 0, 0)), (40, (.iastore, 0, 0)), (41, (.aload_n 0, 0, 0)), (42, (.dup, 0, 0)), (43, (.getfield 24, 4, 4)), (46, (.iconst 1, 0, 0)), (47, (.iadd, 0, 0)), (48, (.putfield 24, 4, 4)), (51, (.aload_n 0, 0, 0)), (52, (.getfield 24, 4, 4)), (55, (.ireturn, 0, 0))]
/-- TypeAtNight$Mixing.clear()I -/
def k_27 : List (Nat × tm_N) := [(0, (.aload_n 0, 0, 0)), (1, (.getfield 24, 4, 4)), (4, (.istore_n 1, 0, 0)), (5, (.aload_n 0, 0, 0)), (6, (.iconst 0, 0, 0)), (7, (.putfield 24, 4, 4)), (10, (.iload_n 1, 0, 0)), (11, (.ireturn, 0, 0))]
/-- TypeAtNight$Mixing.upperOf(I)I -/
def k_28 : List (Nat × tm_N) := [(0, (.iload_n 0, 0, 0)), (1, (.iconst 5, 0, 0)), (2, (.idiv, 0, 0)), (3, (.ireturn, 0, 0))]
/-- TypeAtNight$Mixing.lowerOf(I)I -/
def k_29 : List (Nat × tm_N) := [(0, (.iload_n 0, 0, 0)), (1, (.iconst 5, 0, 0)), (2, (.irem, 0, 0)), (3, (.iconst 1, 0, 0)), (4, (.iadd, 0, 0)), (5, (.ireturn, 0, 0))]
/-- TypeAtNight$Mixing.becomes(III)I -/
def k_30 : List (Nat × tm_N) := [(0, (.iload_n 1, 0, 0)), (1, (.iload_n 0, 0, 0)), (2, (.invokestatic 28, 28, 1)), (5, (.iload_n 2, 0, 0)), (6, (.iload_n 1, 0, 0)), (7, (.isub, 0, 0)), (8, (.imul, 0, 0)), (9, (.iload_n 0, 0, 0)), (10, (.invokestatic 32, 29, 1)), (13, (.idiv, 0, 0)), (14, (.iadd, 0, 0)), (15, (.invokestatic 35, 158, 1)), (18, (.ireturn, 0, 0))]
/-- TypeAtNight$Mixing.fitting()I -/
def k_31 : List (Nat × tm_N) := [(0, (.iconst 0, 0, 0)), (1, (.istore_n 1, 0, 0)), (2, (.iconst 0, 0, 0)), (3, (.istore_n 2, 0, 0)), (4, (.iload_n 2, 0, 0)), (5, (.bipush 30, 0, 0)), (7, (.if_icmp .ge 27, 34, 0)), (10, (.iload_n 1, 0, 0)), (11, (.aload_n 0, 0, 0)), (12, (.iload_n 2, 0, 0)), (13, (.invokevirtual 38, 32, 1)), (16, (.ifCond .eq 9, 25, 0)), (19, (.iconst 1, 0, 0)), (20, (.iload_n 2, 0, 0)), (21, (.ishl, 0, 0)), (22, (.goto 4, 26, 0)), (25, (.iconst 0, 0, 0)), (26, (.ior, 0, 0)), (27, (.istore_n 1, 0, 0)), (28, (.iinc 2 1, 0, 0)), (31, (.goto (-27), 4, 0)), (34, (.iload_n 1, 0, 0)), (35, (.ireturn, 0, 0))]
/-- TypeAtNight$Mixing.fitsAll(I)Z -/
def k_32 : List (Nat × tm_N) := [(0, (.iconst 0, 0, 0)), (1, (.istore_n 2, 0, 0)), (2, (.iload_n 2, 0, 0)), (3, (.aload_n 0, 0, 0)), (4, (.getfield 24, 4, 4)), (7, (.if_icmp .ge 36, 43, 0)), (10, (.iload_n 1, 0, 0)), (11, (.aload_n 0, 0, 0)), (12, (.getfield 11, 4, 0)), (15, (.iload_n 2, 0, 0)), (16, (.iaload, 0, 0)), (17, (.aload_n 0, 0, 0)), (18, (.getfield 15, 4, 1)), (21, (.iload_n 2, 0, 0)), (22, (.iaload, 0, 0)), (23, (.invokestatic 42, 30, 3)), (26, (.aload_n 0, 0, 0)), (27, (.getfield 18, 4, 2)), (30, (.iload_n 2, 0, 0)), (31, (.iaload, 0, 0)), (32, (.if_icmp .eq 5, 37, 0)), (35, (.iconst 0, 0, 0)), (36, (.ireturn, 1, 0)), (37, (.iinc 2 1, 0, 0)), (40, (.goto (-38), 2, 0)), (43, (.iconst 1, 0, 0)), (44, (.ireturn, 1, 0))]
/-- TypeAtNight$Mixing.leftAtMost(II)I -/
def k_33 : List (Nat × tm_N) := [(0, (.aload_n 0, 0, 0)), (1, (.getfield 21, 4, 3)), (4, (.iconst 0, 0, 0)), (5, (.invokestatic 46, 291, 2)), (8, (.iconst 0, 0, 0)), (9, (.istore_n 3, 0, 0)), (10, (.iconst 0, 0, 0)), (11, (.istore 4, 0, 0)), (13, (.iload 4, 0, 0)), (15, (.bipush 30, 0, 0)), (17, (.if_icmp .ge 66, 83, 0)), (20, (.iload_n 1, 0, 0)), (21, (.iload 4, 0, 0)), (23, (.ishr, 0, 0)), (24, (.iconst 1, 0, 0)), (25, (.iand, 0, 0)), (26, (.iconst 1, 0, 0)), (27, (.if_icmp .ne 50, 77, 0)), (30, (.iload 4, 0, 0)), (32, (.iload_n 2, 0, 0)), (33, (.bipush 19, 0, 0)), (35, (.idiv, 0, 0)), (36, (.bipush 9, 0, 0)), (38, (.isub, 0, 0)), (39, (.iload_n 2, 0, 0)), (40, (.bipush 19, 0, 0)), (42, (.irem, 0, 0)), (43, (.bipush 9, 0, 0)), (45, (.isub, 0, 0)), (46, (.invokestatic 42, 30, 3)), (49, (.bipush 9, 0, 0)), (51, (.iadd, 0, 0)), (52, (.istore 5, 0, 0)), (54, (.aload_n 0, 0, 0)), (55, (.getfield 21, 4, 3)), (58, (.iload 5, 0, 0)), (60, (.dup2, 0, 0)), (61, (.iaload, 0, 0)), (62, (.iconst 1, 0, 0)), (63, (.iadd, 0, 0)), (64, (.iastore, 0, 0)), (65, (.iload_n 3, 0, 0)), (66, (.aload_n 0, 0, 0)), (67, (.getfield 21, 4, 3)), (70, (.iload 5, 0, 0)), (72, (.iaload, 0, 0)), (73, (.invokestatic 52, 0, 1001)), (76, (.istore_n 3, 0, 0)), (77, (.iinc 4 1, 0, 0)), (80, (.goto (-67), 13, 0)), (83, (.iload_n 3, 0, 0)), (84, (.ireturn, 0, 0))]
/-- TypeAtNight$Mixing.bestLook(I)I -/
def k_34 : List (Nat × tm_N) := [(0, (.iconst 0, 0, 0)), (1, (.istore_n 2, 0, 0)), (2, (.bipush 31, 0, 0)), (4, (.istore_n 3, 0, 0)), (5, (.iconst 0, 0, 0)), (6, (.istore 4, 0, 0)), (8, (.iload 4, 0, 0)), (10, (.sipush 361, 0, 0)), (13, (.if_icmp .ge 30, 43, 0)), (16, (.aload_n 0, 0, 0)), (17, (.iload_n 1, 0, 0)), (18, (.iload 4, 0, 0)), (20, (.invokevirtual 58, 33, 2)), (23, (.istore 5, 0, 0)), (25, (.iload 5, 0, 0)), (27, (.iload_n 3, 0, 0)), (28, (.if_icmp .ge 9, 37, 0)), (31, (.iload 5, 0, 0)), (33, (.istore_n 3, 0, 0)), (34, (.iload 4, 0, 0)), (36, (.istore_n 2, 0, 0)), (37, (.iinc 4 1, 0, 0)), (40, (.goto (-32), 8, 0)), (43, (.iload_n 2, 0, 0)), (44, (.ireturn, 0, 0))]
/-- TypeAtNight$Numbers.<init>()V -/
def k_35 : List (Nat × tm_N) := [(0, (.aload_n 0, 0, 0)), (1, (.invokespecial 3, 0, 1000)), (4, (.aload_n 0, 0, 0)), (5, (.bipush 14, 0, 0)), (7, (.newarray .long, 0, 0)), (9, (.putfield 9, 5, 0)), (12, (.aload_n 0, 0, 0)), (13, (.iconst 0, 0, 0)), (14, (.putfield 15, 5, 1)), (17, (.return_, 0, 0))]
/-- TypeAtNight$Numbers.clear()V -/
def k_36 : List (Nat × tm_N) := [(0, (.aload_n 0, 0, 0)), (1, (.iconst 0, 0, 0)), (2, (.putfield 15, 5, 1)), (5, (.return_, 0, 0))]
/-- TypeAtNight$Numbers.add(J)V -/
def k_37 : List (Nat × tm_N) := [(0, (.aload_n 0, 0, 0)), (1, (.getfield 15, 5, 1)), (4, (.aload_n 0, 0, 0)), (5, (.getfield 9, 5, 0)), (8, (.arraylength, 0, 0)), (9, (.if_icmp .ge 23, 32, 0)), (12, (.aload_n 0, 0, 0)), (13, (.getfield 9, 5, 0)), (16, (.aload_n 0, 0, 0)), (17, (.getfield 15, 5, 1)), (20, (.lload_n 1, 0, 0)), (21, (.lastore, 0, 0)), (22, (.aload_n 0, 0, 0)), (23, (.dup, 0, 0)), (24, (.getfield 15, 5, 1)), (27, (.iconst 1, 0, 0)), (28, (.iadd, 0, 0)), (29, (.putfield 15, 5, 1)), (32, (.return_, 0, 0))]
/-- TypeAtNight$Numbers.tell(J)V -/
def k_38 : List (Nat × tm_N) := [(0, (.aload_n 0, 0, 0)), (1, (.invokevirtual 19, 36, 0)), (4, (.aload_n 0, 0, 0)), (5, (.lload_n 1, 0, 0)), (6, (.invokevirtual 22, 37, 1)), (9, (.return_, 0, 0))]
/-- TypeAtNight$Numbers.tell(JJ)V -/
def k_39 : List (Nat × tm_N) := [(0, (.aload_n 0, 0, 0)), (1, (.lload_n 1, 0, 0)), (2, (.invokevirtual 26, 38, 1)), (5, (.aload_n 0, 0, 0)), (6, (.lload_n 3, 0, 0)), (7, (.invokevirtual 22, 37, 1)), (10, (.return_, 0, 0))]
/-- TypeAtNight$Numbers.tell(JJJ)V -/
def k_40 : List (Nat × tm_N) := [(0, (.aload_n 0, 0, 0)), (1, (.lload_n 1, 0, 0)), (2, (.lload_n 3, 0, 0)), (3, (.invokevirtual 29, 39, 2)), (6, (.aload_n 0, 0, 0)), (7, (.lload 5, 0, 0)), (9, (.invokevirtual 22, 37, 1)), (12, (.return_, 0, 0))]
/-- TypeAtNight$Numbers.size()I -/
def k_41 : List (Nat × tm_N) := [(0, (.aload_n 0, 0, 0)), (1, (.getfield 15, 5, 1)), (4, (.ireturn, 0, 0))]
/-- TypeAtNight$Numbers.has(I)Z -/
def k_42 : List (Nat × tm_N) := [(0, (.iload_n 1, 0, 0)), (1, (.ifCond .lt 15, 16, 0)), (4, (.iload_n 1, 0, 0)), (5, (.aload_n 0, 0, 0)), (6, (.getfield 15, 5, 1)), (9, (.if_icmp .ge 7, 16, 0)), (12, (.iconst 1, 0, 0)), (13, (.goto 4, 17, 0)), (16, (.iconst 0, 0, 0)), (17, (.ireturn, 1, 0))]
/-- TypeAtNight$Numbers.at(I)J -/
def k_43 : List (Nat × tm_N) := [(0, (.aload_n 0, 0, 0)), (1, (.iload_n 1, 0, 0)), (2, (.invokevirtual 32, 42, 1)), (5, (.ifCond .eq 12, 17, 0)), (8, (.aload_n 0, 0, 0)), (9, (.getfield 9, 5, 0)), (12, (.iload_n 1, 0, 0)), (13, (.laload, 0, 0)), (14, (.goto 4, 18, 0)), (17, (.lconst 0, 0, 0)), (18, (.lreturn, 0, 0))]
/-- TypeAtNight$Past.<init>()V -/
def k_44 : List (Nat × tm_N) := [(0, (.aload_n 0, 0, 0)), (1, (.invokespecial 1, 0, 1000)), (4, (.aload_n 0, 0, 0)), (5, (.bipush 12, 0, 0)), (7, (.anewarray 9, 0, 0)), (10, (.putfield 11, 6, 0)), (13, (.aload_n 0, 0, 0)), (14, (.iconst 2, 0, 0)), (15, (.anewarray 9, 0, 0)), (18, (.putfield 15, 6, 1)), (21, (.aload_n 0, 0, 0)), (22, (.iconst 2, 0, 0)), (23, (.newarray .boolean, 0, 0)), (25, (.putfield 18, 6, 2)), (28, (.aload_n 0, 0, 0)), (29, (.iconst 0, 0, 0)), (30, (.putfield 22, 6, 3)), (33, (.aload_n 0, 0, 0)), (34, (.iconst 0, 0, 0)), (35, (.putfield 26, 6, 4)), (38, (.iconst 0, 0, 0)), (39, (.istore_n 1, 0, 0)), (40, (.iload_n 1, 0, 0)), (41, (.bipush 12, 0, 0)), (43, (.if_icmp .ge 22, 65, 0)), (46, (.aload_n 0, 0, 0)), (47, (.getfield 11, 6, 0)), (50, (.iload_n 1, 0, 0)), (51, (.new 9, 9, 0)), (54, (.dup, 0, 0)), (55, (.invokespecial 29, 75, 0)), (58, (.aastore, 9, 0)), (59, (.iinc 1 1, 0, 0)), (62, (.goto (-22), 40, 0)), (65, (.iconst 0, 0, 0)), (66, (.istore_n 1, 0, 0)), (67, (.iload_n 1, 0, 0)), (68, (.iconst 2, 0, 0)), (69, (.if_icmp .ge 22, 91, 0)), (72, (.aload_n 0, 0, 0)), (73, (.getfield 15, 6, 1)), (76, (.iload_n 1, 0, 0)), (77, (.new 9, 9, 0)), (80, (.dup, 0, 0)), (81, (.invokespecial 29, 75, 0)), (84, (.aastore, 9, 0)), (85, (.iinc 1 1, 0, 0)), (88, (.goto (-21), 67, 0)), (91, (.return_, 0, 0))]
/-- TypeAtNight$Past.size()I -/
def k_45 : List (Nat × tm_N) := [(0, (.aload_n 0, 0, 0)), (1, (.getfield 22, 6, 3)), (4, (.ireturn, 0, 0))]
/-- TypeAtNight$Past.clear()V -/
def k_46 : List (Nat × tm_N) := [(0, (.aload_n 0, 0, 0)), (1, (.iconst 0, 0, 0)), (2, (.putfield 22, 6, 3)), (5, (.return_, 0, 0))]
/-- TypeAtNight$Past.push(LTypeAtNight$TypeCase;)V -/
def k_47 : List (Nat × tm_N) := [(0, (.aload_n 0, 0, 0)), (1, (.getfield 11, 6, 0)), (4, (.aload_n 0, 0, 0)), (5, (.getfield 26, 6, 4)), (8, (.aaload, 0, 0)), (9, (.aload_n 1, 0, 0)), (10, (.invokevirtual 30, 76, 1)), (13, (.aload_n 0, 0, 0)), (14, (.aload_n 0, 0, 0)), (15, (.getfield 26, 6, 4)), (18, (.iconst 1, 0, 0)), (19, (.iadd, 0, 0)), (20, (.bipush 12, 0, 0)), (22, (.irem, 0, 0)), (23, (.putfield 26, 6, 4)), (26, (.aload_n 0, 0, 0)), (27, (.bipush 12, 0, 0)), (29, (.aload_n 0, 0, 0)), (30, (.getfield 22, 6, 3)), (33, (.iconst 1, 0, 0)), (34, (.iadd, 0, 0)), (35, (.invokestatic 34, 0, 1002)), (38, (.putfield 22, 6, 3)), (41, (.return_, 0, 0))]
/-- TypeAtNight$Past.pop(LTypeAtNight$TypeCase;)Z -/
def k_48 : List (Nat × tm_N) := [(0, (.aload_n 0, 0, 0)), (1, (.getfield 22, 6, 3)), (4, (.ifCond .ne 5, 9, 0)), (7, (.iconst 0, 0, 0)), (8, (.ireturn, 1, 0)), (9, (.aload_n 0, 0, 0)), (10, (.aload_n 0, 0, 0)), (11, (.getfield 26, 6, 4)), (14, (.bipush 12, 0, 0)), (16, (.iadd, 0, 0)), (17, (.iconst 1, 0, 0)), (18, (.isub, 0, 0)), (19, (.bipush 12, 0, 0)), (21, (.irem, 0, 0)), (22, (.putfield 26, 6, 4)), (25, (.aload_n 0, 0, 0)), (26, (.dup, 0, 0)), (27, (.getfield 22, 6, 3)), (30, (.iconst 1, 0, 0)), (31, (.isub, 0, 0)), (32, (.putfield 22, 6, 3)), (35, (.aload_n 1, 0, 0)), (36, (.aload_n 0, 0, 0)), (37, (.getfield 11, 6, 0)), (40, (.aload_n 0, 0, 0)), (41, (.getfield 26, 6, 4)), (44, (.aaload, 0, 0)), (45, (.invokevirtual 30, 76, 1)), (48, (.iconst 1, 0, 0)), (49, (.ireturn, 1, 0))]
/-- TypeAtNight$Past.keepUnder(ILTypeAtNight$TypeCase;)Z -/
def k_49 : List (Nat × tm_N) := [(0, (.iload_n 1, 0, 0)), (1, (.ifCond .lt 8, 9, 0)), (4, (.iload_n 1, 0, 0)), (5, (.iconst 2, 0, 0)), (6, (.if_icmp .lt 5, 11, 0)), (9, (.iconst 0, 0, 0)), (10, (.ireturn, 1, 0)), (11, (.aload_n 0, 0, 0)), (12, (.getfield 15, 6, 1)), (15, (.iload_n 1, 0, 0)), (16, (.aaload, 0, 0)), (17, (.aload_n 2, 0, 0)), (18, (.invokevirtual 30, 76, 1)), (21, (.aload_n 0, 0, 0)), (22, (.getfield 18, 6, 2)), (25, (.iload_n 1, 0, 0)), (26, (.iconst 1, 0, 0)), (27, (.bastore, 0, 0)), (28, (.iconst 1, 0, 0)), (29, (.ireturn, 1, 0))]
/-- TypeAtNight$Past.bringBack(ILTypeAtNight$TypeCase;)Z -/
def k_50 : List (Nat × tm_N) := [(0, (.iload_n 1, 0, 0)), (1, (.ifCond .lt 33, 34, 0)), (4, (.iload_n 1, 0, 0)), (5, (.iconst 2, 0, 0)), (6, (.if_icmp .ge 28, 34, 0)), (9, (.aload_n 0, 0, 0)), (10, (.getfield 18, 6, 2)), (13, (.iload_n 1, 0, 0)), (14, (.baload, 0, 0)), (15, (.ifCond .eq 19, 34, 0)), (18, (.aload_n 0, 0, 0)), (19, (.getfield 15, 6, 1)), (22, (.iload_n 1, 0, 0)), (23, (.aaload, 0, 0)), (24, (.getfield 40, 9, 4)), (27, (.aload_n 2, 0, 0)), (28, (.getfield 40, 9, 4)), (31, (.if_icmp .eq 5, 36, 0)), (34, (.iconst 0, 0, 0)), (35, (.ireturn, 1, 0)), (36, (.aload_n 2, 0, 0)), (37, (.aload_n 0, 0, 0)), (38, (.getfield 15, 6, 1)), (41, (.iload_n 1, 0, 0)), (42, (.aaload, 0, 0)), (43, (.invokevirtual 30, 76, 1)), (46, (.aload_n 0, 0, 0)), (47, (.invokevirtual 41, 46, 0)), (50, (.iconst 1, 0, 0)), (51, (.ireturn, 1, 0))]
/-- TypeAtNight$Rule.<init>()V -/
def k_51 : List (Nat × tm_N) := [(0, (.aload_n 0, 0, 0)), (1, (.invokespecial 3, 0, 1000)), (4, (.aload_n 0, 0, 0)), (5, (.bipush 7, 0, 0)), (7, (.newarray .int, 0, 0)), (9, (.putfield 9, 7, 0)), (12, (.aload_n 0, 0, 0)), (13, (.bipush 40, 0, 0)), (15, (.newarray .int, 0, 0)), (17, (.putfield 15, 7, 1)), (20, (.aload_n 0, 0, 0)), (21, (.bipush 40, 0, 0)), (23, (.newarray .int, 0, 0)), (25, (.putfield 18, 7, 2)), (28, (.aload_n 0, 0, 0)), (29, (.iconst 0, 0, 0)), (30, (.putfield 21, 7, 3)), (33, (.aload_n 0, 0, 0)), (34, (.iconst 0, 0, 0)), (35, (.putfield 25, 7, 4)), (38, (.aload_n 0, 0, 0)), (39, (.iconst 0, 0, 0)), (40, (.putfield 29, 7, 5)), (43, (.aload_n 0, 0, 0)), (44, (.iconst 0, 0, 0)), (45, (.putfield 32, 7, 6)), (48, (.aload_n 0, 0, 0)), (49, (.invokevirtual 35, 54, 0)), (52, (.return_, 0, 0))]
/-- TypeAtNight$Rule.looksAtNight()Z -/
def k_52 : List (Nat × tm_N) := [(0, (.aload_n 0, 0, 0)), (1, (.getfield 25, 7, 4)), (4, (.ireturn, 1, 0))]
/-- TypeAtNight$Rule.read(LTypeAtNight$Text;)I -/
def k_53 : List (Nat × tm_N) := [(0, (.aload_n 0, 0, 0)), (1, (.iconst 0, 0, 0)), (2, (.putfield 21, 7, 3)), (5, (.aload_n 0, 0, 0)), (6, (.iconst 0, 0, 0)), (7, (.putfield 25, 7, 4)), (10, (.aload_n 0, 0, 0)), (11, (.iconst 0, 0, 0)), (12, (.putfield 29, 7, 5)), (15, (.aload_n 0, 0, 0)), (16, (.aload_n 1, 0, 0)), (17, (.invokevirtual 38, 67, 0)), (20, (.bipush 40, 0, 0)), (22, (.invokestatic 43, 0, 1002)), (25, (.putfield 32, 7, 6)), (28, (.aload_n 0, 0, 0)), (29, (.getfield 32, 7, 6)), (32, (.ifCond .ne 9, 41, 0)), (35, (.aload_n 0, 0, 0)), (36, (.invokevirtual 35, 54, 0)), (39, (.iconst (-1), 0, 0)), (40, (.ireturn, 0, 0)), (41, (.aload_n 0, 0, 0)), (42, (.aload_n 1, 0, 0)), (43, (.iconst 1, 0, 0)), (44, (.iconst 0, 0, 0)), (45, (.invokevirtual 49, 57, 3)), (48, (.ifCond .eq 14, 62, 0)), (51, (.aload_n 0, 0, 0)), (52, (.getfield 29, 7, 5)), (55, (.aload_n 0, 0, 0)), (56, (.getfield 32, 7, 6)), (59, (.if_icmp .ge 8, 67, 0)), (62, (.aload_n 0, 0, 0)), (63, (.getfield 29, 7, 5)), (66, (.ireturn, 0, 0)), (67, (.aload_n 1, 0, 0)), (68, (.invokevirtual 38, 67, 0)), (71, (.aload_n 0, 0, 0)), (72, (.getfield 32, 7, 6)), (75, (.if_icmp .le 10, 85, 0)), (78, (.aload_n 0, 0, 0)), (79, (.getfield 32, 7, 6)), (82, (.goto 4, 86, 0)), (85, (.iconst (-1), 0, 0)), (86, (.ireturn, 0, 0))]
/-- TypeAtNight$Rule.putFirstRule()V -/
def k_54 : List (Nat × tm_N) := [(0, (.aload_n 0, 0, 0)), (1, (.iconst 4, 0, 0)), (2, (.invokevirtual 53, 56, 1)), (5, (.aload_n 0, 0, 0)), (6, (.iconst 3, 0, 0)), (7, (.invokevirtual 53, 56, 1)), (10, (.aload_n 0, 0, 0)), (11, (.sipush 1054, 0, 0)), (14, (.invokevirtual 57, 55, 1)), (17, (.aload_n 0, 0, 0)), (18, (.iconst 0, 0, 0)), (19, (.invokevirtual 53, 56, 1)), (22, (.aload_n 0, 0, 0)), (23, (.sipush 1052, 0, 0)), (26, (.invokevirtual 57, 55, 1)), (29, (.aload_n 0, 0, 0)), (30, (.iconst 2, 0, 0)), (31, (.invokevirtual 57, 55, 1)), (34, (.aload_n 0, 0, 0)), (35, (.sipush 1054, 0, 0)), (38, (.invokevirtual 57, 55, 1)), (41, (.return_, 0, 0))]
/-- TypeAtNight$Rule.put(I)V -/
def k_55 : List (Nat × tm_N) := [(0, (.aload_n 0, 0, 0)), (1, (.getfield 21, 7, 3)), (4, (.aload_n 0, 0, 0)), (5, (.getfield 15, 7, 1)), (8, (.arraylength, 0, 0)), (9, (.if_icmp .ge 23, 32, 0)), (12, (.aload_n 0, 0, 0)), (13, (.getfield 15, 7, 1)), (16, (.aload_n 0, 0, 0)), (17, (.getfield 21, 7, 3)), (20, (.iload_n 1, 0, 0)), (21, (.iastore, 0, 0)), (22, (.aload_n 0, 0, 0)), (23, (.dup, 0, 0)), (24, (.getfield 21, 7, 3)), (27, (.iconst 1, 0, 0)), (28, (.iadd, 0, 0)), (29, (.putfield 21, 7, 3)), (32, (.return_, 0, 0))]
/-- TypeAtNight$Rule.putThing(I)V -/
def k_56 : List (Nat × tm_N) := [(0, (.aload_n 0, 0, 0)), (1, (.sipush 1000, 0, 0)), (4, (.iload_n 1, 0, 0)), (5, (.iadd, 0, 0)), (6, (.invokevirtual 57, 55, 1)), (9, (.aload_n 0, 0, 0)), (10, (.dup, 0, 0)), (11, (.getfield 25, 7, 4)), (14, (.iload_n 1, 0, 0)), (15, (.bipush 6, 0, 0)), (17, (.if_icmp .ne 7, 24, 0)), (20, (.iconst 1, 0, 0)), (21, (.goto 4, 25, 0)), (24, (.iconst 0, 0, 0)), (25, (.ior, 0, 0)), (26, (.putfield 25, 7, 4)), (29, (.return_, 0, 0))]
/-- TypeAtNight$Rule.readJoined(LTypeAtNight$Text;II)Z -/
def k_57 : List (Nat × tm_N) := [(0, (.iload_n 2, 0, 0)), (1, (.iconst 4, 0, 0)), (2, (.if_icmp .gt 17, 19, 0)), (5, (.iload_n 3, 0, 0)), (6, (.iconst 4, 0, 0)), (7, (.if_icmp .gt 12, 19, 0)), (10, (.aload_n 0, 0, 0)), (11, (.aload_n 1, 0, 0)), (12, (.iload_n 3, 0, 0)), (13, (.invokevirtual 60, 59, 2)), (16, (.ifCond .ne 5, 21, 0)), (19, (.iconst 0, 0, 0)), (20, (.ireturn, 1, 0)), (21, (.iconst 0, 0, 0)), (22, (.istore 4, 0, 0)), (24, (.iconst 0, 0, 0)), (25, (.istore 5, 0, 0)), (27, (.iload 5, 0, 0)), (29, (.bipush 40, 0, 0)), (31, (.if_icmp .ge 107, 138, 0)), (34, (.aload_n 0, 0, 0)), (35, (.getfield 29, 7, 5)), (38, (.aload_n 0, 0, 0)), (39, (.getfield 32, 7, 6)), (42, (.if_icmp .ge 96, 138, 0)), (45, (.aload_n 1, 0, 0)), (46, (.aload_n 0, 0, 0)), (47, (.getfield 29, 7, 5)), (50, (.invokevirtual 64, 68, 1)), (53, (.istore 6, 0, 0)), (55, (.iload 6, 0, 0)), (57, (.invokestatic 67, 58, 1)), (60, (.istore 7, 0, 0)), (62, (.iload 7, 0, 0)), (64, (.iload_n 2, 0, 0)), (65, (.if_icmp .lt 14, 79, 0)), (68, (.iload 7, 0, 0)), (70, (.iconst 1, 0, 0)), (71, (.if_icmp .ne 10, 81, 0)), (74, (.iload 4, 0, 0)), (76, (.ifCond .eq 5, 81, 0)), (79, (.iconst 1, 0, 0)), (80, (.ireturn, 1, 0)), (81, (.aload_n 0, 0, 0)), (82, (.dup, 0, 0)), (83, (.getfield 29, 7, 5)), (86, (.iconst 1, 0, 0)), (87, (.iadd, 0, 0)), (88, (.putfield 29, 7, 5)), (91, (.aload_n 0, 0, 0)), (92, (.aload_n 1, 0, 0)), (93, (.iload 7, 0, 0)), (95, (.iconst 1, 0, 0)), (96, (.iadd, 0, 0)), (97, (.iload_n 3, 0, 0)), (98, (.invokevirtual 49, 57, 3)), (101, (.ifCond .ne 5, 106, 0)), (104, (.iconst 0, 0, 0)), (105, (.ireturn, 1, 0)), (106, (.aload_n 0, 0, 0)), (107, (.sipush 1007, 0, 0)), (110, (.iload 6, 0, 0)), (112, (.iadd, 0, 0)), (113, (.invokevirtual 57, 55, 1)), (116, (.iload 4, 0, 0)), (118, (.iload 7, 0, 0)), (120, (.iconst 1, 0, 0)), (121, (.if_icmp .ne 7, 128, 0)), (124, (.iconst 1, 0, 0)), (125, (.goto 4, 129, 0)), (128, (.iconst 0, 0, 0)), (129, (.ior, 0, 0)), (130, (.istore 4, 0, 0)), (132, (.iinc 5 1, 0, 0)), (135, (.goto (-108), 27, 0)), (138, (.iconst 1, 0, 0)), (139, (.ireturn, 1, 0))]
/-- TypeAtNight$Rule.bindingOf(I)I -/
def k_58 : List (Nat × tm_N) := [(0, (.iload_n 0, 0, 0)), (1, (.tableswitch 105 42 62 #[103, 101, 105, 101, 105, 103, 105, 105, 105, 105, 105, 105, 105, 105, 105, 105, 105, 105, 99, 99, 99], 0, 0)), (100, (.iconst 1, 0, 0)), (101, (.ireturn, 0, 0)), (102, (.iconst 2, 0, 0)), (103, (.ireturn, 0, 0)), (104, (.iconst 3, 0, 0)), (105, (.ireturn, 0, 0)), (106, (.iconst 0, 0, 0)), (107, (.ireturn, 0, 0))]
/-- TypeAtNight$Rule.readThing(LTypeAtNight$Text;I)Z -/
def k_59 : List (Nat × tm_N) := [(0, (.iconst 0, 0, 0)), (1, (.istore_n 3, 0, 0)), (2, (.aload_n 0, 0, 0)), (3, (.getfield 29, 7, 5)), (6, (.aload_n 0, 0, 0)), (7, (.getfield 32, 7, 6)), (10, (.if_icmp .ge 39, 49, 0)), (13, (.aload_n 1, 0, 0)), (14, (.aload_n 0, 0, 0)), (15, (.getfield 29, 7, 5)), (18, (.invokevirtual 64, 68, 1)), (21, (.bipush 45, 0, 0)), (23, (.if_icmp .ne 26, 49, 0)), (26, (.iload_n 3, 0, 0)), (27, (.ifCond .ne 7, 34, 0)), (30, (.iconst 1, 0, 0)), (31, (.goto 4, 35, 0)), (34, (.iconst 0, 0, 0)), (35, (.istore_n 3, 0, 0)), (36, (.aload_n 0, 0, 0)), (37, (.dup, 0, 0)), (38, (.getfield 29, 7, 5)), (41, (.iconst 1, 0, 0)), (42, (.iadd, 0, 0)), (43, (.putfield 29, 7, 5)), (46, (.goto (-44), 2, 0)), (49, (.aload_n 0, 0, 0)), (50, (.getfield 29, 7, 5)), (53, (.aload_n 0, 0, 0)), (54, (.getfield 32, 7, 6)), (57, (.if_icmp .lt 5, 62, 0)), (60, (.iconst 0, 0, 0)), (61, (.ireturn, 1, 0)), (62, (.aload_n 1, 0, 0)), (63, (.aload_n 0, 0, 0)), (64, (.getfield 29, 7, 5)), (67, (.invokevirtual 64, 68, 1)), (70, (.istore 4, 0, 0)), (72, (.ldc 70, 1, 1)), (74, (.iload 4, 0, 0)), (76, (.i2c, 0, 0)), (77, (.invokevirtual 72, 1003, 1)), (80, (.istore 5, 0, 0)), (82, (.iload 5, 0, 0)), (84, (.ifCond .lt 22, 106, 0)), (87, (.aload_n 0, 0, 0)), (88, (.dup, 0, 0)), (89, (.getfield 29, 7, 5)), (92, (.iconst 1, 0, 0)), (93, (.iadd, 0, 0)), (94, (.putfield 29, 7, 5)), (97, (.aload_n 0, 0, 0)), (98, (.iload 5, 0, 0)), (100, (.invokevirtual 53, 56, 1)), (103, (.goto 39, 142, 0)), (106, (.bipush 100, 0, 0)), (108, (.iload 4, 0, 0)), (110, (.invokestatic 77, 74, 2)), (113, (.ifCond .eq 11, 124, 0)), (116, (.aload_n 0, 0, 0)), (117, (.aload_n 1, 0, 0)), (118, (.invokevirtual 81, 60, 1)), (121, (.goto 21, 142, 0)), (124, (.iload 4, 0, 0)), (126, (.bipush 40, 0, 0)), (128, (.if_icmp .ne 12, 140, 0)), (131, (.aload_n 0, 0, 0)), (132, (.aload_n 1, 0, 0)), (133, (.iload_n 2, 0, 0)), (134, (.invokevirtual 85, 61, 2)), (137, (.ifCond .ne 5, 142, 0)), (140, (.iconst 0, 0, 0)), (141, (.ireturn, 1, 0)), (142, (.iload_n 3, 0, 0)), (143, (.ifCond .eq 10, 153, 0)), (146, (.aload_n 0, 0, 0)), (147, (.sipush 2000, 0, 0)), (150, (.invokevirtual 57, 55, 1)), (153, (.iconst 1, 0, 0)), (154, (.ireturn, 1, 0))]
/-- TypeAtNight$Rule.readNumber(LTypeAtNight$Text;)V -/
def k_60 : List (Nat × tm_N) := [(0, (.iconst 0, 0, 0)), (1, (.istore_n 2, 0, 0)), (2, (.aload_n 0, 0, 0)), (3, (.getfield 32, 7, 6)), (6, (.aload_n 0, 0, 0)), (7, (.getfield 29, 7, 5)), (10, (.iconst 3, 0, 0)), (11, (.iadd, 0, 0)), (12, (.invokestatic 43, 0, 1002)), (15, (.istore_n 3, 0, 0)), (16, (.aload_n 0, 0, 0)), (17, (.getfield 29, 7, 5)), (20, (.iload_n 3, 0, 0)), (21, (.if_icmp .ge 46, 67, 0)), (24, (.bipush 100, 0, 0)), (26, (.aload_n 1, 0, 0)), (27, (.aload_n 0, 0, 0)), (28, (.getfield 29, 7, 5)), (31, (.invokevirtual 64, 68, 1)), (34, (.invokestatic 77, 74, 2)), (37, (.ifCond .eq 30, 67, 0)), (40, (.bipush 10, 0, 0)), (42, (.iload_n 2, 0, 0)), (43, (.imul, 0, 0)), (44, (.aload_n 1, 0, 0)), (45, (.aload_n 0, 0, 0)), (46, (.getfield 29, 7, 5)), (49, (.invokevirtual 88, 70, 1)), (52, (.iadd, 0, 0)), (53, (.istore_n 2, 0, 0)), (54, (.aload_n 0, 0, 0)), (55, (.dup, 0, 0)), (56, (.getfield 29, 7, 5)), (59, (.iconst 1, 0, 0)), (60, (.iadd, 0, 0)), (61, (.putfield 29, 7, 5)), (64, (.goto (-48), 16, 0)), (67, (.aload_n 0, 0, 0)), (68, (.iload_n 2, 0, 0)), (69, (.invokevirtual 57, 55, 1)), (72, (.return_, 0, 0))]
/-- TypeAtNight$Rule.readInner(LTypeAtNight$Text;I)Z -/
def k_61 : List (Nat × tm_N) := [(0, (.iload_n 2, 0, 0)), (1, (.iconst 4, 0, 0)), (2, (.if_icmp .lt 5, 7, 0)), (5, (.iconst 0, 0, 0)), (6, (.ireturn, 1, 0)), (7, (.aload_n 0, 0, 0)), (8, (.dup, 0, 0)), (9, (.getfield 29, 7, 5)), (12, (.iconst 1, 0, 0)), (13, (.iadd, 0, 0)), (14, (.putfield 29, 7, 5)), (17, (.aload_n 0, 0, 0)), (18, (.aload_n 1, 0, 0)), (19, (.iconst 1, 0, 0)), (20, (.iload_n 2, 0, 0)), (21, (.iconst 1, 0, 0)), (22, (.iadd, 0, 0)), (23, (.invokevirtual 49, 57, 3)), (26, (.ifCond .eq 27, 53, 0)), (29, (.aload_n 0, 0, 0)), (30, (.getfield 29, 7, 5)), (33, (.aload_n 0, 0, 0)), (34, (.getfield 32, 7, 6)), (37, (.if_icmp .ge 16, 53, 0)), (40, (.aload_n 1, 0, 0)), (41, (.aload_n 0, 0, 0)), (42, (.getfield 29, 7, 5)), (45, (.invokevirtual 64, 68, 1)), (48, (.bipush 41, 0, 0)), (50, (.if_icmp .eq 5, 55, 0)), (53, (.iconst 0, 0, 0)), (54, (.ireturn, 1, 0)), (55, (.aload_n 0, 0, 0)), (56, (.dup, 0, 0)), (57, (.getfield 29, 7, 5)), (60, (.iconst 1, 0, 0)), (61, (.iadd, 0, 0)), (62, (.putfield 29, 7, 5)), (65, (.iconst 1, 0, 0)), (66, (.ireturn, 1, 0))]
/-- TypeAtNight$Rule.value()I -/
def k_62 : List (Nat × tm_N) := [(0, (.iconst 0, 0, 0)), (1, (.istore_n 1, 0, 0)), (2, (.iconst 0, 0, 0)), (3, (.istore_n 2, 0, 0)), (4, (.iload_n 2, 0, 0)), (5, (.aload_n 0, 0, 0)), (6, (.getfield 21, 7, 3)), (9, (.if_icmp .ge 324, 333, 0)), (12, (.aload_n 0, 0, 0)), (13, (.getfield 15, 7, 1)), (16, (.iload_n 2, 0, 0)), (17, (.iaload, 0, 0)), (18, (.istore_n 3, 0, 0)), (19, (.iload_n 3, 0, 0)), (20, (.sipush 1007, 0, 0)), (23, (.if_icmp .ge 45, 68, 0)), (26, (.iload_n 1, 0, 0)), (27, (.aload_n 0, 0, 0)), (28, (.getfield 18, 7, 2)), (31, (.arraylength, 0, 0)), (32, (.if_icmp .ge 295, 327, 0)), (35, (.aload_n 0, 0, 0)), (36, (.getfield 18, 7, 2)), (39, (.iload_n 1, 0, 0)), (40, (.iload_n 3, 0, 0)), (41, (.sipush 1000, 0, 0)), (44, (.if_icmp .ge 7, 51, 0)), (47, (.iload_n 3, 0, 0)), (48, (.goto 13, 61, 0)), (51, (.aload_n 0, 0, 0)), (52, (.getfield 9, 7, 0)), (55, (.iload_n 3, 0, 0)), (56, (.sipush 1000, 0, 0)), (59, (.isub, 0, 0)), (60, (.iaload, 0, 0)), (61, (.iastore, 0, 0)), (62, (.iinc 1 1, 0, 0)), (65, (.goto 262, 327, 0)), (68, (.iload_n 3, 0, 0)), (69, (.sipush 2000, 0, 0)), (72, (.if_icmp .ne 27, 99, 0)), (75, (.iload_n 1, 0, 0)), (76, (.ifCond .le 251, 327, 0)), (79, (.aload_n 0, 0, 0)), (80, (.getfield 18, 7, 2)), (83, (.iload_n 1, 0, 0)), (84, (.iconst 1, 0, 0)), (85, (.isub, 0, 0)), (86, (.aload_n 0, 0, 0)), (87, (.getfield 18, 7, 2)), (90, (.iload_n 1, 0, 0)), (91, (.iconst 1, 0, 0)), (92, (.isub, 0, 0)), (93, (.iaload, 0, 0)), (94, (.ineg, 0, 0)), (95, (.iastore, 0, 0)), (96, (.goto 231, 327, 0)), (99, (.iload_n 1, 0, 0)), (100, (.iconst 1, 0, 0)), (101, (.if_icmp .le 226, 327, 0)), (104, (.iinc 1 (-1), 0, 0)), (107, (.aload_n 0, 0, 0)), (108, (.getfield 18, 7, 2)), (111, (.iload_n 1, 0, 0)), (112, (.iconst 1, 0, 0)), (113, (.isub, 0, 0)), (114, (.iaload, 0, 0)), (115, (.istore 4, 0, 0)), (117, (.aload_n 0, 0, 0)), (118, (.getfield 18, 7, 2)), (121, (.iload_n 1, 0, 0)), (122, (.iaload, 0, 0)), (123, (.istore 5, 0, 0)), (125, (.iload_n 3, 0, 0)), (126, (.sipush 1007, 0, 0)), (129, (.isub, 0, 0)), (130, (.lookupswitch 177 #[(42, 90), (43, 58), (45, 74), (47, 106), (60, 131), (62, 154)], 0, 0)), (188, (.aload_n 0, 0, 0)), (189, (.getfield 18, 7, 2)), (192, (.iload_n 1, 0, 0)), (193, (.iconst 1, 0, 0)), (194, (.isub, 0, 0)), (195, (.iload 4, 0, 0)), (197, (.iload 5, 0, 0)), (199, (.iadd, 0, 0)), (200, (.iastore, 0, 0)), (201, (.goto 126, 327, 0)), (204, (.aload_n 0, 0, 0)), (205, (.getfield 18, 7, 2)), (208, (.iload_n 1, 0, 0)), (209, (.iconst 1, 0, 0)), (210, (.isub, 0, 0)), (211, (.iload 4, 0, 0)), (213, (.iload 5, 0, 0)), (215, (.isub, 0, 0)), (216, (.iastore, 0, 0)), (217, (.goto 110, 327, 0)), (220, (.aload_n 0, 0, 0)), (221, (.getfield 18, 7, 2)), (224, (.iload_n 1, 0, 0)), (225, (.iconst 1, 0, 0)), (226, (.isub, 0, 0)), (227, (.iload 4, 0, 0)), (229, (.iload 5, 0, 0)), (231, (.imul, 0, 0)), (232, (.iastore, 0, 0)), (233, (.goto 94, 327, 0)), (236, (.aload_n 0, 0, 0)), (237, (.getfield 18, 7, 2)), (240, (.iload_n 1, 0, 0)), (241, (.iconst 1, 0, 0)), (242, (.isub, 0, 0)), (243, (.iload 5, 0, 0)), (245, (.ifCond .ne 7, 252, 0)), (248, (.iconst 0, 0, 0)), (249, (.goto 8, 257, 0)), (252, (.iload 4, 0, 0)), (254, (.iload 5, 0, 0)), (256, (.idiv, 0, 0)), (257, (.iastore, 0, 0)), (258, (.goto 69, 327, 0)), (261, (.aload_n 0, 0, 0)), (262, (.getfield 18, 7, 2)), (265, (.iload_n 1, 0, 0)), (266, (.iconst 1, 0, 0)), (267, (.isub, 0, 0)), (268, (.iload 4, 0, 0)), (270, (.iload 5, 0, 0)), (272, (.if_icmp .ge 7, 279, 0)), (275, (.iconst 1, 0, 0)), (276, (.goto 4, 280, 0)), (279, (.iconst 0, 0, 0)), (280, (.iastore, 0, 0)), (281, (.goto 46, 327, 0)), (284, (.aload_n 0, 0, 0)), (285, (.getfield 18, 7, 2)), (288, (.iload_n 1, 0, 0)), (289, (.iconst 1, 0, 0)), (290, (.isub, 0, 0)), (291, (.iload 4, 0, 0)), (293, (.iload 5, 0, 0)), (295, (.if_icmp .le 7, 302, 0)), (298, (.iconst 1, 0, 0)), (299, (.goto 4, 303, 0)), (302, (.iconst 0, 0, 0)), (303, (.iastore, 0, 0)), (304, (.goto 23, 327, 0)), (307, (.aload_n 0, 0, 0)), (308, (.getfield 18, 7, 2)), (311, (.iload_n 1, 0, 0)), (312, (.iconst 1, 0, 0)), (313, (.isub, 0, 0)), (314, (.iload 4, 0, 0)), (316, (.iload 5, 0, 0)), (318, (.if_icmp .ne 7, 325, 0)), (321, (.iconst 1, 0, 0)), (322, (.goto 4, 326, 0)), (325, (.iconst 0, 0, 0)), (326, (.iastore, 0, 0)), (327, (.iinc 2 1, 0, 0)), (330, (.goto (-326), 4, 0)), (333, (.aload_n 0, 0, 0)), (334, (.getfield 18, 7, 2)), (337, (.iconst 0, 0, 0)), (338, (.iaload, 0, 0)), (339, (.ireturn, 0, 0))]
/-- TypeAtNight$Text.<init>()V -/
def k_63 : List (Nat × tm_N) := [(0, (.aload_n 0, 0, 0)), (1, (.invokespecial 3, 0, 1000)), (4, (.aload_n 0, 0, 0)), (5, (.bipush 80, 0, 0)), (7, (.newarray .char, 0, 0)), (9, (.putfield 9, 8, 0)), (12, (.aload_n 0, 0, 0)), (13, (.iconst 0, 0, 0)), (14, (.putfield 15, 8, 1)), (17, (.return_, 0, 0))]
/-- TypeAtNight$Text.append(I)I -/
def k_64 : List (Nat × tm_N) := [(0, (.aload_n 0, 0, 0)), (1, (.getfield 15, 8, 1)), (4, (.bipush 76, 0, 0)), (6, (.if_icmp .le 5, 11, 0)), (9, (.iconst (-1), 0, 0)), (10, (.ireturn, 0, 0)), (11, (.bipush 24, 0, 0)), (13, (.istore_n 2, 0, 0)), (14, (.iload_n 2, 0, 0)), (15, (.ifCond .lt 36, 51, 0)), (18, (.aload_n 0, 0, 0)), (19, (.getfield 9, 8, 0)), (22, (.aload_n 0, 0, 0)), (23, (.getfield 15, 8, 1)), (26, (.iload_n 1, 0, 0)), (27, (.iload_n 2, 0, 0)), (28, (.iushr, 0, 0)), (29, (.sipush 255, 0, 0)), (32, (.iand, 0, 0)), (33, (.i2c, 0, 0)), (34, (.castore, 0, 0)), (35, (.aload_n 0, 0, 0)), (36, (.dup, 0, 0)), (37, (.getfield 15, 8, 1)), (40, (.iconst 1, 0, 0)), (41, (.iadd, 0, 0)), (42, (.putfield 15, 8, 1)), (45, (.iinc 2 (-8), 0, 0)), (48, (.goto (-34), 14, 0)), (51, (.aload_n 0, 0, 0)), (52, (.getfield 15, 8, 1)), (55, (.ireturn, 0, 0))]
/-- TypeAtNight$Text.cut(I)Z -/
def k_65 : List (Nat × tm_N) := [(0, (.iload_n 1, 0, 0)), (1, (.ifCond .lt 11, 12, 0)), (4, (.iload_n 1, 0, 0)), (5, (.aload_n 0, 0, 0)), (6, (.getfield 15, 8, 1)), (9, (.if_icmp .le 5, 14, 0)), (12, (.iconst 0, 0, 0)), (13, (.ireturn, 1, 0)), (14, (.aload_n 0, 0, 0)), (15, (.iload_n 1, 0, 0)), (16, (.putfield 15, 8, 1)), (19, (.iconst 1, 0, 0)), (20, (.ireturn, 1, 0))]
/-- TypeAtNight$Text.clear()V -/
def k_66 : List (Nat × tm_N) := [(0, (.aload_n 0, 0, 0)), (1, (.iconst 0, 0, 0)), (2, (.putfield 15, 8, 1)), (5, (.return_, 0, 0))]
/-- TypeAtNight$Text.size()I -/
def k_67 : List (Nat × tm_N) := [(0, (.aload_n 0, 0, 0)), (1, (.getfield 15, 8, 1)), (4, (.ireturn, 0, 0))]
/-- TypeAtNight$Text.at(I)I -/
def k_68 : List (Nat × tm_N) := [(0, (.iload_n 1, 0, 0)), (1, (.ifCond .lt 20, 21, 0)), (4, (.iload_n 1, 0, 0)), (5, (.aload_n 0, 0, 0)), (6, (.getfield 15, 8, 1)), (9, (.if_icmp .ge 12, 21, 0)), (12, (.aload_n 0, 0, 0)), (13, (.getfield 9, 8, 0)), (16, (.iload_n 1, 0, 0)), (17, (.caload, 0, 0)), (18, (.goto 4, 22, 0)), (21, (.iconst 0, 0, 0)), (22, (.ireturn, 0, 0))]
/-- TypeAtNight$Text.letterAt(I)I -/
def k_69 : List (Nat × tm_N) := [(0, (.aload_n 0, 0, 0)), (1, (.iload_n 1, 0, 0)), (2, (.invokevirtual 19, 68, 1)), (5, (.bipush 97, 0, 0)), (7, (.isub, 0, 0)), (8, (.ireturn, 0, 0))]
/-- TypeAtNight$Text.digitAt(I)I -/
def k_70 : List (Nat × tm_N) := [(0, (.aload_n 0, 0, 0)), (1, (.iload_n 1, 0, 0)), (2, (.invokevirtual 19, 68, 1)), (5, (.bipush 48, 0, 0)), (7, (.isub, 0, 0)), (8, (.ireturn, 0, 0))]
/-- TypeAtNight$Text.twoDigitsAt(I)I -/
def k_71 : List (Nat × tm_N) := [(0, (.bipush 10, 0, 0)), (2, (.aload_n 0, 0, 0)), (3, (.iload_n 1, 0, 0)), (4, (.invokevirtual 23, 70, 1)), (7, (.imul, 0, 0)), (8, (.aload_n 0, 0, 0)), (9, (.iload_n 1, 0, 0)), (10, (.iconst 1, 0, 0)), (11, (.iadd, 0, 0)), (12, (.invokevirtual 23, 70, 1)), (15, (.iadd, 0, 0)), (16, (.ireturn, 0, 0))]
/-- TypeAtNight$Text.signedDigitAt(I)I -/
def k_72 : List (Nat × tm_N) := [(0, (.aload_n 0, 0, 0)), (1, (.iload_n 1, 0, 0)), (2, (.invokevirtual 19, 68, 1)), (5, (.bipush 45, 0, 0)), (7, (.if_icmp .ne 14, 21, 0)), (10, (.aload_n 0, 0, 0)), (11, (.iload_n 1, 0, 0)), (12, (.iconst 1, 0, 0)), (13, (.iadd, 0, 0)), (14, (.invokevirtual 23, 70, 1)), (17, (.ineg, 0, 0)), (18, (.goto 10, 28, 0)), (21, (.aload_n 0, 0, 0)), (22, (.iload_n 1, 0, 0)), (23, (.iconst 1, 0, 0)), (24, (.iadd, 0, 0)), (25, (.invokevirtual 23, 70, 1)), (28, (.ireturn, 0, 0))]
/-- TypeAtNight$Text.misfit(Ljava/lang/String;II)I -/
def k_73 : List (Nat × tm_N) := [(0, (.iconst 0, 0, 0)), (1, (.istore 4, 0, 0)), (3, (.iload 4, 0, 0)), (5, (.aload_n 1, 0, 0)), (6, (.invokevirtual 26, 1000, 0)), (9, (.if_icmp .ge 42, 51, 0)), (12, (.iload_n 2, 0, 0)), (13, (.iload 4, 0, 0)), (15, (.iadd, 0, 0)), (16, (.iload_n 3, 0, 0)), (17, (.if_icmp .ge 23, 40, 0)), (20, (.aload_n 1, 0, 0)), (21, (.iload 4, 0, 0)), (23, (.invokevirtual 32, 1002, 1)), (26, (.aload_n 0, 0, 0)), (27, (.iload_n 2, 0, 0)), (28, (.iload 4, 0, 0)), (30, (.iadd, 0, 0)), (31, (.invokevirtual 19, 68, 1)), (34, (.invokestatic 36, 74, 2)), (37, (.ifCond .ne 8, 45, 0)), (40, (.iload_n 2, 0, 0)), (41, (.iload 4, 0, 0)), (43, (.iadd, 0, 0)), (44, (.ireturn, 0, 0)), (45, (.iinc 4 1, 0, 0)), (48, (.goto (-45), 3, 0)), (51, (.iconst (-1), 0, 0)), (52, (.ireturn, 0, 0))]
/-- TypeAtNight$Text.stands(CI)Z -/
def k_74 : List (Nat × tm_N) := [(0, (.iload_n 0, 0, 0)), (1, (.lookupswitch 115 #[(98, 79), (100, 61), (108, 43), (115, 97)], 0, 0)), (44, (.iload_n 1, 0, 0)), (45, (.bipush 97, 0, 0)), (47, (.if_icmp .lt 13, 60, 0)), (50, (.iload_n 1, 0, 0)), (51, (.bipush 104, 0, 0)), (53, (.if_icmp .gt 7, 60, 0)), (56, (.iconst 1, 0, 0)), (57, (.goto 4, 61, 0)), (60, (.iconst 0, 0, 0)), (61, (.ireturn, 1, 0)), (62, (.iload_n 1, 0, 0)), (63, (.bipush 48, 0, 0)), (65, (.if_icmp .lt 13, 78, 0)), (68, (.iload_n 1, 0, 0)), (69, (.bipush 57, 0, 0)), (71, (.if_icmp .gt 7, 78, 0)), (74, (.iconst 1, 0, 0)), (75, (.goto 4, 79, 0)), (78, (.iconst 0, 0, 0)), (79, (.ireturn, 1, 0)), (80, (.iload_n 1, 0, 0)), (81, (.bipush 48, 0, 0)), (83, (.if_icmp .lt 13, 96, 0)), (86, (.iload_n 1, 0, 0)), (87, (.bipush 55, 0, 0)), (89, (.if_icmp .gt 7, 96, 0)), (92, (.iconst 1, 0, 0)), (93, (.goto 4, 97, 0)), (96, (.iconst 0, 0, 0)), (97, (.ireturn, 1, 0)), (98, (.iload_n 1, 0, 0)), (99, (.bipush 43, 0, 0)), (101, (.if_icmp .eq 9, 110, 0)), (104, (.iload_n 1, 0, 0)), (105, (.bipush 45, 0, 0)), (107, (.if_icmp .ne 7, 114, 0)), (110, (.iconst 1, 0, 0)), (111, (.goto 4, 115, 0)), (114, (.iconst 0, 0, 0)), (115, (.ireturn, 1, 0)), (116, (.iconst 0, 0, 0)), (117, (.ireturn, 1, 0))]
/-- TypeAtNight$TypeCase.<init>()V -/
def k_75 : List (Nat × tm_N) := [(0, (.aload_n 0, 0, 0)), (1, (.invokespecial 3, 0, 1000)), (4, (.aload_n 0, 0, 0)), (5, (.bipush 12, 0, 0)), (7, (.newarray .int, 0, 0)), (9, (.putfield 9, 9, 0)), (12, (.aload_n 0, 0, 0)), (13, (.bipush 12, 0, 0)), (15, (.newarray .int, 0, 0)), (17, (.putfield 15, 9, 1)), (20, (.aload_n 0, 0, 0)), (21, (.bipush 12, 0, 0)), (23, (.newarray .int, 0, 0)), (25, (.putfield 18, 9, 2)), (28, (.aload_n 0, 0, 0)), (29, (.bipush 12, 0, 0)), (31, (.newarray .int, 0, 0)), (33, (.putfield 21, 9, 3)), (36, (.aload_n 0, 0, 0)), (37, (.iconst 0, 0, 0)), (38, (.putfield 24, 9, 4)), (41, (.aload_n 0, 0, 0)), (42, (.iconst 0, 0, 0)), (43, (.putfield 28, 9, 5)), (46, (.aload_n 0, 0, 0)), (47, (.iconst 0, 0, 0)), (48, (.putfield 31, 9, 6)), (51, (.aload_n 0, 0, 0)), (52, (.bipush 8, 0, 0)), (54, (.newarray .int, 0, 0)), (56, (.putfield 34, 9, 7)), (59, (.aload_n 0, 0, 0)), (60, (.bipush 8, 0, 0)), (62, (.newarray .int, 0, 0)), (64, (.putfield 37, 9, 8)), (67, (.return_, 0, 0))]
/-- TypeAtNight$TypeCase.copy(LTypeAtNight$TypeCase;)V -/
def k_76 : List (Nat × tm_N) := [(0, (.aload_n 1, 0, 0)), (1, (.getfield 9, 9, 0)), (4, (.iconst 0, 0, 0)), (5, (.aload_n 0, 0, 0)), (6, (.getfield 9, 9, 0)), (9, (.iconst 0, 0, 0)), (10, (.bipush 12, 0, 0)), (12, (.invokestatic 40, 0, 1000)), (15, (.aload_n 1, 0, 0)), (16, (.getfield 15, 9, 1)), (19, (.iconst 0, 0, 0)), (20, (.aload_n 0, 0, 0)), (21, (.getfield 15, 9, 1)), (24, (.iconst 0, 0, 0)), (25, (.bipush 12, 0, 0)), (27, (.invokestatic 40, 0, 1000)), (30, (.aload_n 1, 0, 0)), (31, (.getfield 18, 9, 2)), (34, (.iconst 0, 0, 0)), (35, (.aload_n 0, 0, 0)), (36, (.getfield 18, 9, 2)), (39, (.iconst 0, 0, 0)), (40, (.bipush 12, 0, 0)), (42, (.invokestatic 40, 0, 1000)), (45, (.aload_n 1, 0, 0)), (46, (.getfield 21, 9, 3)), (49, (.iconst 0, 0, 0)), (50, (.aload_n 0, 0, 0)), (51, (.getfield 21, 9, 3)), (54, (.iconst 0, 0, 0)), (55, (.bipush 12, 0, 0)), (57, (.invokestatic 40, 0, 1000)), (60, (.aload_n 0, 0, 0)), (61, (.aload_n 1, 0, 0)), (62, (.getfield 24, 9, 4)), (65, (.putfield 24, 9, 4)), (68, (.aload_n 0, 0, 0)), (69, (.aload_n 1, 0, 0)), (70, (.getfield 28, 9, 5)), (73, (.putfield 28, 9, 5)), (76, (.aload_n 0, 0, 0)), (77, (.aload_n 1, 0, 0)), (78, (.getfield 31, 9, 6)), (81, (.putfield 31, 9, 6)), (84, (.return_, 0, 0))]
/-- TypeAtNight$TypeCase.add(III)V -/
def k_77 : List (Nat × tm_N) := [(0, (.aload_n 0, 0, 0)), (1, (.getfield 24, 9, 4)), (4, (.bipush 12, 0, 0)), (6, (.if_icmp .ge 53, 59, 0)), (9, (.aload_n 0, 0, 0)), (10, (.getfield 9, 9, 0)), (13, (.aload_n 0, 0, 0)), (14, (.getfield 24, 9, 4)), (17, (.iload_n 1, 0, 0)), (18, (.iastore, 0, 0)), (19, (.aload_n 0, 0, 0)), (20, (.getfield 15, 9, 1)), (23, (.aload_n 0, 0, 0)), (24, (.getfield 24, 9, 4)), (27, (.iload_n 2, 0, 0)), (28, (.iastore, 0, 0)), (29, (.aload_n 0, 0, 0)), (30, (.getfield 18, 9, 2)), (33, (.aload_n 0, 0, 0)), (34, (.getfield 24, 9, 4)), (37, (.iload_n 3, 0, 0)), (38, (.iastore, 0, 0)), (39, (.aload_n 0, 0, 0)), (40, (.getfield 21, 9, 3)), (43, (.aload_n 0, 0, 0)), (44, (.getfield 24, 9, 4)), (47, (.iload_n 1, 0, 0)), (48, (.iastore, 0, 0)), (49, (.aload_n 0, 0, 0)), (50, (.dup, 0, 0)), (51, (.getfield 24, 9, 4)), (54, (.iconst 1, 0, 0)), (55, (.iadd, 0, 0)), (56, (.putfield 24, 9, 4)), (59, (.return_, 0, 0))]
/-- TypeAtNight$TypeCase.has(I)Z -/
def k_78 : List (Nat × tm_N) := [(0, (.iload_n 1, 0, 0)), (1, (.ifCond .lt 15, 16, 0)), (4, (.iload_n 1, 0, 0)), (5, (.aload_n 0, 0, 0)), (6, (.getfield 24, 9, 4)), (9, (.if_icmp .ge 7, 16, 0)), (12, (.iconst 1, 0, 0)), (13, (.goto 4, 17, 0)), (16, (.iconst 0, 0, 0)), (17, (.ireturn, 1, 0))]
/-- TypeAtNight$TypeCase.all()I -/
def k_79 : List (Nat × tm_N) := [(0, (.iconst 1, 0, 0)), (1, (.aload_n 0, 0, 0)), (2, (.getfield 24, 9, 4)), (5, (.ishl, 0, 0)), (6, (.iconst 1, 0, 0)), (7, (.isub, 0, 0)), (8, (.ireturn, 0, 0))]
/-- TypeAtNight$TypeCase.free()I -/
def k_80 : List (Nat × tm_N) := [(0, (.aload_n 0, 0, 0)), (1, (.invokevirtual 46, 79, 0)), (4, (.aload_n 0, 0, 0)), (5, (.getfield 28, 9, 5)), (8, (.iconst (-1), 0, 0)), (9, (.ixor, 0, 0)), (10, (.iand, 0, 0)), (11, (.ireturn, 0, 0))]
/-- TypeAtNight$TypeCase.ofLetter(I)I -/
def k_81 : List (Nat × tm_N) := [(0, (.aload_n 0, 0, 0)), (1, (.aload_n 0, 0, 0)), (2, (.getfield 9, 9, 0)), (5, (.iload_n 1, 0, 0)), (6, (.invokevirtual 50, 84, 2)), (9, (.ireturn, 0, 0))]
/-- TypeAtNight$TypeCase.freeOf(I)I -/
def k_82 : List (Nat × tm_N) := [(0, (.aload_n 0, 0, 0)), (1, (.iload_n 1, 0, 0)), (2, (.invokevirtual 54, 81, 1)), (5, (.aload_n 0, 0, 0)), (6, (.getfield 28, 9, 5)), (9, (.iconst (-1), 0, 0)), (10, (.ixor, 0, 0)), (11, (.iand, 0, 0)), (12, (.invokestatic 58, 289, 1)), (15, (.ireturn, 0, 0))]
/-- TypeAtNight$TypeCase.inBox(I)I -/
def k_83 : List (Nat × tm_N) := [(0, (.aload_n 0, 0, 0)), (1, (.aload_n 0, 0, 0)), (2, (.getfield 21, 9, 3)), (5, (.iload_n 1, 0, 0)), (6, (.invokevirtual 50, 84, 2)), (9, (.ireturn, 0, 0))]
/-- TypeAtNight$TypeCase.whose([II)I -/
def k_84 : List (Nat × tm_N) := [(0, (.iconst 0, 0, 0)), (1, (.istore_n 3, 0, 0)), (2, (.iconst 0, 0, 0)), (3, (.istore 4, 0, 0)), (5, (.iload 4, 0, 0)), (7, (.aload_n 0, 0, 0)), (8, (.getfield 24, 9, 4)), (11, (.if_icmp .ge 35, 46, 0)), (14, (.iload 4, 0, 0)), (16, (.aload_n 1, 0, 0)), (17, (.arraylength, 0, 0)), (18, (.if_icmp .ge 28, 46, 0)), (21, (.iload_n 3, 0, 0)), (22, (.aload_n 1, 0, 0)), (23, (.iload 4, 0, 0)), (25, (.iaload, 0, 0)), (26, (.iload_n 2, 0, 0)), (27, (.if_icmp .ne 10, 37, 0)), (30, (.iconst 1, 0, 0)), (31, (.iload 4, 0, 0)), (33, (.ishl, 0, 0)), (34, (.goto 4, 38, 0)), (37, (.iconst 0, 0, 0)), (38, (.ior, 0, 0)), (39, (.istore_n 3, 0, 0)), (40, (.iinc 4 1, 0, 0)), (43, (.goto (-38), 5, 0)), (46, (.iload_n 3, 0, 0)), (47, (.ireturn, 0, 0))]
/-- TypeAtNight$TypeCase.moodsOf(I)I -/
def k_85 : List (Nat × tm_N) := [(0, (.iconst 0, 0, 0)), (1, (.istore_n 2, 0, 0)), (2, (.iconst 0, 0, 0)), (3, (.istore_n 3, 0, 0)), (4, (.iload_n 3, 0, 0)), (5, (.aload_n 0, 0, 0)), (6, (.getfield 24, 9, 4)), (9, (.if_icmp .ge 31, 40, 0)), (12, (.iload_n 2, 0, 0)), (13, (.iload_n 1, 0, 0)), (14, (.iload_n 3, 0, 0)), (15, (.ishr, 0, 0)), (16, (.iconst 1, 0, 0)), (17, (.iand, 0, 0)), (18, (.iconst 1, 0, 0)), (19, (.if_icmp .ne 12, 31, 0)), (22, (.aload_n 0, 0, 0)), (23, (.getfield 18, 9, 2)), (26, (.iload_n 3, 0, 0)), (27, (.iaload, 0, 0)), (28, (.goto 4, 32, 0)), (31, (.iconst 0, 0, 0)), (32, (.iadd, 0, 0)), (33, (.istore_n 2, 0, 0)), (34, (.iinc 3 1, 0, 0)), (37, (.goto (-33), 4, 0)), (40, (.iload_n 2, 0, 0)), (41, (.ireturn, 0, 0))]
/-- TypeAtNight$TypeCase.moodsOfAll()I -/
def k_86 : List (Nat × tm_N) := [(0, (.aload_n 0, 0, 0)), (1, (.aload_n 0, 0, 0)), (2, (.invokevirtual 46, 79, 0)), (5, (.invokevirtual 63, 85, 1)), (8, (.ireturn, 0, 0))]
/-- TypeAtNight$TypeCase.farFromRest()I -/
def k_87 : List (Nat × tm_N) := [(0, (.iconst 0, 0, 0)), (1, (.istore_n 1, 0, 0)), (2, (.iconst 0, 0, 0)), (3, (.istore_n 2, 0, 0)), (4, (.iload_n 2, 0, 0)), (5, (.aload_n 0, 0, 0)), (6, (.getfield 24, 9, 4)), (9, (.if_icmp .ge 21, 30, 0)), (12, (.iload_n 1, 0, 0)), (13, (.aload_n 0, 0, 0)), (14, (.getfield 18, 9, 2)), (17, (.iload_n 2, 0, 0)), (18, (.iaload, 0, 0)), (19, (.invokestatic 66, 0, 1003)), (22, (.iadd, 0, 0)), (23, (.istore_n 1, 0, 0)), (24, (.iinc 2 1, 0, 0)), (27, (.goto (-23), 4, 0)), (30, (.iload_n 1, 0, 0)), (31, (.ireturn, 0, 0))]
/-- TypeAtNight$TypeCase.wearOfAll()I -/
def k_88 : List (Nat × tm_N) := [(0, (.iconst 0, 0, 0)), (1, (.istore_n 1, 0, 0)), (2, (.iconst 0, 0, 0)), (3, (.istore_n 2, 0, 0)), (4, (.iload_n 2, 0, 0)), (5, (.aload_n 0, 0, 0)), (6, (.getfield 24, 9, 4)), (9, (.if_icmp .ge 18, 27, 0)), (12, (.iload_n 1, 0, 0)), (13, (.aload_n 0, 0, 0)), (14, (.getfield 15, 9, 1)), (17, (.iload_n 2, 0, 0)), (18, (.iaload, 0, 0)), (19, (.iadd, 0, 0)), (20, (.istore_n 1, 0, 0)), (21, (.iinc 2 1, 0, 0)), (24, (.goto (-20), 4, 0)), (27, (.iload_n 1, 0, 0)), (28, (.ireturn, 0, 0))]
/-- TypeAtNight$TypeCase.atHome()I -/
def k_89 : List (Nat × tm_N) := [(0, (.iconst 0, 0, 0)), (1, (.istore_n 1, 0, 0)), (2, (.iconst 0, 0, 0)), (3, (.istore_n 2, 0, 0)), (4, (.iload_n 2, 0, 0)), (5, (.aload_n 0, 0, 0)), (6, (.getfield 24, 9, 4)), (9, (.if_icmp .ge 32, 41, 0)), (12, (.iload_n 1, 0, 0)), (13, (.aload_n 0, 0, 0)), (14, (.getfield 21, 9, 3)), (17, (.iload_n 2, 0, 0)), (18, (.iaload, 0, 0)), (19, (.aload_n 0, 0, 0)), (20, (.getfield 9, 9, 0)), (23, (.iload_n 2, 0, 0)), (24, (.iaload, 0, 0)), (25, (.if_icmp .ne 7, 32, 0)), (28, (.iconst 1, 0, 0)), (29, (.goto 4, 33, 0)), (32, (.iconst 0, 0, 0)), (33, (.iadd, 0, 0)), (34, (.istore_n 1, 0, 0)), (35, (.iinc 2 1, 0, 0)), (38, (.goto (-34), 4, 0)), (41, (.iload_n 1, 0, 0)), (42, (.ireturn, 0, 0))]
/-- TypeAtNight$TypeCase.hasTwoLetters(I)Z -/
def k_90 : List (Nat × tm_N) := [(0, (.aload_n 0, 0, 0)), (1, (.aload_n 0, 0, 0)), (2, (.iload_n 1, 0, 0)), (3, (.invokevirtual 71, 83, 1)), (6, (.invokevirtual 74, 91, 1)), (9, (.iconst 1, 0, 0)), (10, (.if_icmp .le 7, 17, 0)), (13, (.iconst 1, 0, 0)), (14, (.goto 4, 18, 0)), (17, (.iconst 0, 0, 0)), (18, (.ireturn, 1, 0))]
/-- TypeAtNight$TypeCase.lettersOf(I)I -/
def k_91 : List (Nat × tm_N) := [(0, (.iconst 0, 0, 0)), (1, (.istore_n 2, 0, 0)), (2, (.iconst 0, 0, 0)), (3, (.istore_n 3, 0, 0)), (4, (.iload_n 3, 0, 0)), (5, (.aload_n 0, 0, 0)), (6, (.getfield 24, 9, 4)), (9, (.if_icmp .ge 33, 42, 0)), (12, (.iload_n 2, 0, 0)), (13, (.iload_n 1, 0, 0)), (14, (.iload_n 3, 0, 0)), (15, (.ishr, 0, 0)), (16, (.iconst 1, 0, 0)), (17, (.iand, 0, 0)), (18, (.iconst 1, 0, 0)), (19, (.if_icmp .ne 14, 33, 0)), (22, (.iconst 1, 0, 0)), (23, (.aload_n 0, 0, 0)), (24, (.getfield 9, 9, 0)), (27, (.iload_n 3, 0, 0)), (28, (.iaload, 0, 0)), (29, (.ishl, 0, 0)), (30, (.goto 4, 34, 0)), (33, (.iconst 0, 0, 0)), (34, (.ior, 0, 0)), (35, (.istore_n 2, 0, 0)), (36, (.iinc 3 1, 0, 0)), (39, (.goto (-35), 4, 0)), (42, (.iload_n 2, 0, 0)), (43, (.invokestatic 58, 289, 1)), (46, (.ireturn, 0, 0))]
/-- TypeAtNight$TypeCase.packedMoods()J -/
def k_92 : List (Nat × tm_N) := [(0, (.lconst 0, 0, 0)), (1, (.lstore_n 1, 0, 0)), (2, (.iconst 0, 0, 0)), (3, (.istore_n 3, 0, 0)), (4, (.iload_n 3, 0, 0)), (5, (.aload_n 0, 0, 0)), (6, (.getfield 24, 9, 4)), (9, (.if_icmp .ge 24, 33, 0)), (12, (.lload_n 1, 0, 0)), (13, (.iconst 5, 0, 0)), (14, (.lshl, 0, 0)), (15, (.aload_n 0, 0, 0)), (16, (.getfield 18, 9, 2)), (19, (.iload_n 3, 0, 0)), (20, (.iaload, 0, 0)), (21, (.bipush 9, 0, 0)), (23, (.iadd, 0, 0)), (24, (.i2l, 0, 0)), (25, (.lor, 0, 0)), (26, (.lstore_n 1, 0, 0)), (27, (.iinc 3 1, 0, 0)), (30, (.goto (-26), 4, 0)), (33, (.lload_n 1, 0, 0)), (34, (.lreturn, 0, 0))]
/-- TypeAtNight$TypeCase.wouldTake(LTypeAtNight$Letters;)I -/
def k_93 : List (Nat × tm_N) := [(0, (.iconst 0, 0, 0)), (1, (.istore_n 2, 0, 0)), (2, (.iconst 0, 0, 0)), (3, (.istore_n 3, 0, 0)), (4, (.iload_n 3, 0, 0)), (5, (.bipush 8, 0, 0)), (7, (.if_icmp .ge 66, 73, 0)), (10, (.iconst 0, 0, 0)), (11, (.istore 4, 0, 0)), (13, (.iload 4, 0, 0)), (15, (.aload_n 1, 0, 0)), (16, (.getfield 77, 3, 0)), (19, (.iload_n 3, 0, 0)), (20, (.iaload, 0, 0)), (21, (.if_icmp .ge 46, 67, 0)), (24, (.aload_n 0, 0, 0)), (25, (.aload_n 0, 0, 0)), (26, (.iload_n 3, 0, 0)), (27, (.invokevirtual 54, 81, 1)), (30, (.aload_n 0, 0, 0)), (31, (.getfield 28, 9, 5)), (34, (.iconst (-1), 0, 0)), (35, (.ixor, 0, 0)), (36, (.iand, 0, 0)), (37, (.iload_n 2, 0, 0)), (38, (.iconst (-1), 0, 0)), (39, (.ixor, 0, 0)), (40, (.iand, 0, 0)), (41, (.invokevirtual 82, 94, 1)), (44, (.istore 5, 0, 0)), (46, (.iload 5, 0, 0)), (48, (.iconst (-1), 0, 0)), (49, (.if_icmp .ne 5, 54, 0)), (52, (.iconst (-1), 0, 0)), (53, (.ireturn, 0, 0)), (54, (.iload_n 2, 0, 0)), (55, (.iconst 1, 0, 0)), (56, (.iload 5, 0, 0)), (58, (.ishl, 0, 0)), (59, (.ior, 0, 0)), (60, (.istore_n 2, 0, 0)), (61, (.iinc 4 1, 0, 0)), (64, (.goto (-51), 13, 0)), (67, (.iinc 3 1, 0, 0)), (70, (.goto (-66), 4, 0)), (73, (.iload_n 2, 0, 0)), (74, (.ireturn, 0, 0))]
/-- TypeAtNight$TypeCase.leastWorn(I)I -/
def k_94 : List (Nat × tm_N) := [(0, (.iconst (-1), 0, 0)), (1, (.istore_n 2, 0, 0)), (2, (.iconst 0, 0, 0)), (3, (.istore_n 3, 0, 0)), (4, (.iload_n 3, 0, 0)), (5, (.aload_n 0, 0, 0)), (6, (.getfield 24, 9, 4)), (9, (.if_icmp .ge 40, 49, 0)), (12, (.iload_n 1, 0, 0)), (13, (.iload_n 3, 0, 0)), (14, (.ishr, 0, 0)), (15, (.iconst 1, 0, 0)), (16, (.iand, 0, 0)), (17, (.iconst 1, 0, 0)), (18, (.if_icmp .ne 25, 43, 0)), (21, (.iload_n 2, 0, 0)), (22, (.iconst (-1), 0, 0)), (23, (.if_icmp .eq 18, 41, 0)), (26, (.aload_n 0, 0, 0)), (27, (.getfield 15, 9, 1)), (30, (.iload_n 3, 0, 0)), (31, (.iaload, 0, 0)), (32, (.aload_n 0, 0, 0)), (33, (.getfield 15, 9, 1)), (36, (.iload_n 2, 0, 0)), (37, (.iaload, 0, 0)), (38, (.if_icmp .ge 5, 43, 0)), (41, (.iload_n 3, 0, 0)), (42, (.istore_n 2, 0, 0)), (43, (.iinc 3 1, 0, 0)), (46, (.goto (-42), 4, 0)), (49, (.iload_n 2, 0, 0)), (50, (.ireturn, 0, 0))]
/-- TypeAtNight$TypeCase.setSorts(II)V -/
def k_95 : List (Nat × tm_N) := [(0, (.aload_n 0, 0, 0)), (1, (.dup, 0, 0)), (2, (.getfield 28, 9, 5)), (5, (.iload_n 1, 0, 0)), (6, (.ior, 0, 0)), (7, (.putfield 28, 9, 5)), (10, (.iconst 0, 0, 0)), (11, (.istore_n 3, 0, 0)), (12, (.iload_n 3, 0, 0)), (13, (.aload_n 0, 0, 0)), (14, (.getfield 24, 9, 4)), (17, (.if_icmp .ge 54, 71, 0)), (20, (.iload_n 1, 0, 0)), (21, (.iload_n 3, 0, 0)), (22, (.ishr, 0, 0)), (23, (.iconst 1, 0, 0)), (24, (.iand, 0, 0)), (25, (.iconst 1, 0, 0)), (26, (.if_icmp .ne 39, 65, 0)), (29, (.aload_n 0, 0, 0)), (30, (.getfield 15, 9, 1)), (33, (.iload_n 3, 0, 0)), (34, (.bipush 9, 0, 0)), (36, (.aload_n 0, 0, 0)), (37, (.getfield 15, 9, 1)), (40, (.iload_n 3, 0, 0)), (41, (.iaload, 0, 0)), (42, (.iconst 1, 0, 0)), (43, (.iadd, 0, 0)), (44, (.invokestatic 85, 0, 1002)), (47, (.iastore, 0, 0)), (48, (.aload_n 0, 0, 0)), (49, (.getfield 18, 9, 2)), (52, (.iload_n 3, 0, 0)), (53, (.aload_n 0, 0, 0)), (54, (.getfield 18, 9, 2)), (57, (.iload_n 3, 0, 0)), (58, (.iaload, 0, 0)), (59, (.iload_n 2, 0, 0)), (60, (.iadd, 0, 0)), (61, (.invokestatic 89, 158, 1)), (64, (.iastore, 0, 0)), (65, (.iinc 3 1, 0, 0)), (68, (.goto (-56), 12, 0)), (71, (.return_, 0, 0))]
/-- TypeAtNight$TypeCase.moveTo(II)I -/
def k_96 : List (Nat × tm_N) := [(0, (.aload_n 0, 0, 0)), (1, (.iload_n 1, 0, 0)), (2, (.invokevirtual 92, 78, 1)), (5, (.ifCond .eq 10, 15, 0)), (8, (.iload_n 2, 0, 0)), (9, (.invokestatic 96, 157, 1)), (12, (.ifCond .ne 5, 17, 0)), (15, (.iconst (-1), 0, 0)), (16, (.ireturn, 0, 0)), (17, (.aload_n 0, 0, 0)), (18, (.getfield 28, 9, 5)), (21, (.iload_n 1, 0, 0)), (22, (.ishr, 0, 0)), (23, (.iconst 1, 0, 0)), (24, (.iand, 0, 0)), (25, (.iconst 1, 0, 0)), (26, (.if_icmp .ne 6, 32, 0)), (29, (.bipush (-2), 0, 0)), (31, (.ireturn, 0, 0)), (32, (.aload_n 0, 0, 0)), (33, (.getfield 21, 9, 3)), (36, (.iload_n 1, 0, 0)), (37, (.iaload, 0, 0)), (38, (.iload_n 2, 0, 0)), (39, (.if_icmp .ne 6, 45, 0)), (42, (.bipush (-3), 0, 0)), (44, (.ireturn, 0, 0)), (45, (.aload_n 0, 0, 0)), (46, (.getfield 21, 9, 3)), (49, (.iload_n 1, 0, 0)), (50, (.iaload, 0, 0)), (51, (.istore_n 3, 0, 0)), (52, (.aload_n 0, 0, 0)), (53, (.getfield 21, 9, 3)), (56, (.iload_n 1, 0, 0)), (57, (.iload_n 2, 0, 0)), (58, (.iastore, 0, 0)), (59, (.bipush 10, 0, 0)), (61, (.iload_n 3, 0, 0)), (62, (.iadd, 0, 0)), (63, (.ireturn, 0, 0))]
/-- TypeAtNight$TypeCase.clean(I)I -/
def k_97 : List (Nat × tm_N) := [(0, (.aload_n 0, 0, 0)), (1, (.iload_n 1, 0, 0)), (2, (.invokevirtual 92, 78, 1)), (5, (.ifCond .ne 5, 10, 0)), (8, (.iconst (-1), 0, 0)), (9, (.ireturn, 0, 0)), (10, (.aload_n 0, 0, 0)), (11, (.getfield 18, 9, 2)), (14, (.iload_n 1, 0, 0)), (15, (.iaload, 0, 0)), (16, (.istore_n 2, 0, 0)), (17, (.aload_n 0, 0, 0)), (18, (.getfield 18, 9, 2)), (21, (.iload_n 1, 0, 0)), (22, (.iconst 0, 0, 0)), (23, (.iastore, 0, 0)), (24, (.iload_n 2, 0, 0)), (25, (.ifCond .ne 8, 33, 0)), (28, (.bipush (-2), 0, 0)), (30, (.goto 7, 37, 0)), (33, (.bipush 10, 0, 0)), (35, (.iload_n 2, 0, 0)), (36, (.iadd, 0, 0)), (37, (.ireturn, 0, 0))]
/-- TypeAtNight$TypeCase.castAnew(I)I -/
def k_98 : List (Nat × tm_N) := [(0, (.aload_n 0, 0, 0)), (1, (.iload_n 1, 0, 0)), (2, (.invokevirtual 92, 78, 1)), (5, (.ifCond .ne 5, 10, 0)), (8, (.iconst (-1), 0, 0)), (9, (.ireturn, 0, 0)), (10, (.aload_n 0, 0, 0)), (11, (.getfield 15, 9, 1)), (14, (.iload_n 1, 0, 0)), (15, (.iaload, 0, 0)), (16, (.istore_n 2, 0, 0)), (17, (.aload_n 0, 0, 0)), (18, (.getfield 15, 9, 1)), (21, (.iload_n 1, 0, 0)), (22, (.iconst 0, 0, 0)), (23, (.iastore, 0, 0)), (24, (.iload_n 2, 0, 0)), (25, (.ifCond .ne 8, 33, 0)), (28, (.bipush (-2), 0, 0)), (30, (.goto 4, 34, 0)), (33, (.iload_n 2, 0, 0)), (34, (.ireturn, 0, 0))]
/-- TypeAtNight$TypeCase.distribute()V -/
def k_99 : List (Nat × tm_N) := [(0, (.iconst 0, 0, 0)), (1, (.istore_n 1, 0, 0)), (2, (.iload_n 1, 0, 0)), (3, (.aload_n 0, 0, 0)), (4, (.getfield 24, 9, 4)), (7, (.if_icmp .ge 65, 72, 0)), (10, (.aload_n 0, 0, 0)), (11, (.getfield 28, 9, 5)), (14, (.ifCond .eq 58, 72, 0)), (17, (.aload_n 0, 0, 0)), (18, (.getfield 28, 9, 5)), (21, (.iload_n 1, 0, 0)), (22, (.ishr, 0, 0)), (23, (.iconst 1, 0, 0)), (24, (.iand, 0, 0)), (25, (.iconst 1, 0, 0)), (26, (.if_icmp .ne 40, 66, 0)), (29, (.aload_n 0, 0, 0)), (30, (.getfield 21, 9, 3)), (33, (.iload_n 1, 0, 0)), (34, (.aload_n 0, 0, 0)), (35, (.getfield 15, 9, 1)), (38, (.iload_n 1, 0, 0)), (39, (.iaload, 0, 0)), (40, (.bipush 9, 0, 0)), (42, (.if_icmp .ne 17, 59, 0)), (45, (.aload_n 0, 0, 0)), (46, (.getfield 9, 9, 0)), (49, (.iload_n 1, 0, 0)), (50, (.iaload, 0, 0)), (51, (.iconst 1, 0, 0)), (52, (.iadd, 0, 0)), (53, (.bipush 8, 0, 0)), (55, (.irem, 0, 0)), (56, (.goto 9, 65, 0)), (59, (.aload_n 0, 0, 0)), (60, (.getfield 9, 9, 0)), (63, (.iload_n 1, 0, 0)), (64, (.iaload, 0, 0)), (65, (.iastore, 0, 0)), (66, (.iinc 1 1, 0, 0)), (69, (.goto (-67), 2, 0)), (72, (.aload_n 0, 0, 0)), (73, (.iconst 0, 0, 0)), (74, (.putfield 28, 9, 5)), (77, (.return_, 0, 0))]
/-- TypeAtNight$TypeCase.passNights(LTypeAtNight$Rule;II)V -/
def k_100 : List (Nat × tm_N) := [(0, (.iconst 1, 0, 0)), (1, (.istore 4, 0, 0)), (3, (.iload 4, 0, 0)), (5, (.iload_n 2, 0, 0)), (6, (.if_icmp .gt 43, 49, 0)), (9, (.aload_n 0, 0, 0)), (10, (.aload_n 1, 0, 0)), (11, (.iload_n 3, 0, 0)), (12, (.invokevirtual 99, 101, 2)), (15, (.istore 5, 0, 0)), (17, (.iload 5, 0, 0)), (19, (.ifCond .ne 24, 43, 0)), (22, (.aload_n 1, 0, 0)), (23, (.invokevirtual 103, 52, 0)), (26, (.ifCond .ne 17, 43, 0)), (29, (.aload_n 0, 0, 0)), (30, (.dup, 0, 0)), (31, (.getfield 31, 9, 6)), (34, (.iload_n 2, 0, 0)), (35, (.iload 4, 0, 0)), (37, (.isub, 0, 0)), (38, (.iadd, 0, 0)), (39, (.putfield 31, 9, 6)), (42, (.return_, 0, 0)), (43, (.iinc 4 1, 0, 0)), (46, (.goto (-43), 3, 0)), (49, (.return_, 0, 0))]
/-- TypeAtNight$TypeCase.passNight(LTypeAtNight$Rule;I)Z -/
def k_101 : List (Nat × tm_N) := [(0, (.aload_n 0, 0, 0)), (1, (.invokevirtual 109, 99, 0)), (4, (.aload_n 0, 0, 0)), (5, (.invokevirtual 112, 103, 0)), (8, (.iconst 0, 0, 0)), (9, (.istore_n 3, 0, 0)), (10, (.iconst 0, 0, 0)), (11, (.istore 4, 0, 0)), (13, (.iload 4, 0, 0)), (15, (.aload_n 0, 0, 0)), (16, (.getfield 24, 9, 4)), (19, (.if_icmp .ge 68, 87, 0)), (22, (.iload_n 2, 0, 0)), (23, (.iload 4, 0, 0)), (25, (.ishr, 0, 0)), (26, (.iconst 1, 0, 0)), (27, (.iand, 0, 0)), (28, (.iconst 1, 0, 0)), (29, (.if_icmp .ne 52, 81, 0)), (32, (.aload_n 0, 0, 0)), (33, (.getfield 18, 9, 2)), (36, (.iload 4, 0, 0)), (38, (.iaload, 0, 0)), (39, (.istore 5, 0, 0)), (41, (.aload_n 0, 0, 0)), (42, (.getfield 18, 9, 2)), (45, (.iload 4, 0, 0)), (47, (.iload 5, 0, 0)), (49, (.aload_n 0, 0, 0)), (50, (.aload_n 1, 0, 0)), (51, (.iload 4, 0, 0)), (53, (.invokevirtual 115, 104, 2)), (56, (.iadd, 0, 0)), (57, (.invokestatic 89, 158, 1)), (60, (.iastore, 0, 0)), (61, (.iload_n 3, 0, 0)), (62, (.aload_n 0, 0, 0)), (63, (.getfield 18, 9, 2)), (66, (.iload 4, 0, 0)), (68, (.iaload, 0, 0)), (69, (.iload 5, 0, 0)), (71, (.if_icmp .eq 7, 78, 0)), (74, (.iconst 1, 0, 0)), (75, (.goto 4, 79, 0)), (78, (.iconst 0, 0, 0)), (79, (.ior, 0, 0)), (80, (.istore_n 3, 0, 0)), (81, (.iinc 4 1, 0, 0)), (84, (.goto (-71), 13, 0)), (87, (.aload_n 0, 0, 0)), (88, (.dup, 0, 0)), (89, (.getfield 31, 9, 6)), (92, (.iconst 1, 0, 0)), (93, (.iadd, 0, 0)), (94, (.putfield 31, 9, 6)), (97, (.iload_n 3, 0, 0)), (98, (.ireturn, 1, 0))]
/-- TypeAtNight$TypeCase.turnNow(LTypeAtNight$Rule;I)I -/
def k_102 : List (Nat × tm_N) := [(0, (.aload_n 0, 0, 0)), (1, (.invokevirtual 112, 103, 0)), (4, (.aload_n 0, 0, 0)), (5, (.iload_n 2, 0, 0)), (6, (.invokevirtual 92, 78, 1)), (9, (.ifCond .eq 12, 21, 0)), (12, (.aload_n 0, 0, 0)), (13, (.aload_n 1, 0, 0)), (14, (.iload_n 2, 0, 0)), (15, (.invokevirtual 115, 104, 2)), (18, (.goto 4, 22, 0)), (21, (.iconst 0, 0, 0)), (22, (.ireturn, 0, 0))]
/-- TypeAtNight$TypeCase.weighBoxes()V -/
def k_103 : List (Nat × tm_N) := [(0, (.aload_n 0, 0, 0)), (1, (.getfield 34, 9, 7)), (4, (.iconst 0, 0, 0)), (5, (.invokestatic 119, 291, 2)), (8, (.aload_n 0, 0, 0)), (9, (.getfield 37, 9, 8)), (12, (.iconst 0, 0, 0)), (13, (.invokestatic 119, 291, 2)), (16, (.iconst 0, 0, 0)), (17, (.istore_n 1, 0, 0)), (18, (.iload_n 1, 0, 0)), (19, (.aload_n 0, 0, 0)), (20, (.getfield 24, 9, 4)), (23, (.if_icmp .ge 44, 67, 0)), (26, (.aload_n 0, 0, 0)), (27, (.getfield 34, 9, 7)), (30, (.aload_n 0, 0, 0)), (31, (.getfield 21, 9, 3)), (34, (.iload_n 1, 0, 0)), (35, (.iaload, 0, 0)), (36, (.dup2, 0, 0)), (37, (.iaload, 0, 0)), (38, (.aload_n 0, 0, 0)), (39, (.getfield 18, 9, 2)), (42, (.iload_n 1, 0, 0)), (43, (.iaload, 0, 0)), (44, (.iadd, 0, 0)), (45, (.iastore, 0, 0)), (46, (.aload_n 0, 0, 0)), (47, (.getfield 37, 9, 8)), (50, (.aload_n 0, 0, 0)), (51, (.getfield 21, 9, 3)), (54, (.iload_n 1, 0, 0)), (55, (.iaload, 0, 0)), (56, (.dup2, 0, 0)), (57, (.iaload, 0, 0)), (58, (.iconst 1, 0, 0)), (59, (.iadd, 0, 0)), (60, (.iastore, 0, 0)), (61, (.iinc 1 1, 0, 0)), (64, (.goto (-46), 18, 0)), (67, (.return_, 0, 0))]
/-- TypeAtNight$TypeCase.turn(LTypeAtNight$Rule;I)I -/
def k_104 : List (Nat × tm_N) := [(0, (.aload_n 1, 0, 0)), (1, (.getfield 125, 7, 0)), (4, (.iconst 0, 0, 0)), (5, (.aload_n 0, 0, 0)), (6, (.getfield 18, 9, 2)), (9, (.iload_n 2, 0, 0)), (10, (.iaload, 0, 0)), (11, (.iastore, 0, 0)), (12, (.aload_n 1, 0, 0)), (13, (.getfield 125, 7, 0)), (16, (.iconst 1, 0, 0)), (17, (.aload_n 0, 0, 0)), (18, (.getfield 15, 9, 1)), (21, (.iload_n 2, 0, 0)), (22, (.iaload, 0, 0)), (23, (.iastore, 0, 0)), (24, (.aload_n 1, 0, 0)), (25, (.getfield 125, 7, 0)), (28, (.iconst 2, 0, 0)), (29, (.aload_n 0, 0, 0)), (30, (.getfield 9, 9, 0)), (33, (.iload_n 2, 0, 0)), (34, (.iaload, 0, 0)), (35, (.iastore, 0, 0)), (36, (.aload_n 1, 0, 0)), (37, (.getfield 125, 7, 0)), (40, (.iconst 3, 0, 0)), (41, (.aload_n 0, 0, 0)), (42, (.getfield 37, 9, 8)), (45, (.aload_n 0, 0, 0)), (46, (.getfield 21, 9, 3)), (49, (.iload_n 2, 0, 0)), (50, (.iaload, 0, 0)), (51, (.iaload, 0, 0)), (52, (.iconst 1, 0, 0)), (53, (.isub, 0, 0)), (54, (.iastore, 0, 0)), (55, (.aload_n 1, 0, 0)), (56, (.getfield 125, 7, 0)), (59, (.iconst 4, 0, 0)), (60, (.aload_n 0, 0, 0)), (61, (.getfield 34, 9, 7)), (64, (.aload_n 0, 0, 0)), (65, (.getfield 21, 9, 3)), (68, (.iload_n 2, 0, 0)), (69, (.iaload, 0, 0)), (70, (.iaload, 0, 0)), (71, (.aload_n 0, 0, 0)), (72, (.getfield 18, 9, 2)), (75, (.iload_n 2, 0, 0)), (76, (.iaload, 0, 0)), (77, (.isub, 0, 0)), (78, (.iastore, 0, 0)), (79, (.aload_n 1, 0, 0)), (80, (.getfield 125, 7, 0)), (83, (.iconst 5, 0, 0)), (84, (.iload_n 2, 0, 0)), (85, (.iastore, 0, 0)), (86, (.aload_n 1, 0, 0)), (87, (.getfield 125, 7, 0)), (90, (.bipush 6, 0, 0)), (92, (.aload_n 0, 0, 0)), (93, (.getfield 31, 9, 6)), (96, (.bipush 7, 0, 0)), (98, (.irem, 0, 0)), (99, (.iastore, 0, 0)), (100, (.aload_n 1, 0, 0)), (101, (.invokevirtual 128, 62, 0)), (104, (.invokestatic 89, 158, 1)), (107, (.ireturn, 0, 0))]
/-- TypeAtNight$Words.<init>()V -/
def k_105 : List (Nat × tm_N) := [(0, (.aload_n 0, 0, 0)), (1, (.invokespecial 3, 0, 1000)), (4, (.aload_n 0, 0, 0)), (5, (.bipush 64, 0, 0)), (7, (.newarray .int, 0, 0)), (9, (.putfield 11, 10, 0)), (12, (.aload_n 0, 0, 0)), (13, (.bipush 8, 0, 0)), (15, (.newarray .int, 0, 0)), (17, (.putfield 15, 10, 1)), (20, (.aload_n 0, 0, 0)), (21, (.iconst 0, 0, 0)), (22, (.putfield 18, 10, 2)), (25, (.return_, 0, 0))]
/-- TypeAtNight$Words.read(LTypeAtNight$Text;)I -/
def k_106 : List (Nat × tm_N) := [(0, (.aload_n 0, 0, 0)), (1, (.getfield 11, 10, 0)), (4, (.iconst 0, 0, 0)), (5, (.invokestatic 22, 291, 2)), (8, (.aload_n 0, 0, 0)), (9, (.iconst 0, 0, 0)), (10, (.putfield 18, 10, 2)), (13, (.aload_n 1, 0, 0)), (14, (.invokevirtual 28, 67, 0)), (17, (.bipush 60, 0, 0)), (19, (.invokestatic 33, 0, 1002)), (22, (.istore_n 2, 0, 0)), (23, (.iconst 0, 0, 0)), (24, (.istore_n 3, 0, 0)), (25, (.iconst 0, 0, 0)), (26, (.istore 4, 0, 0)), (28, (.iload 4, 0, 0)), (30, (.iload_n 2, 0, 0)), (31, (.if_icmp .ge 93, 124, 0)), (34, (.bipush 108, 0, 0)), (36, (.aload_n 1, 0, 0)), (37, (.iload 4, 0, 0)), (39, (.invokevirtual 39, 68, 1)), (42, (.invokestatic 43, 74, 2)), (45, (.ifCond .eq 40, 85, 0)), (48, (.aload_n 0, 0, 0)), (49, (.getfield 18, 10, 2)), (52, (.bipush 8, 0, 0)), (54, (.if_icmp .ge 31, 85, 0)), (57, (.aload_n 0, 0, 0)), (58, (.getfield 11, 10, 0)), (61, (.aload_n 0, 0, 0)), (62, (.getfield 18, 10, 2)), (65, (.bipush 8, 0, 0)), (67, (.imul, 0, 0)), (68, (.aload_n 1, 0, 0)), (69, (.iload 4, 0, 0)), (71, (.invokevirtual 47, 69, 1)), (74, (.iadd, 0, 0)), (75, (.dup2, 0, 0)), (76, (.iaload, 0, 0)), (77, (.iconst 1, 0, 0)), (78, (.iadd, 0, 0)), (79, (.iastore, 0, 0)), (80, (.iconst 1, 0, 0)), (81, (.istore_n 3, 0, 0)), (82, (.goto 36, 118, 0)), (85, (.aload_n 1, 0, 0)), (86, (.iload 4, 0, 0)), (88, (.invokevirtual 39, 68, 1)), (91, (.bipush 59, 0, 0)), (93, (.if_icmp .ne 22, 115, 0)), (96, (.iload_n 3, 0, 0)), (97, (.ifCond .eq 18, 115, 0)), (100, (.aload_n 0, 0, 0)), (101, (.dup, 0, 0)), (102, (.getfield 18, 10, 2)), (105, (.iconst 1, 0, 0)), (106, (.iadd, 0, 0)), (107, (.putfield 18, 10, 2)), (110, (.iconst 0, 0, 0)), (111, (.istore_n 3, 0, 0)), (112, (.goto 6, 118, 0)), (115, (.iload 4, 0, 0)), (117, (.ireturn, 0, 0)), (118, (.iinc 4 1, 0, 0)), (121, (.goto (-93), 28, 0)), (124, (.iload_n 3, 0, 0)), (125, (.ifCond .ne 5, 130, 0)), (128, (.iload_n 2, 0, 0)), (129, (.ireturn, 0, 0)), (130, (.aload_n 0, 0, 0)), (131, (.dup, 0, 0)), (132, (.getfield 18, 10, 2)), (135, (.iconst 1, 0, 0)), (136, (.iadd, 0, 0)), (137, (.putfield 18, 10, 2)), (140, (.aload_n 1, 0, 0)), (141, (.invokevirtual 28, 67, 0)), (144, (.iload_n 2, 0, 0)), (145, (.if_icmp .le 7, 152, 0)), (148, (.iload_n 2, 0, 0)), (149, (.goto 4, 153, 0)), (152, (.iconst (-1), 0, 0)), (153, (.ireturn, 0, 0))]
/-- TypeAtNight$Words.mostAtOnce(LTypeAtNight$TypeCase;)I -/
def k_107 : List (Nat × tm_N) := [(0, (.iconst 0, 0, 0)), (1, (.istore_n 2, 0, 0)), (2, (.iload_n 2, 0, 0)), (3, (.bipush 8, 0, 0)), (5, (.if_icmp .ge 20, 25, 0)), (8, (.aload_n 0, 0, 0)), (9, (.getfield 15, 10, 1)), (12, (.iload_n 2, 0, 0)), (13, (.aload_n 1, 0, 0)), (14, (.iload_n 2, 0, 0)), (15, (.invokevirtual 50, 82, 1)), (18, (.iastore, 0, 0)), (19, (.iinc 2 1, 0, 0)), (22, (.goto (-20), 2, 0)), (25, (.iconst 0, 0, 0)), (26, (.istore_n 2, 0, 0)), (27, (.iconst 1, 0, 0)), (28, (.istore_n 3, 0, 0)), (29, (.iload_n 3, 0, 0)), (30, (.iconst 1, 0, 0)), (31, (.aload_n 0, 0, 0)), (32, (.getfield 18, 10, 2)), (35, (.ishl, 0, 0)), (36, (.if_icmp .ge 30, 66, 0)), (39, (.iload_n 3, 0, 0)), (40, (.invokestatic 55, 289, 1)), (43, (.iload_n 2, 0, 0)), (44, (.invokestatic 55, 289, 1)), (47, (.if_icmp .le 13, 60, 0)), (50, (.aload_n 0, 0, 0)), (51, (.iload_n 3, 0, 0)), (52, (.invokevirtual 60, 108, 1)), (55, (.ifCond .eq 5, 60, 0)), (58, (.iload_n 3, 0, 0)), (59, (.istore_n 2, 0, 0)), (60, (.iinc 3 1, 0, 0)), (63, (.goto (-34), 29, 0)), (66, (.iload_n 2, 0, 0)), (67, (.ireturn, 0, 0))]
/-- TypeAtNight$Words.canBeSet(I)Z -/
def k_108 : List (Nat × tm_N) := [(0, (.iconst 0, 0, 0)), (1, (.istore_n 2, 0, 0)), (2, (.iload_n 2, 0, 0)), (3, (.bipush 8, 0, 0)), (5, (.if_icmp .ge 63, 68, 0)), (8, (.iconst 0, 0, 0)), (9, (.istore_n 3, 0, 0)), (10, (.iconst 0, 0, 0)), (11, (.istore 4, 0, 0)), (13, (.iload 4, 0, 0)), (15, (.aload_n 0, 0, 0)), (16, (.getfield 18, 10, 2)), (19, (.if_icmp .ge 31, 50, 0)), (22, (.iload_n 3, 0, 0)), (23, (.iload_n 1, 0, 0)), (24, (.iload 4, 0, 0)), (26, (.ishr, 0, 0)), (27, (.iconst 1, 0, 0)), (28, (.iand, 0, 0)), (29, (.aload_n 0, 0, 0)), (30, (.getfield 11, 10, 0)), (33, (.iload 4, 0, 0)), (35, (.bipush 8, 0, 0)), (37, (.imul, 0, 0)), (38, (.iload_n 2, 0, 0)), (39, (.iadd, 0, 0)), (40, (.iaload, 0, 0)), (41, (.imul, 0, 0)), (42, (.iadd, 0, 0)), (43, (.istore_n 3, 0, 0)), (44, (.iinc 4 1, 0, 0)), (47, (.goto (-34), 13, 0)), (50, (.iload_n 3, 0, 0)), (51, (.aload_n 0, 0, 0)), (52, (.getfield 15, 10, 1)), (55, (.iload_n 2, 0, 0)), (56, (.iaload, 0, 0)), (57, (.if_icmp .le 5, 62, 0)), (60, (.iconst 0, 0, 0)), (61, (.ireturn, 1, 0)), (62, (.iinc 2 1, 0, 0)), (65, (.goto (-63), 2, 0)), (68, (.iconst 1, 0, 0)), (69, (.ireturn, 1, 0))]
/-- TypeAtNight.<init>()V -/
def k_109 : List (Nat × tm_N) := [(0, (.aload_n 0, 0, 0)), (1, (.invokespecial 1, 0, 1000)), (4, (.aload_n 0, 0, 0)), (5, (.new 7, 8, 0)), (8, (.dup, 0, 0)), (9, (.invokespecial 9, 63, 0)), (12, (.putfield 10, 11, 0)), (15, (.aload_n 0, 0, 0)), (16, (.new 16, 5, 0)), (19, (.dup, 0, 0)), (20, (.invokespecial 18, 35, 0)), (23, (.putfield 19, 11, 1)), (26, (.aload_n 0, 0, 0)), (27, (.new 23, 9, 0)), (30, (.dup, 0, 0)), (31, (.invokespecial 25, 75, 0)), (34, (.putfield 26, 11, 2)), (37, (.aload_n 0, 0, 0)), (38, (.new 23, 9, 0)), (41, (.dup, 0, 0)), (42, (.invokespecial 25, 75, 0)), (45, (.putfield 30, 11, 3)), (48, (.aload_n 0, 0, 0)), (49, (.new 23, 9, 0)), (52, (.dup, 0, 0)), (53, (.invokespecial 25, 75, 0)), (56, (.putfield 33, 11, 4)), (59, (.aload_n 0, 0, 0)), (60, (.new 23, 9, 0)), (63, (.dup, 0, 0)), (64, (.invokespecial 25, 75, 0)), (67, (.putfield 36, 11, 5)), (70, (.aload_n 0, 0, 0)), (71, (.new 39, 6, 0)), (74, (.dup, 0, 0)), (75, (.invokespecial 41, 44, 0)), (78, (.putfield 42, 11, 6)), (81, (.aload_n 0, 0, 0)), (82, (.new 46, 7, 0)), (85, (.dup, 0, 0)), (86, (.invokespecial 48, 51, 0)), (89, (.putfield 49, 11, 7)), (92, (.aload_n 0, 0, 0)), (93, (.new 46, 7, 0)), (96, (.dup, 0, 0)), (97, (.invokespecial 48, 51, 0)), (100, (.putfield 53, 11, 8)), (103, (.aload_n 0, 0, 0)), (104, (.new 56, 3, 0)), (107, (.dup, 0, 0)), (108, (.invokespecial 58, 20, 0)), (111, (.putfield 59, 11, 9)), (114, (.aload_n 0, 0, 0)), (115, (.new 63, 10, 0)), (118, (.dup, 0, 0)), (119, (.invokespecial 65, 105, 0)), (122, (.putfield 66, 11, 10)), (125, (.aload_n 0, 0, 0)), (126, (.new 70, 0, 0)), (129, (.dup, 0, 0)), (130, (.invokespecial 72, 1, 0)), (133, (.putfield 73, 11, 11)), (136, (.aload_n 0, 0, 0)), (137, (.new 77, 2, 0)), (140, (.dup, 0, 0)), (141, (.invokespecial 79, 10, 0)), (144, (.putfield 80, 11, 12)), (147, (.aload_n 0, 0, 0)), (148, (.new 84, 4, 0)), (151, (.dup, 0, 0)), (152, (.invokespecial 86, 24, 0)), (155, (.putfield 87, 11, 13)), (158, (.aload_n 0, 0, 0)), (159, (.new 91, 1, 0)), (162, (.dup, 0, 0)), (163, (.invokespecial 93, 7, 0)), (166, (.putfield 94, 11, 14)), (169, (.aload_n 0, 0, 0)), (170, (.bipush 100, 0, 0)), (172, (.newarray .long, 0, 0)), (174, (.putfield 98, 11, 15)), (177, (.return_, 0, 0))]
/-- TypeAtNight.sign(I)I -/
def k_110 : List (Nat × tm_N) := [(0, (.aload_n 0, 0, 0)), (1, (.getfield 10, 11, 0)), (4, (.iload_n 1, 0, 0)), (5, (.invokevirtual 102, 64, 1)), (8, (.ireturn, 0, 0))]
/-- TypeAtNight.end(I)Z -/
def k_111 : List (Nat × tm_N) := [(0, (.aload_n 0, 0, 0)), (1, (.getfield 10, 11, 0)), (4, (.iload_n 1, 0, 0)), (5, (.invokevirtual 106, 65, 1)), (8, (.ireturn, 1, 0))]
/-- TypeAtNight.sorts()I -/
def k_112 : List (Nat × tm_N) := [(0, (.aload_n 0, 0, 0)), (1, (.invokevirtual 110, 161, 0)), (4, (.istore_n 1, 0, 0)), (5, (.iconst 0, 0, 0)), (6, (.istore_n 2, 0, 0)), (7, (.iload_n 1, 0, 0)), (8, (.iconst (-1), 0, 0)), (9, (.if_icmp .ne 8, 17, 0)), (12, (.aload_n 0, 0, 0)), (13, (.invokevirtual 114, 162, 0)), (16, (.istore_n 2, 0, 0)), (17, (.aload_n 0, 0, 0)), (18, (.getfield 10, 11, 0)), (21, (.invokevirtual 117, 66, 0)), (24, (.iload_n 1, 0, 0)), (25, (.iconst (-1), 0, 0)), (26, (.if_icmp .ne 7, 33, 0)), (29, (.iload_n 2, 0, 0)), (30, (.goto 6, 36, 0)), (33, (.iconst (-1), 0, 0)), (34, (.iload_n 1, 0, 0)), (35, (.isub, 0, 0)), (36, (.ireturn, 0, 0))]
/-- TypeAtNight.rule()I -/
def k_113 : List (Nat × tm_N) := [(0, (.aload_n 0, 0, 0)), (1, (.getfield 53, 11, 8)), (4, (.aload_n 0, 0, 0)), (5, (.getfield 10, 11, 0)), (8, (.invokevirtual 120, 53, 1)), (11, (.istore_n 1, 0, 0)), (12, (.aload_n 0, 0, 0)), (13, (.getfield 10, 11, 0)), (16, (.invokevirtual 117, 66, 0)), (19, (.iload_n 1, 0, 0)), (20, (.iconst (-1), 0, 0)), (21, (.if_icmp .eq 7, 28, 0)), (24, (.iconst (-1), 0, 0)), (25, (.iload_n 1, 0, 0)), (26, (.isub, 0, 0)), (27, (.ireturn, 0, 0)), (28, (.aload_n 0, 0, 0)), (29, (.getfield 49, 11, 7)), (32, (.astore_n 2, 0, 0)), (33, (.aload_n 0, 0, 0)), (34, (.aload_n 0, 0, 0)), (35, (.getfield 53, 11, 8)), (38, (.putfield 49, 11, 7)), (41, (.aload_n 0, 0, 0)), (42, (.aload_n 2, 0, 0)), (43, (.putfield 53, 11, 8)), (46, (.iconst 0, 0, 0)), (47, (.ireturn, 0, 0))]
/-- TypeAtNight.sort(II)I -/
def k_114 : List (Nat × tm_N) := [(0, (.aload_n 0, 0, 0)), (1, (.getfield 26, 11, 2)), (4, (.iload_n 1, 0, 0)), (5, (.invokevirtual 124, 78, 1)), (8, (.ifCond .ne 13, 21, 0)), (14, (.dup, 0, 0)), (15, (.ldc 129, 8, 1)), (21, (.iload_n 2, 0, 0)), (22, (.tableswitch 109 0 5 #[38, 48, 58, 71, 81, 93], 0, 0)), (60, (.aload_n 0, 0, 0)), (61, (.getfield 26, 11, 2)), (64, (.getfield 134, 9, 0)), (67, (.iload_n 1, 0, 0)), (68, (.iaload, 0, 0)), (69, (.ireturn, 0, 0)), (70, (.aload_n 0, 0, 0)), (71, (.getfield 26, 11, 2)), (74, (.getfield 138, 9, 1)), (77, (.iload_n 1, 0, 0)), (78, (.iaload, 0, 0)), (79, (.ireturn, 0, 0)), (80, (.bipush 10, 0, 0)), (82, (.aload_n 0, 0, 0)), (83, (.getfield 26, 11, 2)), (86, (.getfield 141, 9, 2)), (89, (.iload_n 1, 0, 0)), (90, (.iaload, 0, 0)), (91, (.iadd, 0, 0)), (92, (.ireturn, 0, 0)), (93, (.aload_n 0, 0, 0)), (94, (.getfield 26, 11, 2)), (97, (.getfield 144, 9, 3)), (100, (.iload_n 1, 0, 0)), (101, (.iaload, 0, 0)), (102, (.ireturn, 0, 0)), (103, (.aload_n 0, 0, 0)), (104, (.getfield 26, 11, 2)), (107, (.getfield 147, 9, 5)), (110, (.iload_n 1, 0, 0)), (111, (.ishr, 0, 0)), (112, (.iconst 1, 0, 0)), (113, (.iand, 0, 0)), (114, (.ireturn, 0, 0)), (115, (.bipush 10, 0, 0)), (117, (.aload_n 0, 0, 0)), (118, (.getfield 26, 11, 2)), (121, (.aload_n 0, 0, 0)), (122, (.getfield 49, 11, 7)), (125, (.iload_n 1, 0, 0)), (126, (.invokevirtual 151, 102, 2)), (129, (.iadd, 0, 0)), (130, (.ireturn, 0, 0)), (134, (.dup, 0, 0)), (135, (.ldc 155, 9, 1))]
/-- TypeAtNight.box(II)I -/
def k_115 : List (Nat × tm_N) := [(0, (.iload_n 1, 0, 0)), (1, (.invokestatic 157, 157, 1)), (4, (.ifCond .ne 13, 17, 0)), (10, (.dup, 0, 0)), (11, (.ldc 160, 10, 1)), (17, (.iload_n 2, 0, 0)), (18, (.lookupswitch 55 #[(0, 26), (1, 35)], 0, 0)), (44, (.aload_n 0, 0, 0)), (45, (.getfield 26, 11, 2)), (48, (.iload_n 1, 0, 0)), (49, (.invokevirtual 162, 83, 1)), (52, (.ireturn, 0, 0)), (53, (.sipush 200, 0, 0)), (56, (.aload_n 0, 0, 0)), (57, (.getfield 26, 11, 2)), (60, (.aload_n 0, 0, 0)), (61, (.getfield 26, 11, 2)), (64, (.iload_n 1, 0, 0)), (65, (.invokevirtual 162, 83, 1)), (68, (.invokevirtual 165, 85, 1)), (71, (.iadd, 0, 0)), (72, (.ireturn, 0, 0)), (76, (.dup, 0, 0)), (77, (.ldc 168, 11, 1))]
/-- TypeAtNight.sheet(IIII)I -/
def k_116 : List (Nat × tm_N) := [(0, (.iload_n 1, 0, 0)), (1, (.ifCond .lt 14, 15, 0)), (4, (.iload_n 1, 0, 0)), (5, (.iconst 3, 0, 0)), (6, (.if_icmp .gt 9, 15, 0)), (9, (.iload_n 2, 0, 0)), (10, (.bipush 12, 0, 0)), (12, (.if_icmp .le 5, 17, 0)), (15, (.iconst (-1), 0, 0)), (16, (.ireturn, 0, 0)), (17, (.iload_n 1, 0, 0)), (18, (.iconst 3, 0, 0)), (19, (.if_icmp .ne 17, 36, 0)), (22, (.aload_n 0, 0, 0)), (23, (.getfield 26, 11, 2)), (26, (.getfield 138, 9, 1)), (29, (.iconst 0, 0, 0)), (30, (.invokestatic 170, 291, 2)), (33, (.bipush (-3), 0, 0)), (35, (.ireturn, 0, 0)), (36, (.iload_n 2, 0, 0)), (37, (.ifCond .ge 6, 43, 0)), (40, (.bipush (-2), 0, 0)), (42, (.ireturn, 0, 0)), (43, (.iconst 0, 0, 0)), (44, (.istore 5, 0, 0)), (46, (.iload 5, 0, 0)), (48, (.aload_n 0, 0, 0)), (49, (.getfield 26, 11, 2)), (52, (.getfield 176, 9, 4)), (55, (.if_icmp .ge 53, 108, 0)), (58, (.iload 5, 0, 0)), (60, (.iload_n 2, 0, 0)), (61, (.if_icmp .ge 17, 78, 0)), (64, (.iload_n 1, 0, 0)), (65, (.iload_n 3, 0, 0)), (66, (.iload 5, 0, 0)), (68, (.iload 4, 0, 0)), (70, (.imul, 0, 0)), (71, (.iadd, 0, 0)), (72, (.invokestatic 179, 163, 2)), (75, (.goto 4, 79, 0)), (78, (.iconst 0, 0, 0)), (79, (.istore 6, 0, 0)), (81, (.aload_n 0, 0, 0)), (82, (.getfield 26, 11, 2)), (85, (.getfield 138, 9, 1)), (88, (.iload 5, 0, 0)), (90, (.iconst 0, 0, 0)), (91, (.bipush 9, 0, 0)), (93, (.iload 6, 0, 0)), (95, (.invokestatic 183, 0, 1002)), (98, (.invokestatic 188, 0, 1001)), (101, (.iastore, 0, 0)), (102, (.iinc 5 1, 0, 0)), (105, (.goto (-59), 46, 0)), (108, (.aload_n 0, 0, 0)), (109, (.getfield 26, 11, 2)), (112, (.invokevirtual 191, 88, 0)), (115, (.ireturn, 0, 0))]
/-- TypeAtNight.sets(I)I -/
def k_117 : List (Nat × tm_N) := [(0, (.aload_n 0, 0, 0)), (1, (.invokevirtual 194, 159, 0)), (4, (.istore_n 2, 0, 0)), (5, (.iload_n 2, 0, 0)), (6, (.iconst (-1), 0, 0)), (7, (.if_icmp .eq 7, 14, 0)), (10, (.iconst (-1), 0, 0)), (11, (.iload_n 2, 0, 0)), (12, (.isub, 0, 0)), (13, (.ireturn, 0, 0)), (14, (.iload_n 1, 0, 0)), (15, (.invokestatic 197, 156, 1)), (18, (.ifCond .ne 6, 24, 0)), (21, (.bipush (-100), 0, 0)), (23, (.ireturn, 0, 0)), (24, (.aload_n 0, 0, 0)), (25, (.getfield 26, 11, 2)), (28, (.aload_n 0, 0, 0)), (29, (.getfield 59, 11, 9)), (32, (.invokevirtual 200, 93, 1)), (35, (.istore_n 3, 0, 0)), (36, (.iload_n 3, 0, 0)), (37, (.iconst (-1), 0, 0)), (38, (.if_icmp .ne 6, 44, 0)), (41, (.bipush (-101), 0, 0)), (43, (.ireturn, 0, 0)), (44, (.aload_n 0, 0, 0)), (45, (.getfield 42, 11, 6)), (48, (.aload_n 0, 0, 0)), (49, (.getfield 26, 11, 2)), (52, (.invokevirtual 204, 47, 1)), (55, (.aload_n 0, 0, 0)), (56, (.getfield 26, 11, 2)), (59, (.iload_n 3, 0, 0)), (60, (.invokevirtual 165, 85, 1)), (63, (.istore 4, 0, 0)), (65, (.aload_n 0, 0, 0)), (66, (.getfield 26, 11, 2)), (69, (.iload_n 3, 0, 0)), (70, (.iload_n 1, 0, 0)), (71, (.invokevirtual 208, 95, 2)), (74, (.aload_n 0, 0, 0)), (75, (.getfield 19, 11, 1)), (78, (.sipush 200, 0, 0)), (81, (.iload 4, 0, 0)), (83, (.iadd, 0, 0)), (84, (.i2l, 0, 0)), (85, (.sipush 200, 0, 0)), (88, (.aload_n 0, 0, 0)), (89, (.getfield 26, 11, 2)), (92, (.iload_n 3, 0, 0)), (93, (.invokevirtual 165, 85, 1)), (96, (.iadd, 0, 0)), (97, (.i2l, 0, 0)), (98, (.invokevirtual 212, 39, 2)), (101, (.iload_n 3, 0, 0)), (102, (.ireturn, 0, 0))]
/-- TypeAtNight.nights(I)I -/
def k_118 : List (Nat × tm_N) := [(0, (.iload_n 1, 0, 0)), (1, (.ifCond .lt 9, 10, 0)), (4, (.iload_n 1, 0, 0)), (5, (.bipush 60, 0, 0)), (7, (.if_icmp .le 5, 12, 0)), (10, (.iconst (-1), 0, 0)), (11, (.ireturn, 0, 0)), (12, (.iload_n 1, 0, 0)), (13, (.ifCond .le 14, 27, 0)), (16, (.aload_n 0, 0, 0)), (17, (.getfield 42, 11, 6)), (20, (.aload_n 0, 0, 0)), (21, (.getfield 26, 11, 2)), (24, (.invokevirtual 204, 47, 1)), (27, (.aload_n 0, 0, 0)), (28, (.getfield 26, 11, 2)), (31, (.aload_n 0, 0, 0)), (32, (.getfield 49, 11, 7)), (35, (.iload_n 1, 0, 0)), (36, (.aload_n 0, 0, 0)), (37, (.getfield 26, 11, 2)), (40, (.invokevirtual 216, 79, 0)), (43, (.invokevirtual 219, 100, 3)), (46, (.aload_n 0, 0, 0)), (47, (.getfield 19, 11, 1)), (50, (.sipush 200, 0, 0)), (53, (.aload_n 0, 0, 0)), (54, (.getfield 26, 11, 2)), (57, (.invokevirtual 223, 86, 0)), (60, (.iadd, 0, 0)), (61, (.i2l, 0, 0)), (62, (.invokevirtual 226, 38, 1)), (65, (.aload_n 0, 0, 0)), (66, (.getfield 26, 11, 2)), (69, (.invokevirtual 229, 89, 0)), (72, (.ireturn, 0, 0))]
/-- TypeAtNight.moves(II)I -/
def k_119 : List (Nat × tm_N) := [(0, (.aload_n 0, 0, 0)), (1, (.getfield 36, 11, 5)), (4, (.aload_n 0, 0, 0)), (5, (.getfield 26, 11, 2)), (8, (.invokevirtual 232, 76, 1)), (11, (.aload_n 0, 0, 0)), (12, (.aload_n 0, 0, 0)), (13, (.getfield 26, 11, 2)), (16, (.iload_n 1, 0, 0)), (17, (.iload_n 2, 0, 0)), (18, (.invokevirtual 235, 96, 2)), (21, (.invokevirtual 238, 160, 1)), (24, (.ireturn, 0, 0))]
/-- TypeAtNight.cleans(I)I -/
def k_120 : List (Nat × tm_N) := [(0, (.aload_n 0, 0, 0)), (1, (.getfield 36, 11, 5)), (4, (.aload_n 0, 0, 0)), (5, (.getfield 26, 11, 2)), (8, (.invokevirtual 232, 76, 1)), (11, (.aload_n 0, 0, 0)), (12, (.aload_n 0, 0, 0)), (13, (.getfield 26, 11, 2)), (16, (.iload_n 1, 0, 0)), (17, (.invokevirtual 241, 97, 1)), (20, (.invokevirtual 238, 160, 1)), (23, (.ireturn, 0, 0))]
/-- TypeAtNight.casts(I)I -/
def k_121 : List (Nat × tm_N) := [(0, (.aload_n 0, 0, 0)), (1, (.getfield 36, 11, 5)), (4, (.aload_n 0, 0, 0)), (5, (.getfield 26, 11, 2)), (8, (.invokevirtual 232, 76, 1)), (11, (.aload_n 0, 0, 0)), (12, (.aload_n 0, 0, 0)), (13, (.getfield 26, 11, 2)), (16, (.iload_n 1, 0, 0)), (17, (.invokevirtual 244, 98, 1)), (20, (.invokevirtual 238, 160, 1)), (23, (.ireturn, 0, 0))]
/-- TypeAtNight.week()I -/
def k_122 : List (Nat × tm_N) := [(0, (.aload_n 0, 0, 0)), (1, (.invokevirtual 247, 164, 0)), (4, (.istore_n 1, 0, 0)), (5, (.iload_n 1, 0, 0)), (6, (.iconst (-1), 0, 0)), (7, (.if_icmp .eq 14, 21, 0)), (10, (.aload_n 0, 0, 0)), (11, (.getfield 10, 11, 0)), (14, (.invokevirtual 117, 66, 0)), (17, (.iconst (-1), 0, 0)), (18, (.iload_n 1, 0, 0)), (19, (.isub, 0, 0)), (20, (.ireturn, 0, 0)), (21, (.aload_n 0, 0, 0)), (22, (.getfield 36, 11, 5)), (25, (.aload_n 0, 0, 0)), (26, (.getfield 26, 11, 2)), (29, (.invokevirtual 232, 76, 1)), (32, (.iconst 0, 0, 0)), (33, (.istore_n 2, 0, 0)), (34, (.iconst 0, 0, 0)), (35, (.istore_n 3, 0, 0)), (36, (.iconst 0, 0, 0)), (37, (.istore 4, 0, 0)), (39, (.iconst 0, 0, 0)), (40, (.istore 5, 0, 0)), (42, (.iload 5, 0, 0)), (44, (.bipush 60, 0, 0)), (46, (.if_icmp .ge 72, 118, 0)), (49, (.iload_n 3, 0, 0)), (50, (.aload_n 0, 0, 0)), (51, (.getfield 10, 11, 0)), (54, (.invokevirtual 250, 67, 0)), (57, (.if_icmp .ge 61, 118, 0)), (60, (.iload 4, 0, 0)), (62, (.ifCond .ne 56, 118, 0)), (65, (.aload_n 0, 0, 0)), (66, (.iload_n 3, 0, 0)), (67, (.aload_n 0, 0, 0)), (68, (.getfield 10, 11, 0)), (71, (.invokevirtual 250, 67, 0)), (74, (.invokevirtual 252, 165, 2)), (77, (.istore 6, 0, 0)), (79, (.aload_n 0, 0, 0)), (80, (.iload_n 3, 0, 0)), (81, (.iload 6, 0, 0)), (83, (.invokevirtual 255, 167, 2)), (86, (.ifCond .ge 7, 93, 0)), (89, (.iconst 1, 0, 0)), (90, (.goto 4, 94, 0)), (93, (.iconst 0, 0, 0)), (94, (.istore 4, 0, 0)), (96, (.iload_n 2, 0, 0)), (97, (.iload 4, 0, 0)), (99, (.ifCond .eq 7, 106, 0)), (102, (.iconst 0, 0, 0)), (103, (.goto 4, 107, 0)), (106, (.iconst 1, 0, 0)), (107, (.iadd, 0, 0)), (108, (.istore_n 2, 0, 0)), (109, (.iload 6, 0, 0)), (111, (.istore_n 3, 0, 0)), (112, (.iinc 5 1, 0, 0)), (115, (.goto (-73), 42, 0)), (118, (.aload_n 0, 0, 0)), (119, (.getfield 10, 11, 0)), (122, (.invokevirtual 117, 66, 0)), (125, (.iload_n 2, 0, 0)), (126, (.ifCond .le 14, 140, 0)), (129, (.aload_n 0, 0, 0)), (130, (.getfield 42, 11, 6)), (133, (.aload_n 0, 0, 0)), (134, (.getfield 36, 11, 5)), (137, (.invokevirtual 204, 47, 1)), (140, (.aload_n 0, 0, 0)), (141, (.getfield 19, 11, 1)), (144, (.iload 4, 0, 0)), (146, (.ifCond .eq 7, 153, 0)), (149, (.lconst 1, 0, 0)), (150, (.goto 4, 154, 0)), (153, (.lconst 0, 0, 0)), (154, (.aload_n 0, 0, 0)), (155, (.getfield 26, 11, 2)), (158, (.getfield 147, 9, 5)), (161, (.invokestatic 258, 289, 1)), (164, (.i2l, 0, 0)), (165, (.invokevirtual 212, 39, 2)), (168, (.iload_n 2, 0, 0)), (169, (.ireturn, 0, 0))]
/-- TypeAtNight.undo()I -/
def k_123 : List (Nat × tm_N) := [(0, (.aload_n 0, 0, 0)), (1, (.getfield 42, 11, 6)), (4, (.aload_n 0, 0, 0)), (5, (.getfield 26, 11, 2)), (8, (.invokevirtual 263, 48, 1)), (11, (.ifCond .eq 13, 24, 0)), (14, (.aload_n 0, 0, 0)), (15, (.getfield 42, 11, 6)), (18, (.invokevirtual 267, 45, 0)), (21, (.goto 4, 25, 0)), (24, (.iconst (-1), 0, 0)), (25, (.ireturn, 0, 0))]
/-- TypeAtNight.tells()I -/
def k_124 : List (Nat × tm_N) := [(0, (.aload_n 0, 0, 0)), (1, (.invokevirtual 194, 159, 0)), (4, (.istore_n 1, 0, 0)), (5, (.iload_n 1, 0, 0)), (6, (.iconst (-1), 0, 0)), (7, (.if_icmp .eq 7, 14, 0)), (10, (.iconst (-1), 0, 0)), (11, (.iload_n 1, 0, 0)), (12, (.isub, 0, 0)), (13, (.ireturn, 0, 0)), (14, (.aload_n 0, 0, 0)), (15, (.getfield 26, 11, 2)), (18, (.aload_n 0, 0, 0)), (19, (.getfield 59, 11, 9)), (22, (.invokevirtual 200, 93, 1)), (25, (.istore_n 2, 0, 0)), (26, (.iload_n 2, 0, 0)), (27, (.iconst (-1), 0, 0)), (28, (.if_icmp .ne 6, 34, 0)), (31, (.bipush (-101), 0, 0)), (33, (.ireturn, 0, 0)), (34, (.aload_n 0, 0, 0)), (35, (.getfield 19, 11, 1)), (38, (.iload_n 2, 0, 0)), (39, (.i2l, 0, 0)), (40, (.invokevirtual 226, 38, 1)), (43, (.sipush 200, 0, 0)), (46, (.aload_n 0, 0, 0)), (47, (.getfield 26, 11, 2)), (50, (.iload_n 2, 0, 0)), (51, (.invokevirtual 165, 85, 1)), (54, (.iadd, 0, 0)), (55, (.ireturn, 0, 0))]
/-- TypeAtNight.often()I -/
def k_125 : List (Nat × tm_N) := [(0, (.aload_n 0, 0, 0)), (1, (.invokevirtual 194, 159, 0)), (4, (.istore_n 1, 0, 0)), (5, (.iload_n 1, 0, 0)), (6, (.iconst (-1), 0, 0)), (7, (.if_icmp .eq 7, 14, 0)), (10, (.iconst (-1), 0, 0)), (11, (.iload_n 1, 0, 0)), (12, (.isub, 0, 0)), (13, (.ireturn, 0, 0)), (14, (.bipush 12, 0, 0)), (16, (.istore_n 2, 0, 0)), (17, (.iconst 0, 0, 0)), (18, (.istore_n 3, 0, 0)), (19, (.iload_n 3, 0, 0)), (20, (.bipush 8, 0, 0)), (22, (.if_icmp .ge 44, 66, 0)), (25, (.aload_n 0, 0, 0)), (26, (.getfield 59, 11, 9)), (29, (.getfield 268, 3, 0)), (32, (.iload_n 3, 0, 0)), (33, (.iaload, 0, 0)), (34, (.ifCond .le 26, 60, 0)), (37, (.iload_n 2, 0, 0)), (38, (.aload_n 0, 0, 0)), (39, (.getfield 26, 11, 2)), (42, (.iload_n 3, 0, 0)), (43, (.invokevirtual 271, 82, 1)), (46, (.aload_n 0, 0, 0)), (47, (.getfield 59, 11, 9)), (50, (.getfield 268, 3, 0)), (53, (.iload_n 3, 0, 0)), (54, (.iaload, 0, 0)), (55, (.idiv, 0, 0)), (56, (.invokestatic 183, 0, 1002)), (59, (.istore_n 2, 0, 0)), (60, (.iinc 3 1, 0, 0)), (63, (.goto (-44), 19, 0)), (66, (.iconst 0, 0, 0)), (67, (.istore_n 3, 0, 0)), (68, (.iconst 0, 0, 0)), (69, (.istore 4, 0, 0)), (71, (.iload 4, 0, 0)), (73, (.bipush 8, 0, 0)), (75, (.if_icmp .ge 42, 117, 0)), (78, (.aload_n 0, 0, 0)), (79, (.getfield 26, 11, 2)), (82, (.iload 4, 0, 0)), (84, (.invokevirtual 271, 82, 1)), (87, (.iload_n 2, 0, 0)), (88, (.iconst 1, 0, 0)), (89, (.iadd, 0, 0)), (90, (.aload_n 0, 0, 0)), (91, (.getfield 59, 11, 9)), (94, (.getfield 268, 3, 0)), (97, (.iload 4, 0, 0)), (99, (.iaload, 0, 0)), (100, (.imul, 0, 0)), (101, (.if_icmp .ge 10, 111, 0)), (104, (.iload_n 3, 0, 0)), (105, (.iconst 1, 0, 0)), (106, (.iload 4, 0, 0)), (108, (.ishl, 0, 0)), (109, (.ior, 0, 0)), (110, (.istore_n 3, 0, 0)), (111, (.iinc 4 1, 0, 0)), (114, (.goto (-43), 71, 0)), (117, (.aload_n 0, 0, 0)), (118, (.getfield 19, 11, 1)), (121, (.iload_n 3, 0, 0)), (122, (.i2l, 0, 0)), (123, (.invokevirtual 226, 38, 1)), (126, (.iload_n 2, 0, 0)), (127, (.ireturn, 0, 0))]
/-- TypeAtNight.shortest()I -/
def k_126 : List (Nat × tm_N) := [(0, (.iconst 0, 0, 0)), (1, (.istore_n 1, 0, 0)), (2, (.iconst 1, 0, 0)), (3, (.istore_n 2, 0, 0)), (4, (.iload_n 2, 0, 0)), (5, (.bipush 8, 0, 0)), (7, (.if_icmp .ge 30, 37, 0)), (10, (.aload_n 0, 0, 0)), (11, (.getfield 26, 11, 2)), (14, (.iload_n 2, 0, 0)), (15, (.invokevirtual 271, 82, 1)), (18, (.aload_n 0, 0, 0)), (19, (.getfield 26, 11, 2)), (22, (.iload_n 1, 0, 0)), (23, (.invokevirtual 271, 82, 1)), (26, (.if_icmp .ge 5, 31, 0)), (29, (.iload_n 2, 0, 0)), (30, (.istore_n 1, 0, 0)), (31, (.iinc 2 1, 0, 0)), (34, (.goto (-30), 4, 0)), (37, (.aload_n 0, 0, 0)), (38, (.getfield 19, 11, 1)), (41, (.aload_n 0, 0, 0)), (42, (.getfield 26, 11, 2)), (45, (.iload_n 1, 0, 0)), (46, (.invokevirtual 271, 82, 1)), (49, (.i2l, 0, 0)), (50, (.aload_n 0, 0, 0)), (51, (.getfield 26, 11, 2)), (54, (.iload_n 1, 0, 0)), (55, (.invokevirtual 274, 81, 1)), (58, (.invokestatic 258, 289, 1)), (61, (.i2l, 0, 0)), (62, (.invokevirtual 212, 39, 2)), (65, (.iload_n 1, 0, 0)), (66, (.ireturn, 0, 0))]
/-- TypeAtNight.bears(I)I -/
def k_127 : List (Nat × tm_N) := [(0, (.aload_n 0, 0, 0)), (1, (.invokevirtual 194, 159, 0)), (4, (.istore_n 2, 0, 0)), (5, (.iload_n 2, 0, 0)), (6, (.iconst (-1), 0, 0)), (7, (.if_icmp .eq 7, 14, 0)), (10, (.iconst (-1), 0, 0)), (11, (.iload_n 2, 0, 0)), (12, (.isub, 0, 0)), (13, (.ireturn, 0, 0)), (14, (.iload_n 1, 0, 0)), (15, (.bipush (-108), 0, 0)), (17, (.if_icmp .lt 9, 26, 0)), (20, (.iload_n 1, 0, 0)), (21, (.bipush 108, 0, 0)), (23, (.if_icmp .le 6, 29, 0)), (26, (.bipush (-100), 0, 0)), (28, (.ireturn, 0, 0)), (29, (.aload_n 0, 0, 0)), (30, (.getfield 59, 11, 9)), (33, (.aload_n 0, 0, 0)), (34, (.getfield 26, 11, 2)), (37, (.invokevirtual 277, 22, 1)), (40, (.istore_n 3, 0, 0)), (41, (.iconst 0, 0, 0)), (42, (.istore 4, 0, 0)), (44, (.aload_n 0, 0, 0)), (45, (.getfield 19, 11, 1)), (48, (.invokevirtual 281, 36, 0)), (51, (.iconst 0, 0, 0)), (52, (.istore 5, 0, 0)), (54, (.iload 5, 0, 0)), (56, (.iload_n 3, 0, 0)), (57, (.if_icmp .gt 53, 110, 0)), (60, (.aload_n 0, 0, 0)), (61, (.getfield 59, 11, 9)), (64, (.iload 5, 0, 0)), (66, (.invokevirtual 282, 23, 1)), (69, (.ifCond .eq 35, 104, 0)), (72, (.aload_n 0, 0, 0)), (73, (.getfield 26, 11, 2)), (76, (.iload 5, 0, 0)), (78, (.invokevirtual 165, 85, 1)), (81, (.iload_n 1, 0, 0)), (82, (.if_icmp .ne 22, 104, 0)), (85, (.iinc 4 1, 0, 0)), (88, (.iload 4, 0, 0)), (90, (.iconst 1, 0, 0)), (91, (.if_icmp .ne 13, 104, 0)), (94, (.aload_n 0, 0, 0)), (95, (.getfield 19, 11, 1)), (98, (.iload 5, 0, 0)), (100, (.i2l, 0, 0)), (101, (.invokevirtual 226, 38, 1)), (104, (.iinc 5 1, 0, 0)), (107, (.goto (-53), 54, 0)), (110, (.iload 4, 0, 0)), (112, (.ireturn, 0, 0))]
/-- TypeAtNight.spans()I -/
def k_128 : List (Nat × tm_N) := [(0, (.aload_n 0, 0, 0)), (1, (.invokevirtual 194, 159, 0)), (4, (.istore_n 1, 0, 0)), (5, (.iload_n 1, 0, 0)), (6, (.iconst (-1), 0, 0)), (7, (.if_icmp .eq 7, 14, 0)), (10, (.iconst (-1), 0, 0)), (11, (.iload_n 1, 0, 0)), (12, (.isub, 0, 0)), (13, (.ireturn, 0, 0)), (14, (.aload_n 0, 0, 0)), (15, (.getfield 59, 11, 9)), (18, (.aload_n 0, 0, 0)), (19, (.getfield 26, 11, 2)), (22, (.invokevirtual 277, 22, 1)), (25, (.istore_n 2, 0, 0)), (26, (.iconst (-1), 0, 0)), (27, (.istore_n 3, 0, 0)), (28, (.iconst (-1), 0, 0)), (29, (.istore 4, 0, 0)), (31, (.iconst 0, 0, 0)), (32, (.istore 5, 0, 0)), (34, (.iload 5, 0, 0)), (36, (.iload_n 2, 0, 0)), (37, (.if_icmp .gt 77, 114, 0)), (40, (.aload_n 0, 0, 0)), (41, (.getfield 59, 11, 9)), (44, (.iload 5, 0, 0)), (46, (.invokevirtual 282, 23, 1)), (49, (.ifCond .eq 59, 108, 0)), (52, (.aload_n 0, 0, 0)), (53, (.getfield 26, 11, 2)), (56, (.iload 5, 0, 0)), (58, (.invokevirtual 165, 85, 1)), (61, (.istore 6, 0, 0)), (63, (.iload_n 3, 0, 0)), (64, (.iconst (-1), 0, 0)), (65, (.if_icmp .eq 16, 81, 0)), (68, (.iload 6, 0, 0)), (70, (.aload_n 0, 0, 0)), (71, (.getfield 26, 11, 2)), (74, (.iload_n 3, 0, 0)), (75, (.invokevirtual 165, 85, 1)), (78, (.if_icmp .ge 6, 84, 0)), (81, (.iload 5, 0, 0)), (83, (.istore_n 3, 0, 0)), (84, (.iload 4, 0, 0)), (86, (.iconst (-1), 0, 0)), (87, (.if_icmp .eq 17, 104, 0)), (90, (.iload 6, 0, 0)), (92, (.aload_n 0, 0, 0)), (93, (.getfield 26, 11, 2)), (96, (.iload 4, 0, 0)), (98, (.invokevirtual 165, 85, 1)), (101, (.if_icmp .le 7, 108, 0)), (104, (.iload 5, 0, 0)), (106, (.istore 4, 0, 0)), (108, (.iinc 5 1, 0, 0)), (111, (.goto (-77), 34, 0)), (114, (.iload_n 3, 0, 0)), (115, (.iconst (-1), 0, 0)), (116, (.if_icmp .ne 6, 122, 0)), (119, (.bipush (-101), 0, 0)), (121, (.ireturn, 0, 0)), (122, (.aload_n 0, 0, 0)), (123, (.getfield 19, 11, 1)), (126, (.sipush 200, 0, 0)), (129, (.aload_n 0, 0, 0)), (130, (.getfield 26, 11, 2)), (133, (.iload 4, 0, 0)), (135, (.invokevirtual 165, 85, 1)), (138, (.iadd, 0, 0)), (139, (.i2l, 0, 0)), (140, (.iload_n 3, 0, 0)), (141, (.i2l, 0, 0)), (142, (.iload 4, 0, 0)), (144, (.i2l, 0, 0)), (145, (.invokevirtual 285, 40, 3)), (148, (.sipush 200, 0, 0)), (151, (.aload_n 0, 0, 0)), (152, (.getfield 26, 11, 2)), (155, (.iload_n 3, 0, 0)), (156, (.invokevirtual 165, 85, 1)), (159, (.iadd, 0, 0)), (160, (.ireturn, 0, 0))]
/-- TypeAtNight.packs()I -/
def k_129 : List (Nat × tm_N) := [(0, (.aload_n 0, 0, 0)), (1, (.getfield 66, 11, 10)), (4, (.aload_n 0, 0, 0)), (5, (.getfield 10, 11, 0)), (8, (.invokevirtual 288, 106, 1)), (11, (.istore_n 1, 0, 0)), (12, (.aload_n 0, 0, 0)), (13, (.getfield 10, 11, 0)), (16, (.invokevirtual 117, 66, 0)), (19, (.iload_n 1, 0, 0)), (20, (.iconst (-1), 0, 0)), (21, (.if_icmp .eq 7, 28, 0)), (24, (.iconst (-1), 0, 0)), (25, (.iload_n 1, 0, 0)), (26, (.isub, 0, 0)), (27, (.ireturn, 0, 0)), (28, (.aload_n 0, 0, 0)), (29, (.getfield 66, 11, 10)), (32, (.aload_n 0, 0, 0)), (33, (.getfield 26, 11, 2)), (36, (.invokevirtual 289, 107, 1)), (39, (.istore_n 2, 0, 0)), (40, (.aload_n 0, 0, 0)), (41, (.getfield 19, 11, 1)), (44, (.iload_n 2, 0, 0)), (45, (.i2l, 0, 0)), (46, (.invokevirtual 226, 38, 1)), (49, (.iload_n 2, 0, 0)), (50, (.invokestatic 258, 289, 1)), (53, (.ireturn, 0, 0))]
/-- TypeAtNight.later(II)I -/
def k_130 : List (Nat × tm_N) := [(0, (.aload_n 0, 0, 0)), (1, (.getfield 26, 11, 2)), (4, (.iload_n 1, 0, 0)), (5, (.invokevirtual 124, 78, 1)), (8, (.ifCond .eq 13, 21, 0)), (11, (.iload_n 2, 0, 0)), (12, (.ifCond .lt 9, 21, 0)), (15, (.iload_n 2, 0, 0)), (16, (.bipush 99, 0, 0)), (18, (.if_icmp .le 5, 23, 0)), (21, (.iconst (-1), 0, 0)), (22, (.ireturn, 0, 0)), (23, (.aload_n 0, 0, 0)), (24, (.getfield 30, 11, 3)), (27, (.aload_n 0, 0, 0)), (28, (.getfield 26, 11, 2)), (31, (.invokevirtual 232, 76, 1)), (34, (.aload_n 0, 0, 0)), (35, (.getfield 30, 11, 3)), (38, (.aload_n 0, 0, 0)), (39, (.getfield 49, 11, 7)), (42, (.iload_n 2, 0, 0)), (43, (.aload_n 0, 0, 0)), (44, (.getfield 30, 11, 3)), (47, (.invokevirtual 216, 79, 0)), (50, (.invokevirtual 219, 100, 3)), (53, (.aload_n 0, 0, 0)), (54, (.getfield 19, 11, 1)), (57, (.aload_n 0, 0, 0)), (58, (.getfield 30, 11, 3)), (61, (.getfield 144, 9, 3)), (64, (.iload_n 1, 0, 0)), (65, (.iaload, 0, 0)), (66, (.i2l, 0, 0)), (67, (.sipush 200, 0, 0)), (70, (.aload_n 0, 0, 0)), (71, (.getfield 30, 11, 3)), (74, (.invokevirtual 223, 86, 0)), (77, (.iadd, 0, 0)), (78, (.i2l, 0, 0)), (79, (.invokevirtual 212, 39, 2)), (82, (.bipush 10, 0, 0)), (84, (.aload_n 0, 0, 0)), (85, (.getfield 30, 11, 3)), (88, (.getfield 141, 9, 2)), (91, (.iload_n 1, 0, 0)), (92, (.iaload, 0, 0)), (93, (.iadd, 0, 0)), (94, (.ireturn, 0, 0))]
/-- TypeAtNight.settles()I -/
def k_131 : List (Nat × tm_N) := [(0, (.aload_n 0, 0, 0)), (1, (.getfield 30, 11, 3)), (4, (.aload_n 0, 0, 0)), (5, (.getfield 26, 11, 2)), (8, (.invokevirtual 232, 76, 1)), (11, (.iconst 0, 0, 0)), (12, (.istore_n 1, 0, 0)), (13, (.iconst 1, 0, 0)), (14, (.istore_n 2, 0, 0)), (15, (.iload_n 2, 0, 0)), (16, (.bipush 99, 0, 0)), (18, (.if_icmp .gt 66, 84, 0)), (21, (.aload_n 0, 0, 0)), (22, (.getfield 30, 11, 3)), (25, (.aload_n 0, 0, 0)), (26, (.getfield 49, 11, 7)), (29, (.aload_n 0, 0, 0)), (30, (.getfield 30, 11, 3)), (33, (.invokevirtual 216, 79, 0)), (36, (.invokevirtual 292, 101, 2)), (39, (.ifCond .eq 7, 46, 0)), (42, (.iconst 0, 0, 0)), (43, (.goto 6, 49, 0)), (46, (.iload_n 1, 0, 0)), (47, (.iconst 1, 0, 0)), (48, (.iadd, 0, 0)), (49, (.istore_n 1, 0, 0)), (50, (.iload_n 1, 0, 0)), (51, (.iconst 3, 0, 0)), (52, (.if_icmp .ne 26, 78, 0)), (55, (.aload_n 0, 0, 0)), (56, (.getfield 19, 11, 1)), (59, (.sipush 200, 0, 0)), (62, (.aload_n 0, 0, 0)), (63, (.getfield 30, 11, 3)), (66, (.invokevirtual 223, 86, 0)), (69, (.iadd, 0, 0)), (70, (.i2l, 0, 0)), (71, (.invokevirtual 226, 38, 1)), (74, (.iload_n 2, 0, 0)), (75, (.iconst 3, 0, 0)), (76, (.isub, 0, 0)), (77, (.ireturn, 0, 0)), (78, (.iinc 2 1, 0, 0)), (81, (.goto (-66), 15, 0)), (84, (.bipush (-2), 0, 0)), (86, (.ireturn, 0, 0))]
/-- TypeAtNight.round()I -/
def k_132 : List (Nat × tm_N) := [(0, (.aload_n 0, 0, 0)), (1, (.getfield 30, 11, 3)), (4, (.aload_n 0, 0, 0)), (5, (.getfield 26, 11, 2)), (8, (.invokevirtual 232, 76, 1)), (11, (.aload_n 0, 0, 0)), (12, (.getfield 98, 11, 15)), (15, (.iconst 0, 0, 0)), (16, (.aload_n 0, 0, 0)), (17, (.getfield 30, 11, 3)), (20, (.invokevirtual 296, 92, 0)), (23, (.lastore, 0, 0)), (24, (.aload_n 0, 0, 0)), (25, (.getfield 26, 11, 2)), (28, (.getfield 147, 9, 5)), (31, (.ifCond .ne 7, 38, 0)), (34, (.iconst 0, 0, 0)), (35, (.goto 4, 39, 0)), (38, (.iconst 1, 0, 0)), (39, (.istore_n 1, 0, 0)), (40, (.iconst 1, 0, 0)), (41, (.istore_n 2, 0, 0)), (42, (.iload_n 2, 0, 0)), (43, (.bipush 99, 0, 0)), (45, (.if_icmp .gt 84, 129, 0)), (48, (.aload_n 0, 0, 0)), (49, (.getfield 30, 11, 3)), (52, (.aload_n 0, 0, 0)), (53, (.getfield 49, 11, 7)), (56, (.aload_n 0, 0, 0)), (57, (.getfield 30, 11, 3)), (60, (.invokevirtual 216, 79, 0)), (63, (.invokevirtual 292, 101, 2)), (66, (.pop, 0, 0)), (67, (.aload_n 0, 0, 0)), (68, (.getfield 98, 11, 15)), (71, (.iload_n 2, 0, 0)), (72, (.aload_n 0, 0, 0)), (73, (.getfield 30, 11, 3)), (76, (.invokevirtual 296, 92, 0)), (79, (.lastore, 0, 0)), (80, (.iload_n 2, 0, 0)), (81, (.bipush 7, 0, 0)), (83, (.isub, 0, 0)), (84, (.istore_n 3, 0, 0)), (85, (.iload_n 3, 0, 0)), (86, (.iload_n 1, 0, 0)), (87, (.if_icmp .lt 36, 123, 0)), (90, (.aload_n 0, 0, 0)), (91, (.getfield 98, 11, 15)), (94, (.iload_n 3, 0, 0)), (95, (.laload, 0, 0)), (96, (.aload_n 0, 0, 0)), (97, (.getfield 98, 11, 15)), (100, (.iload_n 2, 0, 0)), (101, (.laload, 0, 0)), (102, (.lcmp, 0, 0)), (103, (.ifCond .ne 14, 117, 0)), (106, (.aload_n 0, 0, 0)), (107, (.getfield 19, 11, 1)), (110, (.iload_n 3, 0, 0)), (111, (.i2l, 0, 0)), (112, (.invokevirtual 226, 38, 1)), (115, (.iload_n 2, 0, 0)), (116, (.ireturn, 0, 0)), (117, (.iinc 3 (-7), 0, 0)), (120, (.goto (-35), 85, 0)), (123, (.iinc 2 1, 0, 0)), (126, (.goto (-84), 42, 0)), (129, (.bipush (-2), 0, 0)), (131, (.ireturn, 0, 0))]
/-- TypeAtNight.gravest(I)I -/
def k_133 : List (Nat × tm_N) := [(0, (.iload_n 1, 0, 0)), (1, (.ifCond .lt 9, 10, 0)), (4, (.iload_n 1, 0, 0)), (5, (.bipush 99, 0, 0)), (7, (.if_icmp .le 5, 12, 0)), (10, (.iconst (-1), 0, 0)), (11, (.ireturn, 0, 0)), (12, (.aload_n 0, 0, 0)), (13, (.getfield 26, 11, 2)), (16, (.getfield 176, 9, 4)), (19, (.ifCond .ne 6, 25, 0)), (22, (.bipush (-2), 0, 0)), (24, (.ireturn, 0, 0)), (25, (.aload_n 0, 0, 0)), (26, (.getfield 30, 11, 3)), (29, (.aload_n 0, 0, 0)), (30, (.getfield 26, 11, 2)), (33, (.invokevirtual 232, 76, 1)), (36, (.aload_n 0, 0, 0)), (37, (.getfield 30, 11, 3)), (40, (.aload_n 0, 0, 0)), (41, (.getfield 49, 11, 7)), (44, (.iload_n 1, 0, 0)), (45, (.aload_n 0, 0, 0)), (46, (.getfield 30, 11, 3)), (49, (.invokevirtual 216, 79, 0)), (52, (.invokevirtual 219, 100, 3)), (55, (.iconst 0, 0, 0)), (56, (.istore_n 2, 0, 0)), (57, (.iconst 1, 0, 0)), (58, (.istore_n 3, 0, 0)), (59, (.iload_n 3, 0, 0)), (60, (.aload_n 0, 0, 0)), (61, (.getfield 30, 11, 3)), (64, (.getfield 176, 9, 4)), (67, (.if_icmp .ge 38, 105, 0)), (70, (.aload_n 0, 0, 0)), (71, (.getfield 30, 11, 3)), (74, (.getfield 141, 9, 2)), (77, (.iload_n 3, 0, 0)), (78, (.iaload, 0, 0)), (79, (.invokestatic 300, 0, 1003)), (82, (.aload_n 0, 0, 0)), (83, (.getfield 30, 11, 3)), (86, (.getfield 141, 9, 2)), (89, (.iload_n 2, 0, 0)), (90, (.iaload, 0, 0)), (91, (.invokestatic 300, 0, 1003)), (94, (.if_icmp .le 5, 99, 0)), (97, (.iload_n 3, 0, 0)), (98, (.istore_n 2, 0, 0)), (99, (.iinc 3 1, 0, 0)), (102, (.goto (-43), 59, 0)), (105, (.aload_n 0, 0, 0)), (106, (.getfield 19, 11, 1)), (109, (.bipush 10, 0, 0)), (111, (.aload_n 0, 0, 0)), (112, (.getfield 30, 11, 3)), (115, (.getfield 141, 9, 2)), (118, (.iload_n 2, 0, 0)), (119, (.iaload, 0, 0)), (120, (.iadd, 0, 0)), (121, (.i2l, 0, 0)), (122, (.bipush 10, 0, 0)), (124, (.aload_n 0, 0, 0)), (125, (.getfield 26, 11, 2)), (128, (.getfield 141, 9, 2)), (131, (.iload_n 2, 0, 0)), (132, (.iaload, 0, 0)), (133, (.iadd, 0, 0)), (134, (.i2l, 0, 0)), (135, (.invokevirtual 212, 39, 2)), (138, (.iload_n 2, 0, 0)), (139, (.ireturn, 0, 0))]
/-- TypeAtNight.blows(II)I -/
def k_134 : List (Nat × tm_N) := [(0, (.iload_n 1, 0, 0)), (1, (.ifCond .lt 19, 20, 0)), (4, (.iload_n 1, 0, 0)), (5, (.bipush 20, 0, 0)), (7, (.if_icmp .gt 13, 20, 0)), (10, (.iload_n 2, 0, 0)), (11, (.ifCond .lt 9, 20, 0)), (14, (.iload_n 2, 0, 0)), (15, (.bipush 9, 0, 0)), (17, (.if_icmp .le 5, 22, 0)), (20, (.iconst (-1), 0, 0)), (21, (.ireturn, 0, 0)), (22, (.aload_n 0, 0, 0)), (23, (.getfield 30, 11, 3)), (26, (.aload_n 0, 0, 0)), (27, (.getfield 26, 11, 2)), (30, (.invokevirtual 232, 76, 1)), (33, (.aload_n 0, 0, 0)), (34, (.getfield 30, 11, 3)), (37, (.invokevirtual 303, 99, 0)), (40, (.iconst 0, 0, 0)), (41, (.istore_n 3, 0, 0)), (42, (.iconst 0, 0, 0)), (43, (.istore 4, 0, 0)), (45, (.iload 4, 0, 0)), (47, (.bipush 8, 0, 0)), (49, (.if_icmp .ge 40, 89, 0)), (52, (.aload_n 0, 0, 0)), (53, (.aload_n 0, 0, 0)), (54, (.getfield 30, 11, 3)), (57, (.iload 4, 0, 0)), (59, (.invokevirtual 162, 83, 1)), (62, (.iload_n 1, 0, 0)), (63, (.iload_n 2, 0, 0)), (64, (.invokevirtual 306, 169, 3)), (67, (.istore 5, 0, 0)), (69, (.iload 5, 0, 0)), (71, (.iconst (-1), 0, 0)), (72, (.if_icmp .ne 6, 78, 0)), (75, (.bipush (-2), 0, 0)), (77, (.ireturn, 0, 0)), (78, (.iload_n 3, 0, 0)), (79, (.iload 5, 0, 0)), (81, (.ior, 0, 0)), (82, (.istore_n 3, 0, 0)), (83, (.iinc 4 1, 0, 0)), (86, (.goto (-41), 45, 0)), (89, (.aload_n 0, 0, 0)), (90, (.getfield 19, 11, 1)), (93, (.iload_n 3, 0, 0)), (94, (.i2l, 0, 0)), (95, (.invokevirtual 226, 38, 1)), (98, (.iload_n 3, 0, 0)), (99, (.invokestatic 258, 289, 1)), (102, (.ireturn, 0, 0))]
/-- TypeAtNight.parts()I -/
def k_135 : List (Nat × tm_N) := [(0, (.aload_n 0, 0, 0)), (1, (.getfield 73, 11, 11)), (4, (.aload_n 0, 0, 0)), (5, (.getfield 10, 11, 0)), (8, (.invokevirtual 310, 2, 1)), (11, (.istore_n 1, 0, 0)), (12, (.aload_n 0, 0, 0)), (13, (.getfield 10, 11, 0)), (16, (.invokevirtual 117, 66, 0)), (19, (.iload_n 1, 0, 0)), (20, (.iconst (-1), 0, 0)), (21, (.if_icmp .eq 7, 28, 0)), (24, (.iconst (-1), 0, 0)), (25, (.iload_n 1, 0, 0)), (26, (.isub, 0, 0)), (27, (.ireturn, 0, 0)), (28, (.aload_n 0, 0, 0)), (29, (.getfield 73, 11, 11)), (32, (.invokevirtual 311, 4, 0)), (35, (.istore_n 2, 0, 0)), (36, (.aload_n 0, 0, 0)), (37, (.getfield 19, 11, 1)), (40, (.invokevirtual 281, 36, 0)), (43, (.iconst 0, 0, 0)), (44, (.istore_n 3, 0, 0)), (45, (.iload_n 3, 0, 0)), (46, (.bipush 8, 0, 0)), (48, (.if_icmp .ge 26, 74, 0)), (51, (.aload_n 0, 0, 0)), (52, (.getfield 19, 11, 1)), (55, (.aload_n 0, 0, 0)), (56, (.getfield 73, 11, 11)), (59, (.getfield 314, 0, 0)), (62, (.iload_n 3, 0, 0)), (63, (.iaload, 0, 0)), (64, (.i2l, 0, 0)), (65, (.invokevirtual 317, 37, 1)), (68, (.iinc 3 1, 0, 0)), (71, (.goto (-26), 45, 0)), (74, (.iload_n 2, 0, 0)), (75, (.ireturn, 0, 0))]
/-- TypeAtNight.mixed()I -/
def k_136 : List (Nat × tm_N) := [(0, (.iconst 0, 0, 0)), (1, (.istore_n 1, 0, 0)), (2, (.iconst 0, 0, 0)), (3, (.istore_n 2, 0, 0)), (4, (.iload_n 2, 0, 0)), (5, (.bipush 8, 0, 0)), (7, (.if_icmp .ge 26, 33, 0)), (10, (.aload_n 0, 0, 0)), (11, (.getfield 26, 11, 2)), (14, (.iload_n 2, 0, 0)), (15, (.invokevirtual 320, 90, 1)), (18, (.ifCond .eq 9, 27, 0)), (21, (.iload_n 1, 0, 0)), (22, (.iconst 1, 0, 0)), (23, (.iload_n 2, 0, 0)), (24, (.ishl, 0, 0)), (25, (.ior, 0, 0)), (26, (.istore_n 1, 0, 0)), (27, (.iinc 2 1, 0, 0)), (30, (.goto (-26), 4, 0)), (33, (.aload_n 0, 0, 0)), (34, (.getfield 19, 11, 1)), (37, (.iload_n 1, 0, 0)), (38, (.i2l, 0, 0)), (39, (.invokevirtual 226, 38, 1)), (42, (.aload_n 0, 0, 0)), (43, (.getfield 26, 11, 2)), (46, (.getfield 176, 9, 4)), (49, (.aload_n 0, 0, 0)), (50, (.getfield 26, 11, 2)), (53, (.invokevirtual 229, 89, 0)), (56, (.isub, 0, 0)), (57, (.ireturn, 0, 0))]
/-- TypeAtNight.rubs()I -/
def k_137 : List (Nat × tm_N) := [(0, (.iconst (-1), 0, 0)), (1, (.istore_n 1, 0, 0)), (2, (.iconst 0, 0, 0)), (3, (.istore_n 2, 0, 0)), (4, (.iload_n 2, 0, 0)), (5, (.aload_n 0, 0, 0)), (6, (.getfield 26, 11, 2)), (9, (.getfield 176, 9, 4)), (12, (.if_icmp .ge 95, 107, 0)), (15, (.iload_n 2, 0, 0)), (16, (.iconst 1, 0, 0)), (17, (.iadd, 0, 0)), (18, (.istore_n 3, 0, 0)), (19, (.iload_n 3, 0, 0)), (20, (.aload_n 0, 0, 0)), (21, (.getfield 26, 11, 2)), (24, (.getfield 176, 9, 4)), (27, (.if_icmp .ge 74, 101, 0)), (30, (.aload_n 0, 0, 0)), (31, (.getfield 26, 11, 2)), (34, (.getfield 141, 9, 2)), (37, (.iload_n 2, 0, 0)), (38, (.iaload, 0, 0)), (39, (.aload_n 0, 0, 0)), (40, (.getfield 26, 11, 2)), (43, (.getfield 141, 9, 2)), (46, (.iload_n 3, 0, 0)), (47, (.iaload, 0, 0)), (48, (.isub, 0, 0)), (49, (.invokestatic 300, 0, 1003)), (52, (.istore 4, 0, 0)), (54, (.aload_n 0, 0, 0)), (55, (.getfield 26, 11, 2)), (58, (.getfield 144, 9, 3)), (61, (.iload_n 2, 0, 0)), (62, (.iaload, 0, 0)), (63, (.aload_n 0, 0, 0)), (64, (.getfield 26, 11, 2)), (67, (.getfield 144, 9, 3)), (70, (.iload_n 3, 0, 0)), (71, (.iaload, 0, 0)), (72, (.if_icmp .ne 23, 95, 0)), (75, (.iload 4, 0, 0)), (77, (.iload_n 1, 0, 0)), (78, (.if_icmp .le 17, 95, 0)), (81, (.iload 4, 0, 0)), (83, (.istore_n 1, 0, 0)), (84, (.aload_n 0, 0, 0)), (85, (.getfield 19, 11, 1)), (88, (.iload_n 2, 0, 0)), (89, (.i2l, 0, 0)), (90, (.iload_n 3, 0, 0)), (91, (.i2l, 0, 0)), (92, (.invokevirtual 212, 39, 2)), (95, (.iinc 3 1, 0, 0)), (98, (.goto (-79), 19, 0)), (101, (.iinc 2 1, 0, 0)), (104, (.goto (-100), 4, 0)), (107, (.iload_n 1, 0, 0)), (108, (.iconst (-1), 0, 0)), (109, (.if_icmp .ne 8, 117, 0)), (112, (.bipush (-2), 0, 0)), (114, (.goto 4, 118, 0)), (117, (.iload_n 1, 0, 0)), (118, (.ireturn, 0, 0))]
/-- TypeAtNight.chord(I)I -/
def k_138 : List (Nat × tm_N) := [(0, (.iload_n 1, 0, 0)), (1, (.bipush (-72), 0, 0)), (3, (.if_icmp .lt 9, 12, 0)), (6, (.iload_n 1, 0, 0)), (7, (.bipush 72, 0, 0)), (9, (.if_icmp .le 6, 15, 0)), (12, (.bipush (-100), 0, 0)), (14, (.ireturn, 0, 0)), (15, (.aload_n 0, 0, 0)), (16, (.getfield 26, 11, 2)), (19, (.invokevirtual 323, 80, 0)), (22, (.istore_n 2, 0, 0)), (23, (.iconst (-1), 0, 0)), (24, (.istore_n 3, 0, 0)), (25, (.iconst (-1), 0, 0)), (26, (.istore 4, 0, 0)), (28, (.iconst 0, 0, 0)), (29, (.istore 5, 0, 0)), (31, (.iload 5, 0, 0)), (33, (.iload_n 2, 0, 0)), (34, (.if_icmp .gt 66, 100, 0)), (37, (.iload 5, 0, 0)), (39, (.invokestatic 258, 289, 1)), (42, (.istore 6, 0, 0)), (44, (.iload 5, 0, 0)), (46, (.iload_n 2, 0, 0)), (47, (.iconst (-1), 0, 0)), (48, (.ixor, 0, 0)), (49, (.iand, 0, 0)), (50, (.ifCond .ne 44, 94, 0)), (53, (.iload 6, 0, 0)), (55, (.iload 4, 0, 0)), (57, (.if_icmp .le 37, 94, 0)), (60, (.aload_n 0, 0, 0)), (61, (.getfield 26, 11, 2)), (64, (.iload 5, 0, 0)), (66, (.invokevirtual 165, 85, 1)), (69, (.iload_n 1, 0, 0)), (70, (.if_icmp .ne 24, 94, 0)), (73, (.aload_n 0, 0, 0)), (74, (.getfield 26, 11, 2)), (77, (.iload 5, 0, 0)), (79, (.invokevirtual 326, 91, 1)), (82, (.iload 6, 0, 0)), (84, (.if_icmp .ne 10, 94, 0)), (87, (.iload 5, 0, 0)), (89, (.istore_n 3, 0, 0)), (90, (.iload 6, 0, 0)), (92, (.istore 4, 0, 0)), (94, (.iinc 5 1, 0, 0)), (97, (.goto (-66), 31, 0)), (100, (.iload_n 3, 0, 0)), (101, (.iconst (-1), 0, 0)), (102, (.if_icmp .ne 6, 108, 0)), (105, (.bipush (-2), 0, 0)), (107, (.ireturn, 0, 0)), (108, (.aload_n 0, 0, 0)), (109, (.getfield 19, 11, 1)), (112, (.iload_n 3, 0, 0)), (113, (.i2l, 0, 0)), (114, (.invokevirtual 226, 38, 1)), (117, (.iload 4, 0, 0)), (119, (.ireturn, 0, 0))]
/-- TypeAtNight.heard(II)I -/
def k_139 : List (Nat × tm_N) := [(0, (.aload_n 0, 0, 0)), (1, (.getfield 80, 11, 12)), (4, (.iload_n 1, 0, 0)), (5, (.iload_n 2, 0, 0)), (6, (.invokevirtual 329, 12, 2)), (9, (.ireturn, 0, 0))]
/-- TypeAtNight.forget()I -/
def k_140 : List (Nat × tm_N) := [(0, (.aload_n 0, 0, 0)), (1, (.getfield 80, 11, 12)), (4, (.invokevirtual 332, 13, 0)), (7, (.ireturn, 0, 0))]
/-- TypeAtNight.fits()I -/
def k_141 : List (Nat × tm_N) := [(0, (.aload_n 0, 0, 0)), (1, (.getfield 80, 11, 12)), (4, (.aload_n 0, 0, 0)), (5, (.getfield 26, 11, 2)), (8, (.invokevirtual 334, 15, 1)), (11, (.istore_n 1, 0, 0)), (12, (.aload_n 0, 0, 0)), (13, (.getfield 19, 11, 1)), (16, (.iload_n 1, 0, 0)), (17, (.invokestatic 258, 289, 1)), (20, (.i2l, 0, 0)), (21, (.invokevirtual 226, 38, 1)), (24, (.iload_n 1, 0, 0)), (25, (.ireturn, 0, 0))]
/-- TypeAtNight.asks()I -/
def k_142 : List (Nat × tm_N) := [(0, (.aload_n 0, 0, 0)), (1, (.getfield 80, 11, 12)), (4, (.aload_n 0, 0, 0)), (5, (.getfield 26, 11, 2)), (8, (.invokevirtual 334, 15, 1)), (11, (.istore_n 1, 0, 0)), (12, (.iload_n 1, 0, 0)), (13, (.ifCond .ne 6, 19, 0)), (16, (.bipush (-2), 0, 0)), (18, (.ireturn, 0, 0)), (19, (.aload_n 0, 0, 0)), (20, (.getfield 80, 11, 12)), (23, (.aload_n 0, 0, 0)), (24, (.getfield 26, 11, 2)), (27, (.iload_n 1, 0, 0)), (28, (.invokevirtual 337, 19, 2)), (31, (.istore_n 2, 0, 0)), (32, (.aload_n 0, 0, 0)), (33, (.getfield 19, 11, 1)), (36, (.aload_n 0, 0, 0)), (37, (.getfield 80, 11, 12)), (40, (.aload_n 0, 0, 0)), (41, (.getfield 26, 11, 2)), (44, (.iload_n 1, 0, 0)), (45, (.iload_n 2, 0, 0)), (46, (.invokevirtual 341, 18, 3)), (49, (.i2l, 0, 0)), (50, (.invokevirtual 226, 38, 1)), (53, (.iload_n 2, 0, 0)), (54, (.ireturn, 0, 0))]
/-- TypeAtNight.saw(III)I -/
def k_143 : List (Nat × tm_N) := [(0, (.iload_n 1, 0, 0)), (1, (.invokestatic 197, 156, 1)), (4, (.ifCond .eq 17, 21, 0)), (7, (.iload_n 2, 0, 0)), (8, (.invokestatic 197, 156, 1)), (11, (.ifCond .eq 10, 21, 0)), (14, (.iload_n 3, 0, 0)), (15, (.invokestatic 197, 156, 1)), (18, (.ifCond .ne 5, 23, 0)), (21, (.iconst (-1), 0, 0)), (22, (.ireturn, 0, 0)), (23, (.aload_n 0, 0, 0)), (24, (.getfield 87, 11, 13)), (27, (.iload_n 1, 0, 0)), (28, (.iload_n 2, 0, 0)), (29, (.iload_n 3, 0, 0)), (30, (.invokevirtual 345, 26, 3)), (33, (.ireturn, 0, 0))]
/-- TypeAtNight.denies()I -/
def k_144 : List (Nat × tm_N) := [(0, (.aload_n 0, 0, 0)), (1, (.getfield 87, 11, 13)), (4, (.invokevirtual 348, 27, 0)), (7, (.ireturn, 0, 0))]
/-- TypeAtNight.laws()I -/
def k_145 : List (Nat × tm_N) := [(0, (.aload_n 0, 0, 0)), (1, (.getfield 87, 11, 13)), (4, (.invokevirtual 349, 31, 0)), (7, (.istore_n 1, 0, 0)), (8, (.aload_n 0, 0, 0)), (9, (.getfield 19, 11, 1)), (12, (.invokevirtual 281, 36, 0)), (15, (.iload_n 1, 0, 0)), (16, (.ifCond .eq 25, 41, 0)), (19, (.iload_n 1, 0, 0)), (20, (.invokestatic 351, 288, 1)), (23, (.istore_n 2, 0, 0)), (24, (.aload_n 0, 0, 0)), (25, (.getfield 19, 11, 1)), (28, (.iload_n 2, 0, 0)), (29, (.invokestatic 354, 28, 1)), (32, (.i2l, 0, 0)), (33, (.iload_n 2, 0, 0)), (34, (.invokestatic 357, 29, 1)), (37, (.i2l, 0, 0)), (38, (.invokevirtual 212, 39, 2)), (41, (.iload_n 1, 0, 0)), (42, (.invokestatic 258, 289, 1)), (45, (.ireturn, 0, 0))]
/-- TypeAtNight.looks()I -/
def k_146 : List (Nat × tm_N) := [(0, (.aload_n 0, 0, 0)), (1, (.getfield 87, 11, 13)), (4, (.invokevirtual 349, 31, 0)), (7, (.istore_n 1, 0, 0)), (8, (.iload_n 1, 0, 0)), (9, (.ifCond .ne 6, 15, 0)), (12, (.bipush (-2), 0, 0)), (14, (.ireturn, 0, 0)), (15, (.aload_n 0, 0, 0)), (16, (.getfield 87, 11, 13)), (19, (.iload_n 1, 0, 0)), (20, (.invokevirtual 360, 34, 1)), (23, (.istore_n 2, 0, 0)), (24, (.aload_n 0, 0, 0)), (25, (.getfield 19, 11, 1)), (28, (.aload_n 0, 0, 0)), (29, (.getfield 87, 11, 13)), (32, (.iload_n 1, 0, 0)), (33, (.iload_n 2, 0, 0)), (34, (.invokevirtual 363, 33, 2)), (37, (.i2l, 0, 0)), (38, (.invokevirtual 226, 38, 1)), (41, (.iload_n 2, 0, 0)), (42, (.ireturn, 0, 0))]
/-- TypeAtNight.reads(I)I -/
def k_147 : List (Nat × tm_N) := [(0, (.aload_n 0, 0, 0)), (1, (.invokevirtual 194, 159, 0)), (4, (.istore_n 2, 0, 0)), (5, (.iload_n 2, 0, 0)), (6, (.iconst (-1), 0, 0)), (7, (.if_icmp .eq 7, 14, 0)), (10, (.iconst (-1), 0, 0)), (11, (.iload_n 2, 0, 0)), (12, (.isub, 0, 0)), (13, (.ireturn, 0, 0)), (14, (.iload_n 1, 0, 0)), (15, (.ifCond .lt 9, 24, 0)), (18, (.iload_n 1, 0, 0)), (19, (.bipush 10, 0, 0)), (21, (.if_icmp .le 6, 27, 0)), (24, (.bipush (-100), 0, 0)), (26, (.ireturn, 0, 0)), (27, (.aload_n 0, 0, 0)), (28, (.getfield 26, 11, 2)), (31, (.aload_n 0, 0, 0)), (32, (.getfield 59, 11, 9)), (35, (.invokevirtual 200, 93, 1)), (38, (.iconst (-1), 0, 0)), (39, (.if_icmp .ne 6, 45, 0)), (42, (.bipush (-101), 0, 0)), (44, (.ireturn, 0, 0)), (45, (.lconst 1, 0, 0)), (46, (.lstore_n 3, 0, 0)), (47, (.ldc2_w 365, 10, 0)), (50, (.lstore 5, 0, 0)), (52, (.iconst 1, 0, 0)), (53, (.istore 7, 0, 0)), (55, (.iload 7, 0, 0)), (57, (.aload_n 0, 0, 0)), (58, (.getfield 59, 11, 9)), (61, (.getfield 367, 3, 1)), (64, (.if_icmp .ge 25, 89, 0)), (67, (.lload_n 3, 0, 0)), (68, (.bipush 10, 0, 0)), (70, (.iload_n 1, 0, 0)), (71, (.isub, 0, 0)), (72, (.i2l, 0, 0)), (73, (.lmul, 0, 0)), (74, (.lstore_n 3, 0, 0)), (75, (.lload 5, 0, 0)), (77, (.ldc2_w 365, 10, 0)), (80, (.lmul, 0, 0)), (81, (.lstore 5, 0, 0)), (83, (.iinc 7 1, 0, 0)), (86, (.goto (-31), 55, 0)), (89, (.lload_n 3, 0, 0)), (90, (.bipush 10, 0, 0)), (92, (.iload_n 1, 0, 0)), (93, (.isub, 0, 0)), (94, (.i2l, 0, 0)), (95, (.lmul, 0, 0)), (96, (.aload_n 0, 0, 0)), (97, (.getfield 59, 11, 9)), (100, (.getfield 367, 3, 1)), (103, (.iload_n 1, 0, 0)), (104, (.imul, 0, 0)), (105, (.i2l, 0, 0)), (106, (.lload_n 3, 0, 0)), (107, (.lmul, 0, 0)), (108, (.ladd, 0, 0)), (109, (.lstore 7, 0, 0)), (111, (.lload 5, 0, 0)), (113, (.lload 7, 0, 0)), (115, (.invokestatic 368, 171, 2)), (118, (.lstore 9, 0, 0)), (120, (.lload 9, 0, 0)), (122, (.lconst 0, 0, 0)), (123, (.lcmp, 0, 0)), (124, (.ifCond .le 20, 144, 0)), (127, (.aload_n 0, 0, 0)), (128, (.getfield 19, 11, 1)), (131, (.lload 7, 0, 0)), (133, (.lload 9, 0, 0)), (135, (.ldiv, 0, 0)), (136, (.lload 5, 0, 0)), (138, (.lload 9, 0, 0)), (140, (.ldiv, 0, 0)), (141, (.invokevirtual 212, 39, 2)), (144, (.iconst 0, 0, 0)), (145, (.ireturn, 0, 0))]
/-- TypeAtNight.galley(I)I -/
def k_148 : List (Nat × tm_N) := [(0, (.iload_n 1, 0, 0)), (1, (.ifCond .lt 9, 10, 0)), (4, (.iload_n 1, 0, 0)), (5, (.bipush 60, 0, 0)), (7, (.if_icmp .le 5, 12, 0)), (10, (.iconst (-1), 0, 0)), (11, (.ireturn, 0, 0)), (12, (.aload_n 0, 0, 0)), (13, (.getfield 94, 11, 14)), (16, (.iload_n 1, 0, 0)), (17, (.invokevirtual 372, 8, 1)), (20, (.istore_n 2, 0, 0)), (21, (.aload_n 0, 0, 0)), (22, (.getfield 19, 11, 1)), (25, (.invokevirtual 281, 36, 0)), (28, (.iload_n 2, 0, 0)), (29, (.iconst (-1), 0, 0)), (30, (.if_icmp .eq 12, 42, 0)), (33, (.aload_n 0, 0, 0)), (34, (.getfield 19, 11, 1)), (37, (.iload_n 2, 0, 0)), (38, (.i2l, 0, 0)), (39, (.invokevirtual 226, 38, 1)), (42, (.iload_n 2, 0, 0)), (43, (.iconst (-1), 0, 0)), (44, (.if_icmp .ne 7, 51, 0)), (47, (.iconst 0, 0, 0)), (48, (.goto 4, 52, 0)), (51, (.iconst 1, 0, 0)), (52, (.ireturn, 0, 0))]
/-- TypeAtNight.rests(I)I -/
def k_149 : List (Nat × tm_N) := [(0, (.iload_n 1, 0, 0)), (1, (.ifCond .lt 9, 10, 0)), (4, (.iload_n 1, 0, 0)), (5, (.bipush 20, 0, 0)), (7, (.if_icmp .le 5, 12, 0)), (10, (.iconst (-1), 0, 0)), (11, (.ireturn, 0, 0)), (12, (.iconst 0, 0, 0)), (13, (.istore_n 2, 0, 0)), (14, (.aload_n 0, 0, 0)), (15, (.getfield 19, 11, 1)), (18, (.invokevirtual 281, 36, 0)), (21, (.iconst 0, 0, 0)), (22, (.istore_n 3, 0, 0)), (23, (.iload_n 3, 0, 0)), (24, (.bipush 9, 0, 0)), (26, (.if_icmp .gt 65, 91, 0)), (29, (.iconst 0, 0, 0)), (30, (.istore 4, 0, 0)), (32, (.iload 4, 0, 0)), (34, (.bipush 9, 0, 0)), (36, (.if_icmp .gt 49, 85, 0)), (39, (.iload_n 1, 0, 0)), (40, (.iload_n 3, 0, 0)), (41, (.iload 4, 0, 0)), (43, (.invokestatic 375, 173, 3)), (46, (.ifCond .eq 33, 79, 0)), (49, (.iload_n 1, 0, 0)), (50, (.iload 4, 0, 0)), (52, (.iload_n 3, 0, 0)), (53, (.invokestatic 375, 173, 3)), (56, (.ifCond .eq 23, 79, 0)), (59, (.iinc 2 1, 0, 0)), (62, (.iload_n 2, 0, 0)), (63, (.iconst 1, 0, 0)), (64, (.if_icmp .ne 15, 79, 0)), (67, (.aload_n 0, 0, 0)), (68, (.getfield 19, 11, 1)), (71, (.iload_n 3, 0, 0)), (72, (.i2l, 0, 0)), (73, (.iload 4, 0, 0)), (75, (.i2l, 0, 0)), (76, (.invokevirtual 212, 39, 2)), (79, (.iinc 4 1, 0, 0)), (82, (.goto (-50), 32, 0)), (85, (.iinc 3 1, 0, 0)), (88, (.goto (-65), 23, 0)), (91, (.iload_n 2, 0, 0)), (92, (.ireturn, 0, 0))]
/-- TypeAtNight.law()I -/
def k_150 : List (Nat × tm_N) := [(0, (.aload_n 0, 0, 0)), (1, (.getfield 53, 11, 8)), (4, (.aload_n 0, 0, 0)), (5, (.getfield 10, 11, 0)), (8, (.invokevirtual 120, 53, 1)), (11, (.istore_n 1, 0, 0)), (12, (.aload_n 0, 0, 0)), (13, (.getfield 10, 11, 0)), (16, (.invokevirtual 117, 66, 0)), (19, (.iload_n 1, 0, 0)), (20, (.iconst (-1), 0, 0)), (21, (.if_icmp .eq 9, 30, 0)), (24, (.sipush (-10000), 0, 0)), (27, (.iload_n 1, 0, 0)), (28, (.isub, 0, 0)), (29, (.ireturn, 0, 0)), (30, (.aload_n 0, 0, 0)), (31, (.getfield 30, 11, 3)), (34, (.aload_n 0, 0, 0)), (35, (.getfield 26, 11, 2)), (38, (.invokevirtual 232, 76, 1)), (41, (.aload_n 0, 0, 0)), (42, (.getfield 30, 11, 3)), (45, (.aload_n 0, 0, 0)), (46, (.getfield 49, 11, 7)), (49, (.iconst 5, 0, 0)), (50, (.aload_n 0, 0, 0)), (51, (.getfield 30, 11, 3)), (54, (.invokevirtual 216, 79, 0)), (57, (.invokevirtual 219, 100, 3)), (60, (.aload_n 0, 0, 0)), (61, (.getfield 30, 11, 3)), (64, (.invokevirtual 379, 87, 0)), (67, (.istore_n 2, 0, 0)), (68, (.aload_n 0, 0, 0)), (69, (.getfield 30, 11, 3)), (72, (.aload_n 0, 0, 0)), (73, (.getfield 26, 11, 2)), (76, (.invokevirtual 232, 76, 1)), (79, (.aload_n 0, 0, 0)), (80, (.getfield 30, 11, 3)), (83, (.aload_n 0, 0, 0)), (84, (.getfield 53, 11, 8)), (87, (.iconst 5, 0, 0)), (88, (.aload_n 0, 0, 0)), (89, (.getfield 30, 11, 3)), (92, (.invokevirtual 216, 79, 0)), (95, (.invokevirtual 219, 100, 3)), (98, (.aload_n 0, 0, 0)), (99, (.getfield 30, 11, 3)), (102, (.invokevirtual 379, 87, 0)), (105, (.istore_n 3, 0, 0)), (106, (.aload_n 0, 0, 0)), (107, (.getfield 19, 11, 1)), (110, (.iload_n 3, 0, 0)), (111, (.i2l, 0, 0)), (112, (.iload_n 2, 0, 0)), (113, (.i2l, 0, 0)), (114, (.invokevirtual 212, 39, 2)), (117, (.iconst 0, 0, 0)), (118, (.istore 4, 0, 0)), (120, (.iload 4, 0, 0)), (122, (.aload_n 0, 0, 0)), (123, (.getfield 30, 11, 3)), (126, (.getfield 176, 9, 4)), (129, (.if_icmp .ge 30, 159, 0)), (132, (.aload_n 0, 0, 0)), (133, (.getfield 19, 11, 1)), (136, (.bipush 10, 0, 0)), (138, (.aload_n 0, 0, 0)), (139, (.getfield 30, 11, 3)), (142, (.getfield 141, 9, 2)), (145, (.iload 4, 0, 0)), (147, (.iaload, 0, 0)), (148, (.iadd, 0, 0)), (149, (.i2l, 0, 0)), (150, (.invokevirtual 317, 37, 1)), (153, (.iinc 4 1, 0, 0)), (156, (.goto (-36), 120, 0)), (159, (.iload_n 3, 0, 0)), (160, (.iload_n 2, 0, 0)), (161, (.isub, 0, 0)), (162, (.ireturn, 0, 0))]
/-- TypeAtNight.years(II)I -/
def k_151 : List (Nat × tm_N) := [(0, (.iload_n 2, 0, 0)), (1, (.iconst 1, 0, 0)), (2, (.if_icmp .lt 9, 11, 0)), (5, (.iload_n 2, 0, 0)), (6, (.bipush 60, 0, 0)), (8, (.if_icmp .le 5, 13, 0)), (11, (.iconst (-1), 0, 0)), (12, (.ireturn, 0, 0)), (13, (.aload_n 0, 0, 0)), (14, (.getfield 30, 11, 3)), (17, (.aload_n 0, 0, 0)), (18, (.getfield 26, 11, 2)), (21, (.invokevirtual 232, 76, 1)), (24, (.iload_n 1, 0, 0)), (25, (.istore_n 3, 0, 0)), (26, (.iconst 0, 0, 0)), (27, (.istore 4, 0, 0)), (29, (.iload 4, 0, 0)), (31, (.iload_n 2, 0, 0)), (32, (.if_icmp .ge 126, 158, 0)), (35, (.iload_n 3, 0, 0)), (36, (.invokestatic 382, 174, 1)), (39, (.istore_n 3, 0, 0)), (40, (.iload_n 3, 0, 0)), (41, (.iconst 4, 0, 0)), (42, (.invokestatic 385, 175, 2)), (45, (.istore 5, 0, 0)), (47, (.iload 5, 0, 0)), (49, (.iconst 2, 0, 0)), (50, (.if_icmp .ge 25, 75, 0)), (53, (.aload_n 0, 0, 0)), (54, (.getfield 30, 11, 3)), (57, (.aload_n 0, 0, 0)), (58, (.getfield 49, 11, 7)), (61, (.aload_n 0, 0, 0)), (62, (.getfield 30, 11, 3)), (65, (.invokevirtual 216, 79, 0)), (68, (.invokevirtual 292, 101, 2)), (71, (.pop, 0, 0)), (72, (.goto 80, 152, 0)), (75, (.aload_n 0, 0, 0)), (76, (.getfield 30, 11, 3)), (79, (.getfield 176, 9, 4)), (82, (.ifCond .le 70, 152, 0)), (85, (.iload_n 3, 0, 0)), (86, (.invokestatic 382, 174, 1)), (89, (.istore_n 3, 0, 0)), (90, (.iload_n 3, 0, 0)), (91, (.aload_n 0, 0, 0)), (92, (.getfield 30, 11, 3)), (95, (.getfield 176, 9, 4)), (98, (.invokestatic 385, 175, 2)), (101, (.istore 6, 0, 0)), (103, (.iload_n 3, 0, 0)), (104, (.invokestatic 382, 174, 1)), (107, (.istore_n 3, 0, 0)), (108, (.iload 5, 0, 0)), (110, (.iconst 2, 0, 0)), (111, (.if_icmp .ne 25, 136, 0)), (114, (.aload_n 0, 0, 0)), (115, (.getfield 30, 11, 3)), (118, (.getfield 141, 9, 2)), (121, (.iload 6, 0, 0)), (123, (.iload_n 3, 0, 0)), (124, (.bipush 19, 0, 0)), (126, (.invokestatic 385, 175, 2)), (129, (.bipush 9, 0, 0)), (131, (.isub, 0, 0)), (132, (.iastore, 0, 0)), (133, (.goto 19, 152, 0)), (136, (.aload_n 0, 0, 0)), (137, (.getfield 30, 11, 3)), (140, (.iload 6, 0, 0)), (142, (.iload_n 3, 0, 0)), (143, (.bipush 8, 0, 0)), (145, (.invokestatic 385, 175, 2)), (148, (.invokevirtual 235, 96, 2)), (151, (.pop, 0, 0)), (152, (.iinc 4 1, 0, 0)), (155, (.goto (-126), 29, 0)), (158, (.aload_n 0, 0, 0)), (159, (.getfield 19, 11, 1)), (162, (.sipush 200, 0, 0)), (165, (.aload_n 0, 0, 0)), (166, (.getfield 30, 11, 3)), (169, (.invokevirtual 223, 86, 0)), (172, (.iadd, 0, 0)), (173, (.i2l, 0, 0)), (174, (.invokevirtual 226, 38, 1)), (177, (.aload_n 0, 0, 0)), (178, (.getfield 30, 11, 3)), (181, (.invokevirtual 229, 89, 0)), (184, (.ireturn, 0, 0))]
/-- TypeAtNight.keep(I)Z -/
def k_152 : List (Nat × tm_N) := [(0, (.aload_n 0, 0, 0)), (1, (.getfield 42, 11, 6)), (4, (.iload_n 1, 0, 0)), (5, (.aload_n 0, 0, 0)), (6, (.getfield 26, 11, 2)), (9, (.invokevirtual 388, 49, 2)), (12, (.ireturn, 1, 0))]
/-- TypeAtNight.again(I)Z -/
def k_153 : List (Nat × tm_N) := [(0, (.aload_n 0, 0, 0)), (1, (.getfield 42, 11, 6)), (4, (.iload_n 1, 0, 0)), (5, (.aload_n 0, 0, 0)), (6, (.getfield 26, 11, 2)), (9, (.invokevirtual 392, 50, 2)), (12, (.ireturn, 1, 0))]
/-- TypeAtNight.count(I)I -/
def k_154 : List (Nat × tm_N) := [(0, (.iload_n 1, 0, 0)), (1, (.tableswitch 151 0 10 #[59, 67, 75, 83, 91, 103, 111, 119, 127, 135, 143], 0, 0)), (60, (.aload_n 0, 0, 0)), (61, (.getfield 26, 11, 2)), (64, (.getfield 176, 9, 4)), (67, (.ireturn, 0, 0)), (68, (.aload_n 0, 0, 0)), (69, (.getfield 26, 11, 2)), (72, (.getfield 395, 9, 6)), (75, (.ireturn, 0, 0)), (76, (.aload_n 0, 0, 0)), (77, (.getfield 26, 11, 2)), (80, (.getfield 147, 9, 5)), (83, (.ireturn, 0, 0)), (84, (.aload_n 0, 0, 0)), (85, (.getfield 26, 11, 2)), (88, (.invokevirtual 191, 88, 0)), (91, (.ireturn, 0, 0)), (92, (.sipush 200, 0, 0)), (95, (.aload_n 0, 0, 0)), (96, (.getfield 26, 11, 2)), (99, (.invokevirtual 223, 86, 0)), (102, (.iadd, 0, 0)), (103, (.ireturn, 0, 0)), (104, (.aload_n 0, 0, 0)), (105, (.getfield 26, 11, 2)), (108, (.invokevirtual 229, 89, 0)), (111, (.ireturn, 0, 0)), (112, (.aload_n 0, 0, 0)), (113, (.getfield 80, 11, 12)), (116, (.invokevirtual 398, 11, 0)), (119, (.ireturn, 0, 0)), (120, (.aload_n 0, 0, 0)), (121, (.getfield 87, 11, 13)), (124, (.invokevirtual 399, 25, 0)), (127, (.ireturn, 0, 0)), (128, (.aload_n 0, 0, 0)), (129, (.getfield 42, 11, 6)), (132, (.invokevirtual 267, 45, 0)), (135, (.ireturn, 0, 0)), (136, (.aload_n 0, 0, 0)), (137, (.getfield 19, 11, 1)), (140, (.invokevirtual 400, 41, 0)), (143, (.ireturn, 0, 0)), (144, (.aload_n 0, 0, 0)), (145, (.getfield 10, 11, 0)), (148, (.invokevirtual 250, 67, 0)), (151, (.ireturn, 0, 0)), (152, (.iconst (-1), 0, 0)), (153, (.ireturn, 0, 0))]
/-- TypeAtNight.row(I)J -/
def k_155 : List (Nat × tm_N) := [(0, (.aload_n 0, 0, 0)), (1, (.getfield 19, 11, 1)), (4, (.iload_n 1, 0, 0)), (5, (.invokevirtual 401, 42, 1)), (8, (.ifCond .ne 14, 22, 0)), (14, (.dup, 0, 0)), (15, (.ldc_w 402, 12, 1)), (22, (.aload_n 0, 0, 0)), (23, (.getfield 19, 11, 1)), (26, (.iload_n 1, 0, 0)), (27, (.invokevirtual 404, 43, 1)), (30, (.lreturn, 0, 0))]
/-- TypeAtNight.isMood(I)Z -/
def k_156 : List (Nat × tm_N) := [(0, (.iload_n 0, 0, 0)), (1, (.bipush (-9), 0, 0)), (3, (.if_icmp .lt 13, 16, 0)), (6, (.iload_n 0, 0, 0)), (7, (.bipush 9, 0, 0)), (9, (.if_icmp .gt 7, 16, 0)), (12, (.iconst 1, 0, 0)), (13, (.goto 4, 17, 0)), (16, (.iconst 0, 0, 0)), (17, (.ireturn, 1, 0))]
/-- TypeAtNight.isBox(I)Z -/
def k_157 : List (Nat × tm_N) := [(0, (.iload_n 0, 0, 0)), (1, (.ifCond .lt 13, 14, 0)), (4, (.iload_n 0, 0, 0)), (5, (.bipush 8, 0, 0)), (7, (.if_icmp .ge 7, 14, 0)), (10, (.iconst 1, 0, 0)), (11, (.goto 4, 15, 0)), (14, (.iconst 0, 0, 0)), (15, (.ireturn, 1, 0))]
/-- TypeAtNight.putToMood(I)I -/
def k_158 : List (Nat × tm_N) := [(0, (.iload_n 0, 0, 0)), (1, (.bipush (-9), 0, 0)), (3, (.if_icmp .ge 8, 11, 0)), (6, (.bipush (-9), 0, 0)), (8, (.goto 15, 23, 0)), (11, (.iload_n 0, 0, 0)), (12, (.bipush 9, 0, 0)), (14, (.if_icmp .le 8, 22, 0)), (17, (.bipush 9, 0, 0)), (19, (.goto 4, 23, 0)), (22, (.iload_n 0, 0, 0)), (23, (.ireturn, 0, 0))]
/-- TypeAtNight.readLetters()I -/
def k_159 : List (Nat × tm_N) := [(0, (.aload_n 0, 0, 0)), (1, (.getfield 59, 11, 9)), (4, (.aload_n 0, 0, 0)), (5, (.getfield 10, 11, 0)), (8, (.iconst 0, 0, 0)), (9, (.aload_n 0, 0, 0)), (10, (.getfield 10, 11, 0)), (13, (.invokevirtual 250, 67, 0)), (16, (.invokevirtual 408, 21, 3)), (19, (.istore_n 1, 0, 0)), (20, (.aload_n 0, 0, 0)), (21, (.getfield 10, 11, 0)), (24, (.invokevirtual 117, 66, 0)), (27, (.iload_n 1, 0, 0)), (28, (.ireturn, 0, 0))]
/-- TypeAtNight.undoable(I)I -/
def k_160 : List (Nat × tm_N) := [(0, (.iload_n 1, 0, 0)), (1, (.ifCond .lt 14, 15, 0)), (4, (.aload_n 0, 0, 0)), (5, (.getfield 42, 11, 6)), (8, (.aload_n 0, 0, 0)), (9, (.getfield 36, 11, 5)), (12, (.invokevirtual 204, 47, 1)), (15, (.iload_n 1, 0, 0)), (16, (.ireturn, 0, 0))]
/-- TypeAtNight.faultOfLines()I -/
def k_161 : List (Nat × tm_N) := [(0, (.aload_n 0, 0, 0)), (1, (.getfield 10, 11, 0)), (4, (.invokevirtual 250, 67, 0)), (7, (.ifCond .ne 5, 12, 0)), (10, (.iconst (-1), 0, 0)), (11, (.ireturn, 0, 0)), (12, (.aload_n 0, 0, 0)), (13, (.getfield 10, 11, 0)), (16, (.invokevirtual 250, 67, 0)), (19, (.bipush 59, 0, 0)), (21, (.invokestatic 183, 0, 1002)), (24, (.istore_n 1, 0, 0)), (25, (.iconst 0, 0, 0)), (26, (.istore_n 2, 0, 0)), (27, (.aload_n 0, 0, 0)), (28, (.getfield 26, 11, 2)), (31, (.getfield 176, 9, 4)), (34, (.istore_n 3, 0, 0)), (35, (.iload_n 3, 0, 0)), (36, (.bipush 12, 0, 0)), (38, (.if_icmp .ge 75, 113, 0)), (41, (.aload_n 0, 0, 0)), (42, (.getfield 10, 11, 0)), (45, (.ldc_w 411, 0, 1)), (48, (.iload_n 2, 0, 0)), (49, (.iload_n 1, 0, 0)), (50, (.invokevirtual 413, 73, 3)), (53, (.istore 4, 0, 0)), (55, (.iload 4, 0, 0)), (57, (.iconst (-1), 0, 0)), (58, (.if_icmp .eq 6, 64, 0)), (61, (.iload 4, 0, 0)), (63, (.ireturn, 0, 0)), (64, (.iinc 2 4, 0, 0)), (67, (.iload_n 2, 0, 0)), (68, (.iload_n 1, 0, 0)), (69, (.if_icmp .lt 20, 89, 0)), (72, (.aload_n 0, 0, 0)), (73, (.getfield 10, 11, 0)), (76, (.invokevirtual 250, 67, 0)), (79, (.iload_n 1, 0, 0)), (80, (.if_icmp .le 7, 87, 0)), (83, (.iload_n 1, 0, 0)), (84, (.goto 4, 88, 0)), (87, (.iconst (-1), 0, 0)), (88, (.ireturn, 0, 0)), (89, (.aload_n 0, 0, 0)), (90, (.getfield 10, 11, 0)), (93, (.iload_n 2, 0, 0)), (94, (.invokevirtual 417, 68, 1)), (97, (.bipush 59, 0, 0)), (99, (.if_icmp .eq 5, 104, 0)), (102, (.iload_n 2, 0, 0)), (103, (.ireturn, 0, 0)), (104, (.iinc 2 1, 0, 0)), (107, (.iinc 3 1, 0, 0)), (110, (.goto (-75), 35, 0)), (113, (.iload_n 2, 0, 0)), (114, (.ireturn, 0, 0))]
/-- TypeAtNight.addLines()I -/
def k_162 : List (Nat × tm_N) := [(0, (.iconst 0, 0, 0)), (1, (.istore_n 1, 0, 0)), (2, (.iconst 0, 0, 0)), (3, (.istore_n 2, 0, 0)), (4, (.iload_n 2, 0, 0)), (5, (.iconst 4, 0, 0)), (6, (.iadd, 0, 0)), (7, (.aload_n 0, 0, 0)), (8, (.getfield 10, 11, 0)), (11, (.invokevirtual 250, 67, 0)), (14, (.if_icmp .gt 47, 61, 0)), (17, (.aload_n 0, 0, 0)), (18, (.getfield 26, 11, 2)), (21, (.aload_n 0, 0, 0)), (22, (.getfield 10, 11, 0)), (25, (.iload_n 2, 0, 0)), (26, (.invokevirtual 419, 69, 1)), (29, (.aload_n 0, 0, 0)), (30, (.getfield 10, 11, 0)), (33, (.iload_n 2, 0, 0)), (34, (.iconst 1, 0, 0)), (35, (.iadd, 0, 0)), (36, (.invokevirtual 422, 70, 1)), (39, (.aload_n 0, 0, 0)), (40, (.getfield 10, 11, 0)), (43, (.iload_n 2, 0, 0)), (44, (.iconst 2, 0, 0)), (45, (.iadd, 0, 0)), (46, (.invokevirtual 425, 72, 1)), (49, (.invokevirtual 428, 77, 3)), (52, (.iinc 1 1, 0, 0)), (55, (.iinc 2 5, 0, 0)), (58, (.goto (-54), 4, 0)), (61, (.iload_n 1, 0, 0)), (62, (.ifCond .le 10, 72, 0)), (65, (.aload_n 0, 0, 0)), (66, (.getfield 42, 11, 6)), (69, (.invokevirtual 431, 46, 0)), (72, (.iload_n 1, 0, 0)), (73, (.ireturn, 0, 0))]
/-- TypeAtNight.entryOf(II)I -/
def k_163 : List (Nat × tm_N) := [(0, (.iload_n 0, 0, 0)), (1, (.ifCond .ne 8, 9, 0)), (4, (.iload_n 1, 0, 0)), (5, (.i2b, 0, 0)), (6, (.goto 14, 20, 0)), (9, (.iload_n 0, 0, 0)), (10, (.iconst 1, 0, 0)), (11, (.if_icmp .ne 8, 19, 0)), (14, (.iload_n 1, 0, 0)), (15, (.i2s, 0, 0)), (16, (.goto 4, 20, 0)), (19, (.iload_n 1, 0, 0)), (20, (.ireturn, 0, 0))]
/-- TypeAtNight.faultOfWeek()I -/
def k_164 : List (Nat × tm_N) := [(0, (.aload_n 0, 0, 0)), (1, (.getfield 10, 11, 0)), (4, (.invokevirtual 250, 67, 0)), (7, (.bipush 60, 0, 0)), (9, (.invokestatic 183, 0, 1002)), (12, (.istore_n 1, 0, 0)), (13, (.iconst 0, 0, 0)), (14, (.istore_n 2, 0, 0)), (15, (.iconst 0, 0, 0)), (16, (.istore_n 3, 0, 0)), (17, (.iload_n 3, 0, 0)), (18, (.bipush 60, 0, 0)), (20, (.if_icmp .ge 35, 55, 0)), (23, (.iload_n 2, 0, 0)), (24, (.iload_n 1, 0, 0)), (25, (.if_icmp .ge 30, 55, 0)), (28, (.aload_n 0, 0, 0)), (29, (.iload_n 2, 0, 0)), (30, (.iload_n 1, 0, 0)), (31, (.invokevirtual 252, 165, 2)), (34, (.istore 4, 0, 0)), (36, (.iload 4, 0, 0)), (38, (.ifCond .ge 8, 46, 0)), (41, (.iconst (-1), 0, 0)), (42, (.iload 4, 0, 0)), (44, (.isub, 0, 0)), (45, (.ireturn, 0, 0)), (46, (.iload 4, 0, 0)), (48, (.istore_n 2, 0, 0)), (49, (.iinc 3 1, 0, 0)), (52, (.goto (-35), 17, 0)), (55, (.aload_n 0, 0, 0)), (56, (.getfield 10, 11, 0)), (59, (.invokevirtual 250, 67, 0)), (62, (.iload_n 1, 0, 0)), (63, (.if_icmp .le 7, 70, 0)), (66, (.iload_n 1, 0, 0)), (67, (.goto 4, 71, 0)), (70, (.iconst (-1), 0, 0)), (71, (.ireturn, 0, 0))]
/-- TypeAtNight.behindAct(II)I -/
def k_165 : List (Nat × tm_N) := [(0, (.aload_n 0, 0, 0)), (1, (.getfield 10, 11, 0)), (4, (.iload_n 1, 0, 0)), (5, (.invokevirtual 417, 68, 1)), (8, (.invokestatic 432, 166, 1)), (11, (.astore_n 3, 0, 0)), (12, (.aload_n 3, 0, 0)), (13, (.invokevirtual 436, 1001, 0)), (16, (.ifCond .eq 7, 23, 0)), (19, (.iconst (-1), 0, 0)), (20, (.iload_n 1, 0, 0)), (21, (.isub, 0, 0)), (22, (.ireturn, 0, 0)), (23, (.aload_n 0, 0, 0)), (24, (.getfield 10, 11, 0)), (27, (.aload_n 3, 0, 0)), (28, (.iload_n 1, 0, 0)), (29, (.iconst 1, 0, 0)), (30, (.iadd, 0, 0)), (31, (.iload_n 2, 0, 0)), (32, (.invokevirtual 413, 73, 3)), (35, (.istore 4, 0, 0)), (37, (.iload 4, 0, 0)), (39, (.iconst (-1), 0, 0)), (40, (.if_icmp .eq 8, 48, 0)), (43, (.iconst (-1), 0, 0)), (44, (.iload 4, 0, 0)), (46, (.isub, 0, 0)), (47, (.ireturn, 0, 0)), (48, (.iload_n 1, 0, 0)), (49, (.iconst 1, 0, 0)), (50, (.iadd, 0, 0)), (51, (.aload_n 3, 0, 0)), (52, (.invokevirtual 442, 1000, 0)), (55, (.iadd, 0, 0)), (56, (.istore 5, 0, 0)), (58, (.aload_n 0, 0, 0)), (59, (.getfield 10, 11, 0)), (62, (.iload_n 1, 0, 0)), (63, (.invokevirtual 417, 68, 1)), (66, (.bipush 83, 0, 0)), (68, (.if_icmp .eq 6, 74, 0)), (71, (.iload 5, 0, 0)), (73, (.ireturn, 0, 0)), (74, (.iload_n 1, 0, 0)), (75, (.iconst 3, 0, 0)), (76, (.iadd, 0, 0)), (77, (.bipush 12, 0, 0)), (79, (.iadd, 0, 0)), (80, (.istore 6, 0, 0)), (82, (.iload 5, 0, 0)), (84, (.istore 7, 0, 0)), (86, (.iload 7, 0, 0)), (88, (.iload_n 2, 0, 0)), (89, (.if_icmp .ge 44, 133, 0)), (92, (.bipush 108, 0, 0)), (94, (.aload_n 0, 0, 0)), (95, (.getfield 10, 11, 0)), (98, (.iload 7, 0, 0)), (100, (.invokevirtual 417, 68, 1)), (103, (.invokestatic 445, 74, 2)), (106, (.ifCond .eq 27, 133, 0)), (109, (.iload 7, 0, 0)), (111, (.iload 6, 0, 0)), (113, (.if_icmp .ne 8, 121, 0)), (116, (.iconst (-1), 0, 0)), (117, (.iload 7, 0, 0)), (119, (.isub, 0, 0)), (120, (.ireturn, 0, 0)), (121, (.iload 7, 0, 0)), (123, (.iconst 1, 0, 0)), (124, (.iadd, 0, 0)), (125, (.istore 5, 0, 0)), (127, (.iinc 7 1, 0, 0)), (130, (.goto (-44), 86, 0)), (133, (.iload 5, 0, 0)), (135, (.ireturn, 0, 0))]
/-- TypeAtNight.shapeOfAct(I)Ljava/lang/String; -/
def k_166 : List (Nat × tm_N) := [(0, (.iload_n 0, 0, 0)), (1, (.lookupswitch 67 #[(67, 63), (70, 63), (77, 59), (78, 51), (83, 55)], 0, 0)), (52, (.ldc_w 449, 2, 1)), (55, (.areturn, 0, 0)), (56, (.ldc_w 451, 3, 1)), (59, (.areturn, 0, 0)), (60, (.ldc_w 453, 4, 1)), (63, (.areturn, 0, 0)), (64, (.ldc_w 455, 5, 1)), (67, (.areturn, 0, 0)), (68, (.ldc_w 457, 6, 1)), (71, (.areturn, 0, 0))]
/-- TypeAtNight.doAct(II)I -/
def k_167 : List (Nat × tm_N) := [(0, (.aload_n 0, 0, 0)), (1, (.getfield 10, 11, 0)), (4, (.iload_n 1, 0, 0)), (5, (.invokevirtual 417, 68, 1)), (8, (.lookupswitch 177 #[(67, 141), (70, 159), (77, 113), (78, 52), (83, 82)], 0, 0)), (60, (.aload_n 0, 0, 0)), (61, (.getfield 26, 11, 2)), (64, (.aload_n 0, 0, 0)), (65, (.getfield 49, 11, 7)), (68, (.aload_n 0, 0, 0)), (69, (.getfield 10, 11, 0)), (72, (.iload_n 1, 0, 0)), (73, (.iconst 1, 0, 0)), (74, (.iadd, 0, 0)), (75, (.invokevirtual 422, 70, 1)), (78, (.aload_n 0, 0, 0)), (79, (.getfield 26, 11, 2)), (82, (.invokevirtual 216, 79, 0)), (85, (.invokevirtual 219, 100, 3)), (88, (.iconst 0, 0, 0)), (89, (.ireturn, 0, 0)), (90, (.aload_n 0, 0, 0)), (91, (.getfield 59, 11, 9)), (94, (.aload_n 0, 0, 0)), (95, (.getfield 10, 11, 0)), (98, (.iload_n 1, 0, 0)), (99, (.iconst 3, 0, 0)), (100, (.iadd, 0, 0)), (101, (.iload_n 2, 0, 0)), (102, (.invokevirtual 408, 21, 3)), (105, (.pop, 0, 0)), (106, (.aload_n 0, 0, 0)), (107, (.aload_n 0, 0, 0)), (108, (.getfield 10, 11, 0)), (111, (.iload_n 1, 0, 0)), (112, (.iconst 1, 0, 0)), (113, (.iadd, 0, 0)), (114, (.invokevirtual 425, 72, 1)), (117, (.invokevirtual 459, 168, 1)), (120, (.ireturn, 0, 0)), (121, (.aload_n 0, 0, 0)), (122, (.getfield 26, 11, 2)), (125, (.aload_n 0, 0, 0)), (126, (.getfield 10, 11, 0)), (129, (.iload_n 1, 0, 0)), (130, (.iconst 1, 0, 0)), (131, (.iadd, 0, 0)), (132, (.invokevirtual 462, 71, 1)), (135, (.aload_n 0, 0, 0)), (136, (.getfield 10, 11, 0)), (139, (.iload_n 1, 0, 0)), (140, (.iconst 3, 0, 0)), (141, (.iadd, 0, 0)), (142, (.invokevirtual 422, 70, 1)), (145, (.invokevirtual 235, 96, 2)), (148, (.ireturn, 0, 0)), (149, (.aload_n 0, 0, 0)), (150, (.getfield 26, 11, 2)), (153, (.aload_n 0, 0, 0)), (154, (.getfield 10, 11, 0)), (157, (.iload_n 1, 0, 0)), (158, (.iconst 1, 0, 0)), (159, (.iadd, 0, 0)), (160, (.invokevirtual 462, 71, 1)), (163, (.invokevirtual 241, 97, 1)), (166, (.ireturn, 0, 0)), (167, (.aload_n 0, 0, 0)), (168, (.getfield 26, 11, 2)), (171, (.aload_n 0, 0, 0)), (172, (.getfield 10, 11, 0)), (175, (.iload_n 1, 0, 0)), (176, (.iconst 1, 0, 0)), (177, (.iadd, 0, 0)), (178, (.invokevirtual 462, 71, 1)), (181, (.invokevirtual 244, 98, 1)), (184, (.ireturn, 0, 0)), (185, (.iconst (-1), 0, 0)), (186, (.ireturn, 0, 0))]
/-- TypeAtNight.setLetters(I)I -/
def k_168 : List (Nat × tm_N) := [(0, (.aload_n 0, 0, 0)), (1, (.getfield 26, 11, 2)), (4, (.aload_n 0, 0, 0)), (5, (.getfield 59, 11, 9)), (8, (.invokevirtual 200, 93, 1)), (11, (.istore_n 2, 0, 0)), (12, (.iload_n 2, 0, 0)), (13, (.iconst (-1), 0, 0)), (14, (.if_icmp .eq 12, 26, 0)), (17, (.aload_n 0, 0, 0)), (18, (.getfield 26, 11, 2)), (21, (.iload_n 2, 0, 0)), (22, (.iload_n 1, 0, 0)), (23, (.invokevirtual 208, 95, 2)), (26, (.iload_n 2, 0, 0)), (27, (.ireturn, 0, 0))]
/-- TypeAtNight.fewestToClean(III)I -/
def k_169 : List (Nat × tm_N) := [(0, (.iconst 0, 0, 0)), (1, (.istore 4, 0, 0)), (3, (.iconst 0, 0, 0)), (4, (.istore 5, 0, 0)), (6, (.iload 5, 0, 0)), (8, (.aload_n 0, 0, 0)), (9, (.getfield 30, 11, 3)), (12, (.getfield 176, 9, 4)), (15, (.if_icmp .ge 41, 56, 0)), (18, (.iload_n 1, 0, 0)), (19, (.iload 5, 0, 0)), (21, (.ishr, 0, 0)), (22, (.iconst 1, 0, 0)), (23, (.iand, 0, 0)), (24, (.iconst 1, 0, 0)), (25, (.if_icmp .ne 25, 50, 0)), (28, (.aload_n 0, 0, 0)), (29, (.getfield 30, 11, 3)), (32, (.getfield 141, 9, 2)), (35, (.iload 5, 0, 0)), (37, (.iaload, 0, 0)), (38, (.ifCond .eq 12, 50, 0)), (41, (.iload 4, 0, 0)), (43, (.iconst 1, 0, 0)), (44, (.iload 5, 0, 0)), (46, (.ishl, 0, 0)), (47, (.ior, 0, 0)), (48, (.istore 4, 0, 0)), (50, (.iinc 5 1, 0, 0)), (53, (.goto (-47), 6, 0)), (56, (.iconst 0, 0, 0)), (57, (.istore 5, 0, 0)), (59, (.iload 5, 0, 0)), (61, (.iload 4, 0, 0)), (63, (.invokestatic 258, 289, 1)), (66, (.if_icmp .gt 60, 126, 0)), (69, (.iconst 0, 0, 0)), (70, (.istore 6, 0, 0)), (72, (.iload 6, 0, 0)), (74, (.iload 4, 0, 0)), (76, (.if_icmp .gt 44, 120, 0)), (79, (.iload 6, 0, 0)), (81, (.iload 4, 0, 0)), (83, (.iconst (-1), 0, 0)), (84, (.ixor, 0, 0)), (85, (.iand, 0, 0)), (86, (.ifCond .ne 28, 114, 0)), (89, (.iload 6, 0, 0)), (91, (.invokestatic 258, 289, 1)), (94, (.iload 5, 0, 0)), (96, (.if_icmp .ne 18, 114, 0)), (99, (.aload_n 0, 0, 0)), (100, (.iload_n 1, 0, 0)), (101, (.iload 6, 0, 0)), (103, (.iload_n 2, 0, 0)), (104, (.iload_n 3, 0, 0)), (105, (.invokevirtual 465, 170, 4)), (108, (.ifCond .eq 6, 114, 0)), (111, (.iload 6, 0, 0)), (113, (.ireturn, 0, 0)), (114, (.iinc 6 1, 0, 0)), (117, (.goto (-45), 72, 0)), (120, (.iinc 5 1, 0, 0)), (123, (.goto (-64), 59, 0)), (126, (.iconst (-1), 0, 0)), (127, (.ireturn, 0, 0))]
/-- TypeAtNight.calms(IIII)Z -/
def k_170 : List (Nat × tm_N) := [(0, (.aload_n 0, 0, 0)), (1, (.getfield 33, 11, 4)), (4, (.aload_n 0, 0, 0)), (5, (.getfield 30, 11, 3)), (8, (.invokevirtual 232, 76, 1)), (11, (.iconst 0, 0, 0)), (12, (.istore 5, 0, 0)), (14, (.iload 5, 0, 0)), (16, (.aload_n 0, 0, 0)), (17, (.getfield 33, 11, 4)), (20, (.getfield 176, 9, 4)), (23, (.if_icmp .ge 30, 53, 0)), (26, (.iload_n 2, 0, 0)), (27, (.iload 5, 0, 0)), (29, (.ishr, 0, 0)), (30, (.iconst 1, 0, 0)), (31, (.iand, 0, 0)), (32, (.iconst 1, 0, 0)), (33, (.if_icmp .ne 14, 47, 0)), (36, (.aload_n 0, 0, 0)), (37, (.getfield 33, 11, 4)), (40, (.getfield 141, 9, 2)), (43, (.iload 5, 0, 0)), (45, (.iconst 0, 0, 0)), (46, (.iastore, 0, 0)), (47, (.iinc 5 1, 0, 0)), (50, (.goto (-36), 14, 0)), (53, (.aload_n 0, 0, 0)), (54, (.getfield 33, 11, 4)), (57, (.aload_n 0, 0, 0)), (58, (.getfield 49, 11, 7)), (61, (.iload_n 3, 0, 0)), (62, (.iload_n 1, 0, 0)), (63, (.invokevirtual 219, 100, 3)), (66, (.iconst 0, 0, 0)), (67, (.istore 5, 0, 0)), (69, (.iload 5, 0, 0)), (71, (.aload_n 0, 0, 0)), (72, (.getfield 33, 11, 4)), (75, (.getfield 176, 9, 4)), (78, (.if_icmp .ge 39, 117, 0)), (81, (.iload_n 1, 0, 0)), (82, (.iload 5, 0, 0)), (84, (.ishr, 0, 0)), (85, (.iconst 1, 0, 0)), (86, (.iand, 0, 0)), (87, (.iconst 1, 0, 0)), (88, (.if_icmp .ne 23, 111, 0)), (91, (.aload_n 0, 0, 0)), (92, (.getfield 33, 11, 4)), (95, (.getfield 141, 9, 2)), (98, (.iload 5, 0, 0)), (100, (.iaload, 0, 0)), (101, (.invokestatic 300, 0, 1003)), (104, (.iload 4, 0, 0)), (106, (.if_icmp .le 5, 111, 0)), (109, (.iconst 0, 0, 0)), (110, (.ireturn, 1, 0)), (111, (.iinc 5 1, 0, 0)), (114, (.goto (-45), 69, 0)), (117, (.iconst 1, 0, 0)), (118, (.ireturn, 1, 0))]
/-- TypeAtNight.commonDivisor(JJ)J -/
def k_171 : List (Nat × tm_N) := [(0, (.lload_n 0, 0, 0)), (1, (.lstore 4, 0, 0)), (3, (.lload_n 2, 0, 0)), (4, (.lstore 6, 0, 0)), (6, (.iconst 0, 0, 0)), (7, (.istore 8, 0, 0)), (9, (.iload 8, 0, 0)), (11, (.sipush 200, 0, 0)), (14, (.if_icmp .ge 31, 45, 0)), (17, (.lload 6, 0, 0)), (19, (.lconst 0, 0, 0)), (20, (.lcmp, 0, 0)), (21, (.ifCond .eq 24, 45, 0)), (24, (.lload 4, 0, 0)), (26, (.lload 6, 0, 0)), (28, (.lrem, 0, 0)), (29, (.lstore 9, 0, 0)), (31, (.lload 6, 0, 0)), (33, (.lstore 4, 0, 0)), (35, (.lload 9, 0, 0)), (37, (.lstore 6, 0, 0)), (39, (.iinc 8 1, 0, 0)), (42, (.goto (-33), 9, 0)), (45, (.lload 4, 0, 0)), (47, (.lreturn, 0, 0))]
/-- TypeAtNight.sells(III)I -/
def k_172 : List (Nat × tm_N) := [(0, (.iload_n 1, 0, 0)), (1, (.iload_n 2, 0, 0)), (2, (.if_icmp .le 7, 9, 0)), (5, (.iload_n 0, 0, 0)), (6, (.goto 19, 25, 0)), (9, (.iload_n 1, 0, 0)), (10, (.iload_n 2, 0, 0)), (11, (.if_icmp .ge 9, 20, 0)), (14, (.iload_n 0, 0, 0)), (15, (.iconst 2, 0, 0)), (16, (.idiv, 0, 0)), (17, (.goto 8, 25, 0)), (20, (.iconst 2, 0, 0)), (21, (.iload_n 0, 0, 0)), (22, (.imul, 0, 0)), (23, (.iconst 3, 0, 0)), (24, (.idiv, 0, 0)), (25, (.istore_n 3, 0, 0)), (26, (.iload_n 3, 0, 0)), (27, (.iload_n 1, 0, 0)), (28, (.isub, 0, 0)), (29, (.iload_n 1, 0, 0)), (30, (.iload_n 2, 0, 0)), (31, (.iadd, 0, 0)), (32, (.bipush 10, 0, 0)), (34, (.if_icmp .lt 7, 41, 0)), (37, (.iconst 1, 0, 0)), (38, (.goto 4, 42, 0)), (41, (.iconst 0, 0, 0)), (42, (.isub, 0, 0)), (43, (.ireturn, 0, 0))]
/-- TypeAtNight.isContent(III)Z -/
def k_173 : List (Nat × tm_N) := [(0, (.iconst 0, 0, 0)), (1, (.istore_n 3, 0, 0)), (2, (.iload_n 3, 0, 0)), (3, (.bipush 9, 0, 0)), (5, (.if_icmp .gt 26, 31, 0)), (8, (.iload_n 0, 0, 0)), (9, (.iload_n 3, 0, 0)), (10, (.iload_n 2, 0, 0)), (11, (.invokestatic 469, 172, 3)), (14, (.iload_n 0, 0, 0)), (15, (.iload_n 1, 0, 0)), (16, (.iload_n 2, 0, 0)), (17, (.invokestatic 469, 172, 3)), (20, (.if_icmp .le 5, 25, 0)), (23, (.iconst 0, 0, 0)), (24, (.ireturn, 1, 0)), (25, (.iinc 3 1, 0, 0)), (28, (.goto (-26), 2, 0)), (31, (.iconst 1, 0, 0)), (32, (.ireturn, 1, 0))]
/-- TypeAtNight.nextDraw(I)I -/
def k_174 : List (Nat × tm_N) := [(0, (.iload_n 0, 0, 0)), (1, (.ldc_w 472, 1103515245, 0)), (4, (.imul, 0, 0)), (5, (.sipush 12345, 0, 0)), (8, (.iadd, 0, 0)), (9, (.ireturn, 0, 0))]
/-- TypeAtNight.drawOf(II)I -/
def k_175 : List (Nat × tm_N) := [(0, (.iload_n 1, 0, 0)), (1, (.ifCond .le 12, 13, 0)), (4, (.iload_n 0, 0, 0)), (5, (.bipush 16, 0, 0)), (7, (.iushr, 0, 0)), (8, (.iload_n 1, 0, 0)), (9, (.irem, 0, 0)), (10, (.goto 4, 14, 0)), (13, (.iconst 0, 0, 0)), (14, (.ireturn, 0, 0))]
/-- TypeAtNightModel.<init>()V -/
def k_176 : List (Nat × tm_N) := [(0, (.aload_n 0, 0, 0)), (1, (.invokespecial 3, 0, 1000)), (4, (.aload_n 0, 0, 0)), (5, (.bipush 38, 0, 0)), (7, (.newarray .int, 0, 0)), (9, (.putfield 9, 12, 0)), (12, (.aload_n 0, 0, 0)), (13, (.bipush 12, 0, 0)), (15, (.newarray .int, 0, 0)), (17, (.putfield 13, 12, 2)), (20, (.aload_n 0, 0, 0)), (21, (.bipush 80, 0, 0)), (23, (.newarray .byte, 0, 0)), (25, (.putfield 16, 12, 3)), (28, (.aload_n 0, 0, 0)), (29, (.bipush 16, 0, 0)), (31, (.newarray .long, 0, 0)), (33, (.putfield 20, 12, 5)), (36, (.aload_n 0, 0, 0)), (37, (.bipush 36, 0, 0)), (39, (.newarray .int, 0, 0)), (41, (.putfield 24, 12, 13)), (44, (.aload_n 0, 0, 0)), (45, (.bipush 40, 0, 0)), (47, (.newarray .byte, 0, 0)), (49, (.putfield 27, 12, 14)), (52, (.aload_n 0, 0, 0)), (53, (.bipush 40, 0, 0)), (55, (.newarray .byte, 0, 0)), (57, (.putfield 30, 12, 15)), (60, (.aload_n 0, 0, 0)), (61, (.bipush 7, 0, 0)), (63, (.newarray .int, 0, 0)), (65, (.putfield 33, 12, 18)), (68, (.aload_n 0, 0, 0)), (69, (.sipush 456, 0, 0)), (72, (.newarray .int, 0, 0)), (74, (.putfield 36, 12, 19)), (77, (.aload_n 0, 0, 0)), (78, (.bipush 38, 0, 0)), (80, (.newarray .int, 0, 0)), (82, (.putfield 39, 12, 21)), (85, (.aload_n 0, 0, 0)), (86, (.bipush 38, 0, 0)), (88, (.newarray .int, 0, 0)), (90, (.putfield 42, 12, 22)), (93, (.aload_n 0, 0, 0)), (94, (.bipush 13, 0, 0)), (96, (.newarray .int, 0, 0)), (98, (.putfield 45, 12, 23)), (101, (.aload_n 0, 0, 0)), (102, (.bipush 8, 0, 0)), (104, (.newarray .int, 0, 0)), (106, (.putfield 48, 12, 25)), (109, (.aload_n 0, 0, 0)), (110, (.sipush 320, 0, 0)), (113, (.newarray .int, 0, 0)), (115, (.putfield 51, 12, 26)), (118, (.aload_n 0, 0, 0)), (119, (.bipush 80, 0, 0)), (121, (.newarray .int, 0, 0)), (123, (.putfield 54, 12, 27)), (126, (.aload_n 0, 0, 0)), (127, (.bipush 64, 0, 0)), (129, (.newarray .int, 0, 0)), (131, (.putfield 57, 12, 29)), (134, (.aload_n 0, 0, 0)), (135, (.sipush 3800, 0, 0)), (138, (.newarray .int, 0, 0)), (140, (.putfield 60, 12, 30)), (143, (.aload_n 0, 0, 0)), (144, (.bipush 8, 0, 0)), (146, (.newarray .int, 0, 0)), (148, (.putfield 63, 12, 31)), (151, (.aload_n 0, 0, 0)), (152, (.bipush 8, 0, 0)), (154, (.newarray .int, 0, 0)), (156, (.putfield 66, 12, 32)), (159, (.aload_n 0, 0, 0)), (160, (.bipush 12, 0, 0)), (162, (.newarray .int, 0, 0)), (164, (.putfield 69, 12, 33)), (167, (.aload_n 0, 0, 0)), (168, (.bipush 12, 0, 0)), (170, (.newarray .int, 0, 0)), (172, (.putfield 72, 12, 34)), (175, (.aload_n 0, 0, 0)), (176, (.bipush 10, 0, 0)), (178, (.newarray .int, 0, 0)), (180, (.putfield 75, 12, 36)), (183, (.aload_n 0, 0, 0)), (184, (.bipush 10, 0, 0)), (186, (.newarray .int, 0, 0)), (188, (.putfield 78, 12, 37)), (191, (.aload_n 0, 0, 0)), (192, (.bipush 10, 0, 0)), (194, (.newarray .int, 0, 0)), (196, (.putfield 81, 12, 38)), (199, (.aload_n 0, 0, 0)), (200, (.bipush 19, 0, 0)), (202, (.newarray .int, 0, 0)), (204, (.putfield 84, 12, 40)), (207, (.aload_n 0, 0, 0)), (208, (.bipush 61, 0, 0)), (210, (.newarray .int, 0, 0)), (212, (.putfield 87, 12, 41)), (215, (.aload_n 0, 0, 0)), (216, (.bipush 76, 0, 0)), (218, (.newarray .int, 0, 0)), (220, (.putfield 90, 12, 44)), (223, (.aload_n 0, 0, 0)), (224, (.iconst 2, 0, 0)), (225, (.newarray .boolean, 0, 0)), (227, (.putfield 93, 12, 45)), (230, (.aload_n 0, 0, 0)), (231, (.iconst 2, 0, 0)), (232, (.newarray .int, 0, 0)), (234, (.putfield 97, 12, 46)), (237, (.return_, 0, 0))]
/-- TypeAtNightModel.thrown()I -/
def k_177 : List (Nat × tm_N) := [(0, (.aload_n 0, 0, 0)), (1, (.getfield 100, 12, 7)), (4, (.ireturn, 0, 0))]
/-- TypeAtNightModel.in(III)Z -/
def k_178 : List (Nat × tm_N) := [(0, (.iload_n 0, 0, 0)), (1, (.iload_n 1, 0, 0)), (2, (.if_icmp .lt 12, 14, 0)), (5, (.iload_n 0, 0, 0)), (6, (.iload_n 2, 0, 0)), (7, (.if_icmp .gt 7, 14, 0)), (10, (.iconst 1, 0, 0)), (11, (.goto 4, 15, 0)), (14, (.iconst 0, 0, 0)), (15, (.ireturn, 1, 0))]
/-- TypeAtNightModel.has(II)Z -/
def k_179 : List (Nat × tm_N) := [(0, (.iload_n 0, 0, 0)), (1, (.iload_n 1, 0, 0)), (2, (.ishr, 0, 0)), (3, (.iconst 1, 0, 0)), (4, (.iand, 0, 0)), (5, (.iconst 1, 0, 0)), (6, (.if_icmp .ne 7, 13, 0)), (9, (.iconst 1, 0, 0)), (10, (.goto 4, 14, 0)), (13, (.iconst 0, 0, 0)), (14, (.ireturn, 1, 0))]
/-- TypeAtNightModel.put(I)I -/
def k_180 : List (Nat × tm_N) := [(0, (.bipush (-9), 0, 0)), (2, (.bipush 9, 0, 0)), (4, (.iload_n 0, 0, 0)), (5, (.invokestatic 104, 0, 1002)), (8, (.invokestatic 110, 0, 1001)), (11, (.ireturn, 0, 0))]
/-- TypeAtNightModel.lost()I -/
def k_181 : List (Nat × tm_N) := [(0, (.aload_n 0, 0, 0)), (1, (.iconst 1, 0, 0)), (2, (.putfield 100, 12, 7)), (5, (.iconst 0, 0, 0)), (6, (.ireturn, 0, 0))]
/-- TypeAtNightModel.tell(J)V -/
def k_182 : List (Nat × tm_N) := [(0, (.aload_n 0, 0, 0)), (1, (.getfield 20, 12, 5)), (4, (.aload_n 0, 0, 0)), (5, (.getfield 113, 12, 6)), (8, (.lload_n 1, 0, 0)), (9, (.lastore, 0, 0)), (10, (.aload_n 0, 0, 0)), (11, (.dup, 0, 0)), (12, (.getfield 113, 12, 6)), (15, (.iconst 1, 0, 0)), (16, (.iadd, 0, 0)), (17, (.putfield 113, 12, 6)), (20, (.return_, 0, 0))]
/-- TypeAtNightModel.isSort(I)Z -/
def k_183 : List (Nat × tm_N) := [(0, (.iload_n 1, 0, 0)), (1, (.iconst 0, 0, 0)), (2, (.aload_n 0, 0, 0)), (3, (.getfield 116, 12, 1)), (6, (.iconst 1, 0, 0)), (7, (.isub, 0, 0)), (8, (.invokestatic 119, 178, 3)), (11, (.ireturn, 1, 0))]
/-- TypeAtNightModel.all()I -/
def k_184 : List (Nat × tm_N) := [(0, (.iconst 1, 0, 0)), (1, (.aload_n 0, 0, 0)), (2, (.getfield 116, 12, 1)), (5, (.ishl, 0, 0)), (6, (.iconst 1, 0, 0)), (7, (.isub, 0, 0)), (8, (.ireturn, 0, 0))]
/-- TypeAtNightModel.sign(I)I -/
def k_185 : List (Nat × tm_N) := [(0, (.aload_n 0, 0, 0)), (1, (.iconst 0, 0, 0)), (2, (.putfield 100, 12, 7)), (5, (.aload_n 0, 0, 0)), (6, (.getfield 123, 12, 4)), (9, (.iconst 4, 0, 0)), (10, (.iadd, 0, 0)), (11, (.bipush 80, 0, 0)), (13, (.if_icmp .le 5, 18, 0)), (16, (.iconst (-1), 0, 0)), (17, (.ireturn, 0, 0)), (18, (.iconst 3, 0, 0)), (19, (.istore_n 2, 0, 0)), (20, (.iload_n 2, 0, 0)), (21, (.ifCond .lt 32, 53, 0)), (24, (.aload_n 0, 0, 0)), (25, (.getfield 16, 12, 3)), (28, (.aload_n 0, 0, 0)), (29, (.dup, 0, 0)), (30, (.getfield 123, 12, 4)), (33, (.dup_x1, 0, 0)), (34, (.iconst 1, 0, 0)), (35, (.iadd, 0, 0)), (36, (.putfield 123, 12, 4)), (39, (.iload_n 1, 0, 0)), (40, (.bipush 8, 0, 0)), (42, (.iload_n 2, 0, 0)), (43, (.imul, 0, 0)), (44, (.ishr, 0, 0)), (45, (.i2b, 0, 0)), (46, (.bastore, 0, 0)), (47, (.iinc 2 (-1), 0, 0)), (50, (.goto (-30), 20, 0)), (53, (.aload_n 0, 0, 0)), (54, (.getfield 123, 12, 4)), (57, (.ireturn, 0, 0))]
/-- TypeAtNightModel.end(I)Z -/
def k_186 : List (Nat × tm_N) := [(0, (.aload_n 0, 0, 0)), (1, (.iconst 0, 0, 0)), (2, (.putfield 100, 12, 7)), (5, (.iload_n 1, 0, 0)), (6, (.iconst 0, 0, 0)), (7, (.aload_n 0, 0, 0)), (8, (.getfield 123, 12, 4)), (11, (.invokestatic 119, 178, 3)), (14, (.ifCond .ne 5, 19, 0)), (17, (.iconst 0, 0, 0)), (18, (.ireturn, 1, 0)), (19, (.aload_n 0, 0, 0)), (20, (.iload_n 1, 0, 0)), (21, (.putfield 123, 12, 4)), (24, (.iconst 1, 0, 0)), (25, (.ireturn, 1, 0))]
/-- TypeAtNightModel.begin([BII)V -/
def k_187 : List (Nat × tm_N) := [(0, (.aload_n 0, 0, 0)), (1, (.aload_n 1, 0, 0)), (2, (.putfield 126, 12, 8)), (5, (.aload_n 0, 0, 0)), (6, (.iload_n 2, 0, 0)), (7, (.putfield 129, 12, 9)), (10, (.aload_n 0, 0, 0)), (11, (.iload_n 3, 0, 0)), (12, (.putfield 132, 12, 10)), (15, (.aload_n 0, 0, 0)), (16, (.iconst 0, 0, 0)), (17, (.putfield 135, 12, 11)), (20, (.aload_n 0, 0, 0)), (21, (.iconst (-1), 0, 0)), (22, (.putfield 138, 12, 12)), (25, (.return_, 0, 0))]
/-- TypeAtNightModel.beginText(I)V -/
def k_188 : List (Nat × tm_N) := [(0, (.aload_n 0, 0, 0)), (1, (.aload_n 0, 0, 0)), (2, (.getfield 16, 12, 3)), (5, (.aload_n 0, 0, 0)), (6, (.getfield 123, 12, 4)), (9, (.iload_n 1, 0, 0)), (10, (.invokevirtual 141, 187, 3)), (13, (.aload_n 0, 0, 0)), (14, (.iconst 0, 0, 0)), (15, (.putfield 123, 12, 4)), (18, (.return_, 0, 0))]
/-- TypeAtNightModel.here()I -/
def k_189 : List (Nat × tm_N) := [(0, (.aload_n 0, 0, 0)), (1, (.getfield 135, 12, 11)), (4, (.aload_n 0, 0, 0)), (5, (.getfield 129, 12, 9)), (8, (.if_icmp .ge 30, 38, 0)), (11, (.aload_n 0, 0, 0)), (12, (.getfield 135, 12, 11)), (15, (.aload_n 0, 0, 0)), (16, (.getfield 132, 12, 10)), (19, (.if_icmp .ge 19, 38, 0)), (22, (.aload_n 0, 0, 0)), (23, (.getfield 126, 12, 8)), (26, (.aload_n 0, 0, 0)), (27, (.getfield 135, 12, 11)), (30, (.baload, 0, 0)), (31, (.sipush 255, 0, 0)), (34, (.iand, 0, 0)), (35, (.goto 4, 39, 0)), (38, (.iconst (-1), 0, 0)), (39, (.ireturn, 0, 0))]
/-- TypeAtNightModel.fine()Z -/
def k_190 : List (Nat × tm_N) := [(0, (.aload_n 0, 0, 0)), (1, (.getfield 138, 12, 12)), (4, (.iconst (-1), 0, 0)), (5, (.if_icmp .ne 7, 12, 0)), (8, (.iconst 1, 0, 0)), (9, (.goto 4, 13, 0)), (12, (.iconst 0, 0, 0)), (13, (.ireturn, 1, 0))]
/-- TypeAtNightModel.fault(I)V -/
def k_191 : List (Nat × tm_N) := [(0, (.aload_n 0, 0, 0)), (1, (.invokevirtual 145, 190, 0)), (4, (.ifCond .eq 8, 12, 0)), (7, (.aload_n 0, 0, 0)), (8, (.iload_n 1, 0, 0)), (9, (.putfield 138, 12, 12)), (12, (.return_, 0, 0))]
/-- TypeAtNightModel.passes(C)Z -/
def k_192 : List (Nat × tm_N) := [(0, (.aload_n 0, 0, 0)), (1, (.invokevirtual 145, 190, 0)), (4, (.ifCond .eq 11, 15, 0)), (7, (.aload_n 0, 0, 0)), (8, (.invokevirtual 149, 189, 0)), (11, (.iload_n 1, 0, 0)), (12, (.if_icmp .eq 5, 17, 0)), (15, (.iconst 0, 0, 0)), (16, (.ireturn, 1, 0)), (17, (.aload_n 0, 0, 0)), (18, (.dup, 0, 0)), (19, (.getfield 135, 12, 11)), (22, (.iconst 1, 0, 0)), (23, (.iadd, 0, 0)), (24, (.putfield 135, 12, 11)), (27, (.iconst 1, 0, 0)), (28, (.ireturn, 1, 0))]
/-- TypeAtNightModel.need(C)V -/
def k_193 : List (Nat × tm_N) := [(0, (.aload_n 0, 0, 0)), (1, (.iload_n 1, 0, 0)), (2, (.invokevirtual 153, 192, 1)), (5, (.ifCond .ne 11, 16, 0)), (8, (.aload_n 0, 0, 0)), (9, (.aload_n 0, 0, 0)), (10, (.getfield 135, 12, 11)), (13, (.invokevirtual 157, 191, 1)), (16, (.return_, 0, 0))]
/-- TypeAtNightModel.oneOf(CI)I -/
def k_194 : List (Nat × tm_N) := [(0, (.aload_n 0, 0, 0)), (1, (.invokevirtual 145, 190, 0)), (4, (.ifCond .ne 5, 9, 0)), (7, (.iconst 0, 0, 0)), (8, (.ireturn, 0, 0)), (9, (.aload_n 0, 0, 0)), (10, (.invokevirtual 149, 189, 0)), (13, (.iload_n 1, 0, 0)), (14, (.iload_n 1, 0, 0)), (15, (.iload_n 2, 0, 0)), (16, (.iadd, 0, 0)), (17, (.iconst 1, 0, 0)), (18, (.isub, 0, 0)), (19, (.invokestatic 119, 178, 3)), (22, (.ifCond .ne 13, 35, 0)), (25, (.aload_n 0, 0, 0)), (26, (.aload_n 0, 0, 0)), (27, (.getfield 135, 12, 11)), (30, (.invokevirtual 157, 191, 1)), (33, (.iconst 0, 0, 0)), (34, (.ireturn, 0, 0)), (35, (.aload_n 0, 0, 0)), (36, (.dup, 0, 0)), (37, (.getfield 135, 12, 11)), (40, (.iconst 1, 0, 0)), (41, (.iadd, 0, 0)), (42, (.putfield 135, 12, 11)), (45, (.aload_n 0, 0, 0)), (46, (.getfield 126, 12, 8)), (49, (.aload_n 0, 0, 0)), (50, (.getfield 135, 12, 11)), (53, (.iconst 1, 0, 0)), (54, (.isub, 0, 0)), (55, (.baload, 0, 0)), (56, (.iload_n 1, 0, 0)), (57, (.isub, 0, 0)), (58, (.ireturn, 0, 0))]
/-- TypeAtNightModel.number(I)I -/
def k_195 : List (Nat × tm_N) := [(0, (.aload_n 0, 0, 0)), (1, (.bipush 48, 0, 0)), (3, (.bipush 10, 0, 0)), (5, (.invokevirtual 161, 194, 2)), (8, (.istore_n 2, 0, 0)), (9, (.iconst 1, 0, 0)), (10, (.istore_n 3, 0, 0)), (11, (.iload_n 3, 0, 0)), (12, (.iload_n 1, 0, 0)), (13, (.if_icmp .ge 44, 57, 0)), (16, (.aload_n 0, 0, 0)), (17, (.invokevirtual 145, 190, 0)), (20, (.ifCond .eq 37, 57, 0)), (23, (.aload_n 0, 0, 0)), (24, (.invokevirtual 149, 189, 0)), (27, (.bipush 48, 0, 0)), (29, (.bipush 57, 0, 0)), (31, (.invokestatic 119, 178, 3)), (34, (.ifCond .eq 23, 57, 0)), (37, (.bipush 10, 0, 0)), (39, (.iload_n 2, 0, 0)), (40, (.imul, 0, 0)), (41, (.aload_n 0, 0, 0)), (42, (.bipush 48, 0, 0)), (44, (.bipush 10, 0, 0)), (46, (.invokevirtual 161, 194, 2)), (49, (.iadd, 0, 0)), (50, (.istore_n 2, 0, 0)), (51, (.iinc 3 1, 0, 0)), (54, (.goto (-43), 11, 0)), (57, (.iload_n 2, 0, 0)), (58, (.ireturn, 0, 0))]
/-- TypeAtNightModel.wasRight()Z -/
def k_196 : List (Nat × tm_N) := [(0, (.aload_n 0, 0, 0)), (1, (.getfield 135, 12, 11)), (4, (.aload_n 0, 0, 0)), (5, (.getfield 129, 12, 9)), (8, (.if_icmp .ge 11, 19, 0)), (11, (.aload_n 0, 0, 0)), (12, (.aload_n 0, 0, 0)), (13, (.getfield 135, 12, 11)), (16, (.invokevirtual 157, 191, 1)), (19, (.aload_n 0, 0, 0)), (20, (.invokevirtual 145, 190, 0)), (23, (.ireturn, 1, 0))]
/-- TypeAtNightModel.signedOf()I -/
def k_197 : List (Nat × tm_N) := [(0, (.aload_n 0, 0, 0)), (1, (.invokevirtual 149, 189, 0)), (4, (.bipush 45, 0, 0)), (6, (.if_icmp .ne 7, 13, 0)), (9, (.iconst 1, 0, 0)), (10, (.goto 4, 14, 0)), (13, (.iconst 0, 0, 0)), (14, (.istore_n 1, 0, 0)), (15, (.aload_n 0, 0, 0)), (16, (.invokevirtual 145, 190, 0)), (19, (.ifCond .eq 29, 48, 0)), (22, (.aload_n 0, 0, 0)), (23, (.invokevirtual 149, 189, 0)), (26, (.bipush 45, 0, 0)), (28, (.if_icmp .eq 20, 48, 0)), (31, (.aload_n 0, 0, 0)), (32, (.invokevirtual 149, 189, 0)), (35, (.bipush 43, 0, 0)), (37, (.if_icmp .eq 11, 48, 0)), (40, (.aload_n 0, 0, 0)), (41, (.aload_n 0, 0, 0)), (42, (.getfield 135, 12, 11)), (45, (.invokevirtual 157, 191, 1)), (48, (.aload_n 0, 0, 0)), (49, (.dup, 0, 0)), (50, (.getfield 135, 12, 11)), (53, (.iconst 1, 0, 0)), (54, (.iadd, 0, 0)), (55, (.putfield 135, 12, 11)), (58, (.aload_n 0, 0, 0)), (59, (.bipush 48, 0, 0)), (61, (.bipush 10, 0, 0)), (63, (.invokevirtual 161, 194, 2)), (66, (.istore_n 2, 0, 0)), (67, (.iload_n 1, 0, 0)), (68, (.ifCond .eq 8, 76, 0)), (71, (.iload_n 2, 0, 0)), (72, (.ineg, 0, 0)), (73, (.goto 4, 77, 0)), (76, (.iload_n 2, 0, 0)), (77, (.ireturn, 0, 0))]
/-- TypeAtNightModel.sorts()I -/
def k_198 : List (Nat × tm_N) := [(0, (.aload_n 0, 0, 0)), (1, (.iconst 0, 0, 0)), (2, (.putfield 100, 12, 7)), (5, (.aload_n 0, 0, 0)), (6, (.bipush 59, 0, 0)), (8, (.invokevirtual 165, 188, 1)), (11, (.aload_n 0, 0, 0)), (12, (.getfield 129, 12, 9)), (15, (.ifCond .ne 5, 20, 0)), (18, (.iconst 0, 0, 0)), (19, (.ireturn, 0, 0)), (20, (.iconst 0, 0, 0)), (21, (.istore_n 1, 0, 0)), (22, (.iconst 1, 0, 0)), (23, (.istore_n 2, 0, 0)), (24, (.iload_n 2, 0, 0)), (25, (.ifCond .eq 93, 118, 0)), (28, (.aload_n 0, 0, 0)), (29, (.invokevirtual 145, 190, 0)), (32, (.ifCond .eq 86, 118, 0)), (35, (.aload_n 0, 0, 0)), (36, (.getfield 116, 12, 1)), (39, (.iload_n 1, 0, 0)), (40, (.iadd, 0, 0)), (41, (.bipush 12, 0, 0)), (43, (.if_icmp .ne 14, 57, 0)), (46, (.aload_n 0, 0, 0)), (47, (.aload_n 0, 0, 0)), (48, (.getfield 135, 12, 11)), (51, (.invokevirtual 157, 191, 1)), (54, (.goto 51, 105, 0)), (57, (.aload_n 0, 0, 0)), (58, (.getfield 24, 12, 13)), (61, (.iconst 3, 0, 0)), (62, (.iload_n 1, 0, 0)), (63, (.imul, 0, 0)), (64, (.aload_n 0, 0, 0)), (65, (.bipush 97, 0, 0)), (67, (.bipush 8, 0, 0)), (69, (.invokevirtual 161, 194, 2)), (72, (.iastore, 0, 0)), (73, (.aload_n 0, 0, 0)), (74, (.getfield 24, 12, 13)), (77, (.iconst 3, 0, 0)), (78, (.iload_n 1, 0, 0)), (79, (.imul, 0, 0)), (80, (.iconst 1, 0, 0)), (81, (.iadd, 0, 0)), (82, (.aload_n 0, 0, 0)), (83, (.bipush 48, 0, 0)), (85, (.bipush 10, 0, 0)), (87, (.invokevirtual 161, 194, 2)), (90, (.iastore, 0, 0)), (91, (.aload_n 0, 0, 0)), (92, (.getfield 24, 12, 13)), (95, (.iconst 3, 0, 0)), (96, (.iload_n 1, 0, 0)), (97, (.imul, 0, 0)), (98, (.iconst 2, 0, 0)), (99, (.iadd, 0, 0)), (100, (.aload_n 0, 0, 0)), (101, (.invokevirtual 168, 197, 0)), (104, (.iastore, 0, 0)), (105, (.iinc 1 1, 0, 0)), (108, (.aload_n 0, 0, 0)), (109, (.bipush 59, 0, 0)), (111, (.invokevirtual 153, 192, 1)), (114, (.istore_n 2, 0, 0)), (115, (.goto (-91), 24, 0)), (118, (.aload_n 0, 0, 0)), (119, (.invokevirtual 171, 196, 0)), (122, (.ifCond .ne 10, 132, 0)), (125, (.iconst (-1), 0, 0)), (126, (.aload_n 0, 0, 0)), (127, (.getfield 138, 12, 12)), (130, (.isub, 0, 0)), (131, (.ireturn, 0, 0)), (132, (.iconst 0, 0, 0)), (133, (.istore_n 3, 0, 0)), (134, (.iload_n 3, 0, 0)), (135, (.iload_n 1, 0, 0)), (136, (.if_icmp .ge 116, 252, 0)), (139, (.aload_n 0, 0, 0)), (140, (.getfield 13, 12, 2)), (143, (.aload_n 0, 0, 0)), (144, (.getfield 116, 12, 1)), (147, (.aload_n 0, 0, 0)), (148, (.getfield 24, 12, 13)), (151, (.iconst 3, 0, 0)), (152, (.iload_n 3, 0, 0)), (153, (.imul, 0, 0)), (154, (.iaload, 0, 0)), (155, (.iastore, 0, 0)), (156, (.aload_n 0, 0, 0)), (157, (.getfield 9, 12, 0)), (160, (.aload_n 0, 0, 0)), (161, (.getfield 116, 12, 1)), (164, (.aload_n 0, 0, 0)), (165, (.getfield 24, 12, 13)), (168, (.iconst 3, 0, 0)), (169, (.iload_n 3, 0, 0)), (170, (.imul, 0, 0)), (171, (.iconst 1, 0, 0)), (172, (.iadd, 0, 0)), (173, (.iaload, 0, 0)), (174, (.iastore, 0, 0)), (175, (.aload_n 0, 0, 0)), (176, (.getfield 9, 12, 0)), (179, (.bipush 12, 0, 0)), (181, (.aload_n 0, 0, 0)), (182, (.getfield 116, 12, 1)), (185, (.iadd, 0, 0)), (186, (.aload_n 0, 0, 0)), (187, (.getfield 24, 12, 13)), (190, (.iconst 3, 0, 0)), (191, (.iload_n 3, 0, 0)), (192, (.imul, 0, 0)), (193, (.iconst 2, 0, 0)), (194, (.iadd, 0, 0)), (195, (.iaload, 0, 0)), (196, (.iastore, 0, 0)), (197, (.aload_n 0, 0, 0)), (198, (.getfield 9, 12, 0)), (201, (.bipush 24, 0, 0)), (203, (.aload_n 0, 0, 0)), (204, (.getfield 116, 12, 1)), (207, (.iadd, 0, 0)), (208, (.aload_n 0, 0, 0)), (209, (.getfield 13, 12, 2)), (212, (.aload_n 0, 0, 0)), (213, (.getfield 116, 12, 1)), (216, (.iaload, 0, 0)), (217, (.iastore, 0, 0)), (218, (.aload_n 0, 0, 0)), (219, (.getfield 9, 12, 0)), (222, (.bipush 36, 0, 0)), (224, (.dup2, 0, 0)), (225, (.iaload, 0, 0)), (226, (.iconst 1, 0, 0)), (227, (.aload_n 0, 0, 0)), (228, (.getfield 116, 12, 1)), (231, (.ishl, 0, 0)), (232, (.iconst (-1), 0, 0)), (233, (.ixor, 0, 0)), (234, (.iand, 0, 0)), (235, (.iastore, 0, 0)), (236, (.aload_n 0, 0, 0)), (237, (.dup, 0, 0)), (238, (.getfield 116, 12, 1)), (241, (.iconst 1, 0, 0)), (242, (.iadd, 0, 0)), (243, (.putfield 116, 12, 1)), (246, (.iinc 3 1, 0, 0)), (249, (.goto (-115), 134, 0)), (252, (.aload_n 0, 0, 0)), (253, (.iconst 0, 0, 0)), (254, (.putfield 174, 12, 20)), (257, (.aload_n 0, 0, 0)), (258, (.dup, 0, 0)), (259, (.getfield 177, 12, 43)), (262, (.iconst 1, 0, 0)), (263, (.iadd, 0, 0)), (264, (.putfield 177, 12, 43)), (267, (.iload_n 1, 0, 0)), (268, (.ireturn, 0, 0))]
/-- TypeAtNightModel.held(I)I -/
def k_199 : List (Nat × tm_N) := [(0, (.aload_n 0, 0, 0)), (1, (.iload_n 1, 0, 0)), (2, (.invokevirtual 180, 200, 1)), (5, (.istore_n 2, 0, 0)), (6, (.aload_n 0, 0, 0)), (7, (.bipush 60, 0, 0)), (9, (.invokevirtual 153, 192, 1)), (12, (.ifCond .eq 18, 30, 0)), (15, (.iload_n 2, 0, 0)), (16, (.aload_n 0, 0, 0)), (17, (.iload_n 1, 0, 0)), (18, (.invokevirtual 180, 200, 1)), (21, (.if_icmp .ge 7, 28, 0)), (24, (.iconst 1, 0, 0)), (25, (.goto 4, 29, 0)), (28, (.iconst 0, 0, 0)), (29, (.ireturn, 0, 0)), (30, (.aload_n 0, 0, 0)), (31, (.bipush 62, 0, 0)), (33, (.invokevirtual 153, 192, 1)), (36, (.ifCond .eq 18, 54, 0)), (39, (.iload_n 2, 0, 0)), (40, (.aload_n 0, 0, 0)), (41, (.iload_n 1, 0, 0)), (42, (.invokevirtual 180, 200, 1)), (45, (.if_icmp .le 7, 52, 0)), (48, (.iconst 1, 0, 0)), (49, (.goto 4, 53, 0)), (52, (.iconst 0, 0, 0)), (53, (.ireturn, 0, 0)), (54, (.aload_n 0, 0, 0)), (55, (.bipush 61, 0, 0)), (57, (.invokevirtual 153, 192, 1)), (60, (.ifCond .eq 18, 78, 0)), (63, (.iload_n 2, 0, 0)), (64, (.aload_n 0, 0, 0)), (65, (.iload_n 1, 0, 0)), (66, (.invokevirtual 180, 200, 1)), (69, (.if_icmp .ne 7, 76, 0)), (72, (.iconst 1, 0, 0)), (73, (.goto 4, 77, 0)), (76, (.iconst 0, 0, 0)), (77, (.ireturn, 0, 0)), (78, (.iload_n 2, 0, 0)), (79, (.ireturn, 0, 0))]
/-- TypeAtNightModel.sum(I)I -/
def k_200 : List (Nat × tm_N) := [(0, (.aload_n 0, 0, 0)), (1, (.iload_n 1, 0, 0)), (2, (.invokevirtual 184, 201, 1)), (5, (.istore_n 2, 0, 0)), (6, (.aload_n 0, 0, 0)), (7, (.invokevirtual 145, 190, 0)), (10, (.ifCond .eq 72, 82, 0)), (13, (.aload_n 0, 0, 0)), (14, (.invokevirtual 149, 189, 0)), (17, (.bipush 43, 0, 0)), (19, (.if_icmp .eq 12, 31, 0)), (22, (.aload_n 0, 0, 0)), (23, (.invokevirtual 149, 189, 0)), (26, (.bipush 45, 0, 0)), (28, (.if_icmp .ne 54, 82, 0)), (31, (.aload_n 0, 0, 0)), (32, (.invokevirtual 149, 189, 0)), (35, (.bipush 43, 0, 0)), (37, (.if_icmp .ne 7, 44, 0)), (40, (.iconst 1, 0, 0)), (41, (.goto 4, 45, 0)), (44, (.iconst 0, 0, 0)), (45, (.istore_n 3, 0, 0)), (46, (.aload_n 0, 0, 0)), (47, (.dup, 0, 0)), (48, (.getfield 135, 12, 11)), (51, (.iconst 1, 0, 0)), (52, (.iadd, 0, 0)), (53, (.putfield 135, 12, 11)), (56, (.aload_n 0, 0, 0)), (57, (.iload_n 1, 0, 0)), (58, (.invokevirtual 184, 201, 1)), (61, (.istore 4, 0, 0)), (63, (.iload_n 3, 0, 0)), (64, (.ifCond .eq 10, 74, 0)), (67, (.iload_n 2, 0, 0)), (68, (.iload 4, 0, 0)), (70, (.iadd, 0, 0)), (71, (.goto 7, 78, 0)), (74, (.iload_n 2, 0, 0)), (75, (.iload 4, 0, 0)), (77, (.isub, 0, 0)), (78, (.istore_n 2, 0, 0)), (79, (.goto (-73), 6, 0)), (82, (.iload_n 2, 0, 0)), (83, (.ireturn, 0, 0))]
/-- TypeAtNightModel.product(I)I -/
def k_201 : List (Nat × tm_N) := [(0, (.aload_n 0, 0, 0)), (1, (.iload_n 1, 0, 0)), (2, (.invokevirtual 187, 203, 1)), (5, (.istore_n 2, 0, 0)), (6, (.aload_n 0, 0, 0)), (7, (.invokevirtual 145, 190, 0)), (10, (.ifCond .eq 81, 91, 0)), (13, (.aload_n 0, 0, 0)), (14, (.invokevirtual 149, 189, 0)), (17, (.bipush 42, 0, 0)), (19, (.if_icmp .eq 12, 31, 0)), (22, (.aload_n 0, 0, 0)), (23, (.invokevirtual 149, 189, 0)), (26, (.bipush 47, 0, 0)), (28, (.if_icmp .ne 63, 91, 0)), (31, (.aload_n 0, 0, 0)), (32, (.invokevirtual 149, 189, 0)), (35, (.bipush 42, 0, 0)), (37, (.if_icmp .ne 7, 44, 0)), (40, (.iconst 1, 0, 0)), (41, (.goto 4, 45, 0)), (44, (.iconst 0, 0, 0)), (45, (.istore_n 3, 0, 0)), (46, (.aload_n 0, 0, 0)), (47, (.dup, 0, 0)), (48, (.getfield 135, 12, 11)), (51, (.iconst 1, 0, 0)), (52, (.iadd, 0, 0)), (53, (.putfield 135, 12, 11)), (56, (.aload_n 0, 0, 0)), (57, (.iload_n 1, 0, 0)), (58, (.invokevirtual 187, 203, 1)), (61, (.istore 4, 0, 0)), (63, (.iload_n 3, 0, 0)), (64, (.ifCond .eq 10, 74, 0)), (67, (.iload_n 2, 0, 0)), (68, (.iload 4, 0, 0)), (70, (.imul, 0, 0)), (71, (.goto 16, 87, 0)), (74, (.iload 4, 0, 0)), (76, (.ifCond .ne 7, 83, 0)), (79, (.iconst 0, 0, 0)), (80, (.goto 7, 87, 0)), (83, (.iload_n 2, 0, 0)), (84, (.iload 4, 0, 0)), (86, (.idiv, 0, 0)), (87, (.istore_n 2, 0, 0)), (88, (.goto (-82), 6, 0)), (91, (.iload_n 2, 0, 0)), (92, (.ireturn, 0, 0))]
/-- TypeAtNightModel.letterOf(I)I -/
def k_202 : List (Nat × tm_N) := [(0, (.iload_n 0, 0, 0)), (1, (.bipush 109, 0, 0)), (3, (.if_icmp .ne 7, 10, 0)), (6, (.iconst 0, 0, 0)), (7, (.goto 65, 72, 0)), (10, (.iload_n 0, 0, 0)), (11, (.bipush 119, 0, 0)), (13, (.if_icmp .ne 7, 20, 0)), (16, (.iconst 1, 0, 0)), (17, (.goto 55, 72, 0)), (20, (.iload_n 0, 0, 0)), (21, (.bipush 108, 0, 0)), (23, (.if_icmp .ne 7, 30, 0)), (26, (.iconst 2, 0, 0)), (27, (.goto 45, 72, 0)), (30, (.iload_n 0, 0, 0)), (31, (.bipush 107, 0, 0)), (33, (.if_icmp .ne 7, 40, 0)), (36, (.iconst 3, 0, 0)), (37, (.goto 35, 72, 0)), (40, (.iload_n 0, 0, 0)), (41, (.bipush 98, 0, 0)), (43, (.if_icmp .ne 7, 50, 0)), (46, (.iconst 4, 0, 0)), (47, (.goto 25, 72, 0)), (50, (.iload_n 0, 0, 0)), (51, (.bipush 105, 0, 0)), (53, (.if_icmp .ne 7, 60, 0)), (56, (.iconst 5, 0, 0)), (57, (.goto 15, 72, 0)), (60, (.iload_n 0, 0, 0)), (61, (.bipush 110, 0, 0)), (63, (.if_icmp .ne 8, 71, 0)), (66, (.bipush 6, 0, 0)), (68, (.goto 4, 72, 0)), (71, (.iconst (-1), 0, 0)), (72, (.ireturn, 0, 0))]
/-- TypeAtNightModel.thing(I)I -/
def k_203 : List (Nat × tm_N) := [(0, (.aload_n 0, 0, 0)), (1, (.bipush 45, 0, 0)), (3, (.invokevirtual 153, 192, 1)), (6, (.ifCond .eq 10, 16, 0)), (9, (.aload_n 0, 0, 0)), (10, (.iload_n 1, 0, 0)), (11, (.invokevirtual 187, 203, 1)), (14, (.ineg, 0, 0)), (15, (.ireturn, 0, 0)), (16, (.aload_n 0, 0, 0)), (17, (.invokevirtual 145, 190, 0)), (20, (.ifCond .ne 5, 25, 0)), (23, (.iconst 0, 0, 0)), (24, (.ireturn, 0, 0)), (25, (.aload_n 0, 0, 0)), (26, (.invokevirtual 149, 189, 0)), (29, (.istore_n 2, 0, 0)), (30, (.iload_n 2, 0, 0)), (31, (.bipush 40, 0, 0)), (33, (.if_icmp .ne 34, 67, 0)), (36, (.iload_n 1, 0, 0)), (37, (.iconst 4, 0, 0)), (38, (.if_icmp .ge 29, 67, 0)), (41, (.aload_n 0, 0, 0)), (42, (.dup, 0, 0)), (43, (.getfield 135, 12, 11)), (46, (.iconst 1, 0, 0)), (47, (.iadd, 0, 0)), (48, (.putfield 135, 12, 11)), (51, (.aload_n 0, 0, 0)), (52, (.iload_n 1, 0, 0)), (53, (.iconst 1, 0, 0)), (54, (.iadd, 0, 0)), (55, (.invokevirtual 190, 199, 1)), (58, (.istore_n 3, 0, 0)), (59, (.aload_n 0, 0, 0)), (60, (.bipush 41, 0, 0)), (62, (.invokevirtual 193, 193, 1)), (65, (.iload_n 3, 0, 0)), (66, (.ireturn, 0, 0)), (67, (.iload_n 2, 0, 0)), (68, (.bipush 48, 0, 0)), (70, (.bipush 57, 0, 0)), (72, (.invokestatic 119, 178, 3)), (75, (.ifCond .eq 9, 84, 0)), (78, (.aload_n 0, 0, 0)), (79, (.iconst 3, 0, 0)), (80, (.invokevirtual 196, 195, 1)), (83, (.ireturn, 0, 0)), (84, (.iload_n 2, 0, 0)), (85, (.invokestatic 199, 202, 1)), (88, (.iconst (-1), 0, 0)), (89, (.if_icmp .ne 13, 102, 0)), (92, (.aload_n 0, 0, 0)), (93, (.aload_n 0, 0, 0)), (94, (.getfield 135, 12, 11)), (97, (.invokevirtual 157, 191, 1)), (100, (.iconst 0, 0, 0)), (101, (.ireturn, 0, 0)), (102, (.aload_n 0, 0, 0)), (103, (.dup, 0, 0)), (104, (.getfield 135, 12, 11)), (107, (.iconst 1, 0, 0)), (108, (.iadd, 0, 0)), (109, (.putfield 135, 12, 11)), (112, (.aload_n 0, 0, 0)), (113, (.getfield 202, 12, 17)), (116, (.ifCond .eq 15, 131, 0)), (119, (.aload_n 0, 0, 0)), (120, (.getfield 33, 12, 18)), (123, (.iload_n 2, 0, 0)), (124, (.invokestatic 199, 202, 1)), (127, (.iaload, 0, 0)), (128, (.goto 4, 132, 0)), (131, (.iconst 0, 0, 0)), (132, (.ireturn, 0, 0))]
/-- TypeAtNightModel.readRule()Z -/
def k_204 : List (Nat × tm_N) := [(0, (.aload_n 0, 0, 0)), (1, (.bipush 40, 0, 0)), (3, (.invokevirtual 165, 188, 1)), (6, (.aload_n 0, 0, 0)), (7, (.iconst 0, 0, 0)), (8, (.putfield 202, 12, 17)), (11, (.aload_n 0, 0, 0)), (12, (.getfield 129, 12, 9)), (15, (.ifCond .le 9, 24, 0)), (18, (.aload_n 0, 0, 0)), (19, (.iconst 0, 0, 0)), (20, (.invokevirtual 190, 199, 1)), (23, (.pop, 0, 0)), (24, (.aload_n 0, 0, 0)), (25, (.invokevirtual 171, 196, 0)), (28, (.ireturn, 1, 0))]
/-- TypeAtNightModel.rule()I -/
def k_205 : List (Nat × tm_N) := [(0, (.aload_n 0, 0, 0)), (1, (.iconst 0, 0, 0)), (2, (.putfield 100, 12, 7)), (5, (.aload_n 0, 0, 0)), (6, (.getfield 123, 12, 4)), (9, (.istore_n 1, 0, 0)), (10, (.aload_n 0, 0, 0)), (11, (.invokevirtual 206, 204, 0)), (14, (.ifCond .ne 10, 24, 0)), (17, (.iconst (-1), 0, 0)), (18, (.aload_n 0, 0, 0)), (19, (.getfield 138, 12, 12)), (22, (.isub, 0, 0)), (23, (.ireturn, 0, 0)), (24, (.iconst 0, 0, 0)), (25, (.istore_n 2, 0, 0)), (26, (.iload_n 2, 0, 0)), (27, (.iload_n 1, 0, 0)), (28, (.if_icmp .ge 21, 49, 0)), (31, (.aload_n 0, 0, 0)), (32, (.getfield 27, 12, 14)), (35, (.iload_n 2, 0, 0)), (36, (.aload_n 0, 0, 0)), (37, (.getfield 16, 12, 3)), (40, (.iload_n 2, 0, 0)), (41, (.baload, 0, 0)), (42, (.bastore, 0, 0)), (43, (.iinc 2 1, 0, 0)), (46, (.goto (-20), 26, 0)), (49, (.aload_n 0, 0, 0)), (50, (.iload_n 1, 0, 0)), (51, (.putfield 209, 12, 16)), (54, (.iconst 0, 0, 0)), (55, (.ireturn, 0, 0))]
/-- TypeAtNightModel.turnOf([II)I -/
def k_206 : List (Nat × tm_N) := [(0, (.iconst 0, 0, 0)), (1, (.istore_n 3, 0, 0)), (2, (.iconst 0, 0, 0)), (3, (.istore 4, 0, 0)), (5, (.iconst 0, 0, 0)), (6, (.istore 5, 0, 0)), (8, (.iload 5, 0, 0)), (10, (.aload_n 0, 0, 0)), (11, (.getfield 116, 12, 1)), (14, (.if_icmp .ge 49, 63, 0)), (17, (.iload 5, 0, 0)), (19, (.iload_n 2, 0, 0)), (20, (.if_icmp .eq 37, 57, 0)), (23, (.aload_n 1, 0, 0)), (24, (.bipush 24, 0, 0)), (26, (.iload 5, 0, 0)), (28, (.iadd, 0, 0)), (29, (.iaload, 0, 0)), (30, (.aload_n 1, 0, 0)), (31, (.bipush 24, 0, 0)), (33, (.iload_n 2, 0, 0)), (34, (.iadd, 0, 0)), (35, (.iaload, 0, 0)), (36, (.if_icmp .eq 6, 42, 0)), (39, (.goto 18, 57, 0)), (42, (.iinc 3 1, 0, 0)), (45, (.iload 4, 0, 0)), (47, (.aload_n 1, 0, 0)), (48, (.bipush 12, 0, 0)), (50, (.iload 5, 0, 0)), (52, (.iadd, 0, 0)), (53, (.iaload, 0, 0)), (54, (.iadd, 0, 0)), (55, (.istore 4, 0, 0)), (57, (.iinc 5 1, 0, 0)), (60, (.goto (-52), 8, 0)), (63, (.iload_n 3, 0, 0)), (64, (.ifCond .ne 7, 71, 0)), (67, (.iconst 0, 0, 0)), (68, (.goto 7, 75, 0)), (71, (.iload 4, 0, 0)), (73, (.iload_n 3, 0, 0)), (74, (.idiv, 0, 0)), (75, (.aload_n 1, 0, 0)), (76, (.bipush 12, 0, 0)), (78, (.iload_n 2, 0, 0)), (79, (.iadd, 0, 0)), (80, (.iaload, 0, 0)), (81, (.isub, 0, 0)), (82, (.iconst 2, 0, 0)), (83, (.idiv, 0, 0)), (84, (.istore 5, 0, 0)), (86, (.aload_n 0, 0, 0)), (87, (.getfield 209, 12, 16)), (90, (.ifCond .le 103, 193, 0)), (93, (.aload_n 0, 0, 0)), (94, (.getfield 33, 12, 18)), (97, (.iconst 0, 0, 0)), (98, (.aload_n 1, 0, 0)), (99, (.bipush 12, 0, 0)), (101, (.iload_n 2, 0, 0)), (102, (.iadd, 0, 0)), (103, (.iaload, 0, 0)), (104, (.iastore, 0, 0)), (105, (.aload_n 0, 0, 0)), (106, (.getfield 33, 12, 18)), (109, (.iconst 1, 0, 0)), (110, (.aload_n 1, 0, 0)), (111, (.iload_n 2, 0, 0)), (112, (.iaload, 0, 0)), (113, (.iastore, 0, 0)), (114, (.aload_n 0, 0, 0)), (115, (.getfield 33, 12, 18)), (118, (.iconst 2, 0, 0)), (119, (.aload_n 0, 0, 0)), (120, (.getfield 13, 12, 2)), (123, (.iload_n 2, 0, 0)), (124, (.iaload, 0, 0)), (125, (.iastore, 0, 0)), (126, (.aload_n 0, 0, 0)), (127, (.getfield 33, 12, 18)), (130, (.iconst 3, 0, 0)), (131, (.iload_n 3, 0, 0)), (132, (.iastore, 0, 0)), (133, (.aload_n 0, 0, 0)), (134, (.getfield 33, 12, 18)), (137, (.iconst 4, 0, 0)), (138, (.iload 4, 0, 0)), (140, (.iastore, 0, 0)), (141, (.aload_n 0, 0, 0)), (142, (.getfield 33, 12, 18)), (145, (.iconst 5, 0, 0)), (146, (.iload_n 2, 0, 0)), (147, (.iastore, 0, 0)), (148, (.aload_n 0, 0, 0)), (149, (.getfield 33, 12, 18)), (152, (.bipush 6, 0, 0)), (154, (.aload_n 1, 0, 0)), (155, (.bipush 37, 0, 0)), (157, (.iaload, 0, 0)), (158, (.bipush 7, 0, 0)), (160, (.irem, 0, 0)), (161, (.iastore, 0, 0)), (162, (.aload_n 0, 0, 0)), (163, (.aload_n 0, 0, 0)), (164, (.getfield 27, 12, 14)), (167, (.aload_n 0, 0, 0)), (168, (.getfield 209, 12, 16)), (171, (.bipush 40, 0, 0)), (173, (.invokevirtual 141, 187, 3)), (176, (.aload_n 0, 0, 0)), (177, (.iconst 1, 0, 0)), (178, (.putfield 202, 12, 17)), (181, (.aload_n 0, 0, 0)), (182, (.iconst 0, 0, 0)), (183, (.invokevirtual 190, 199, 1)), (186, (.istore 5, 0, 0)), (188, (.aload_n 0, 0, 0)), (189, (.iconst 0, 0, 0)), (190, (.putfield 202, 12, 17)), (193, (.iload 5, 0, 0)), (195, (.invokestatic 212, 180, 1)), (198, (.ireturn, 0, 0))]
/-- TypeAtNightModel.sort(II)I -/
def k_207 : List (Nat × tm_N) := [(0, (.aload_n 0, 0, 0)), (1, (.iconst 0, 0, 0)), (2, (.putfield 100, 12, 7)), (5, (.aload_n 0, 0, 0)), (6, (.iload_n 1, 0, 0)), (7, (.invokevirtual 215, 183, 1)), (10, (.ifCond .eq 12, 22, 0)), (13, (.iload_n 2, 0, 0)), (14, (.iconst 0, 0, 0)), (15, (.iconst 5, 0, 0)), (16, (.invokestatic 119, 178, 3)), (19, (.ifCond .ne 8, 27, 0)), (22, (.aload_n 0, 0, 0)), (23, (.invokevirtual 219, 181, 0)), (26, (.ireturn, 0, 0)), (27, (.iload_n 2, 0, 0)), (28, (.tableswitch 85 0 4 #[36, 43, 50, 63, 73], 0, 0)), (64, (.aload_n 0, 0, 0)), (65, (.getfield 13, 12, 2)), (68, (.iload_n 1, 0, 0)), (69, (.iaload, 0, 0)), (70, (.ireturn, 0, 0)), (71, (.aload_n 0, 0, 0)), (72, (.getfield 9, 12, 0)), (75, (.iload_n 1, 0, 0)), (76, (.iaload, 0, 0)), (77, (.ireturn, 0, 0)), (78, (.bipush 10, 0, 0)), (80, (.aload_n 0, 0, 0)), (81, (.getfield 9, 12, 0)), (84, (.bipush 12, 0, 0)), (86, (.iload_n 1, 0, 0)), (87, (.iadd, 0, 0)), (88, (.iaload, 0, 0)), (89, (.iadd, 0, 0)), (90, (.ireturn, 0, 0)), (91, (.aload_n 0, 0, 0)), (92, (.getfield 9, 12, 0)), (95, (.bipush 24, 0, 0)), (97, (.iload_n 1, 0, 0)), (98, (.iadd, 0, 0)), (99, (.iaload, 0, 0)), (100, (.ireturn, 0, 0)), (101, (.aload_n 0, 0, 0)), (102, (.getfield 9, 12, 0)), (105, (.bipush 36, 0, 0)), (107, (.iaload, 0, 0)), (108, (.iload_n 1, 0, 0)), (109, (.ishr, 0, 0)), (110, (.iconst 1, 0, 0)), (111, (.iand, 0, 0)), (112, (.ireturn, 0, 0)), (113, (.bipush 10, 0, 0)), (115, (.aload_n 0, 0, 0)), (116, (.aload_n 0, 0, 0)), (117, (.getfield 9, 12, 0)), (120, (.iload_n 1, 0, 0)), (121, (.invokevirtual 222, 206, 2)), (124, (.iadd, 0, 0)), (125, (.ireturn, 0, 0))]
/-- TypeAtNightModel.inBox([II)I -/
def k_208 : List (Nat × tm_N) := [(0, (.iconst 0, 0, 0)), (1, (.istore_n 3, 0, 0)), (2, (.iconst 0, 0, 0)), (3, (.istore 4, 0, 0)), (5, (.iload 4, 0, 0)), (7, (.aload_n 0, 0, 0)), (8, (.getfield 116, 12, 1)), (11, (.if_icmp .ge 31, 42, 0)), (14, (.iload_n 3, 0, 0)), (15, (.aload_n 1, 0, 0)), (16, (.bipush 24, 0, 0)), (18, (.iload 4, 0, 0)), (20, (.iadd, 0, 0)), (21, (.iaload, 0, 0)), (22, (.iload_n 2, 0, 0)), (23, (.if_icmp .ne 10, 33, 0)), (26, (.iconst 1, 0, 0)), (27, (.iload 4, 0, 0)), (29, (.ishl, 0, 0)), (30, (.goto 4, 34, 0)), (33, (.iconst 0, 0, 0)), (34, (.ior, 0, 0)), (35, (.istore_n 3, 0, 0)), (36, (.iinc 4 1, 0, 0)), (39, (.goto (-34), 5, 0)), (42, (.iload_n 3, 0, 0)), (43, (.ireturn, 0, 0))]
/-- TypeAtNightModel.moodsOf([II)I -/
def k_209 : List (Nat × tm_N) := [(0, (.iconst 0, 0, 0)), (1, (.istore_n 3, 0, 0)), (2, (.iconst 0, 0, 0)), (3, (.istore 4, 0, 0)), (5, (.iload 4, 0, 0)), (7, (.aload_n 0, 0, 0)), (8, (.getfield 116, 12, 1)), (11, (.if_icmp .ge 32, 43, 0)), (14, (.iload_n 3, 0, 0)), (15, (.iload_n 2, 0, 0)), (16, (.iload 4, 0, 0)), (18, (.invokestatic 226, 179, 2)), (21, (.ifCond .eq 13, 34, 0)), (24, (.aload_n 1, 0, 0)), (25, (.bipush 12, 0, 0)), (27, (.iload 4, 0, 0)), (29, (.iadd, 0, 0)), (30, (.iaload, 0, 0)), (31, (.goto 4, 35, 0)), (34, (.iconst 0, 0, 0)), (35, (.iadd, 0, 0)), (36, (.istore_n 3, 0, 0)), (37, (.iinc 4 1, 0, 0)), (40, (.goto (-35), 5, 0)), (43, (.iload_n 3, 0, 0)), (44, (.ireturn, 0, 0))]
/-- TypeAtNightModel.box(II)I -/
def k_210 : List (Nat × tm_N) := [(0, (.aload_n 0, 0, 0)), (1, (.iconst 0, 0, 0)), (2, (.putfield 100, 12, 7)), (5, (.iload_n 1, 0, 0)), (6, (.iconst 0, 0, 0)), (7, (.bipush 7, 0, 0)), (9, (.invokestatic 119, 178, 3)), (12, (.ifCond .eq 12, 24, 0)), (15, (.iload_n 2, 0, 0)), (16, (.iconst 0, 0, 0)), (17, (.iconst 1, 0, 0)), (18, (.invokestatic 119, 178, 3)), (21, (.ifCond .ne 8, 29, 0)), (24, (.aload_n 0, 0, 0)), (25, (.invokevirtual 219, 181, 0)), (28, (.ireturn, 0, 0)), (29, (.iload_n 2, 0, 0)), (30, (.ifCond .ne 15, 45, 0)), (33, (.aload_n 0, 0, 0)), (34, (.aload_n 0, 0, 0)), (35, (.getfield 9, 12, 0)), (38, (.iload_n 1, 0, 0)), (39, (.invokevirtual 230, 208, 2)), (42, (.goto 24, 66, 0)), (45, (.sipush 200, 0, 0)), (48, (.aload_n 0, 0, 0)), (49, (.aload_n 0, 0, 0)), (50, (.getfield 9, 12, 0)), (53, (.aload_n 0, 0, 0)), (54, (.aload_n 0, 0, 0)), (55, (.getfield 9, 12, 0)), (58, (.iload_n 1, 0, 0)), (59, (.invokevirtual 230, 208, 2)), (62, (.invokevirtual 233, 209, 2)), (65, (.iadd, 0, 0)), (66, (.ireturn, 0, 0))]
/-- TypeAtNightModel.wears()I -/
def k_211 : List (Nat × tm_N) := [(0, (.iconst 0, 0, 0)), (1, (.istore_n 1, 0, 0)), (2, (.iconst 0, 0, 0)), (3, (.istore_n 2, 0, 0)), (4, (.iload_n 2, 0, 0)), (5, (.aload_n 0, 0, 0)), (6, (.getfield 116, 12, 1)), (9, (.if_icmp .ge 18, 27, 0)), (12, (.iload_n 1, 0, 0)), (13, (.aload_n 0, 0, 0)), (14, (.getfield 9, 12, 0)), (17, (.iload_n 2, 0, 0)), (18, (.iaload, 0, 0)), (19, (.iadd, 0, 0)), (20, (.istore_n 1, 0, 0)), (21, (.iinc 2 1, 0, 0)), (24, (.goto (-20), 4, 0)), (27, (.iload_n 1, 0, 0)), (28, (.ireturn, 0, 0))]
/-- TypeAtNightModel.sheet(IIII)I -/
def k_212 : List (Nat × tm_N) := [(0, (.aload_n 0, 0, 0)), (1, (.iconst 0, 0, 0)), (2, (.putfield 100, 12, 7)), (5, (.iload_n 1, 0, 0)), (6, (.iconst 0, 0, 0)), (7, (.iconst 3, 0, 0)), (8, (.invokestatic 119, 178, 3)), (11, (.ifCond .eq 9, 20, 0)), (14, (.iload_n 2, 0, 0)), (15, (.bipush 12, 0, 0)), (17, (.if_icmp .le 5, 22, 0)), (20, (.iconst (-1), 0, 0)), (21, (.ireturn, 0, 0)), (22, (.iload_n 1, 0, 0)), (23, (.iconst 3, 0, 0)), (24, (.if_icmp .ge 10, 34, 0)), (27, (.iload_n 2, 0, 0)), (28, (.ifCond .ge 6, 34, 0)), (31, (.bipush (-2), 0, 0)), (33, (.ireturn, 0, 0)), (34, (.iload_n 3, 0, 0)), (35, (.istore 5, 0, 0)), (37, (.iconst 0, 0, 0)), (38, (.istore 6, 0, 0)), (40, (.iload 6, 0, 0)), (42, (.aload_n 0, 0, 0)), (43, (.getfield 116, 12, 1)), (46, (.if_icmp .ge 74, 120, 0)), (49, (.iload_n 1, 0, 0)), (50, (.ifCond .ne 9, 59, 0)), (53, (.iload 5, 0, 0)), (55, (.i2b, 0, 0)), (56, (.goto 16, 72, 0)), (59, (.iload_n 1, 0, 0)), (60, (.iconst 1, 0, 0)), (61, (.if_icmp .ne 9, 70, 0)), (64, (.iload 5, 0, 0)), (66, (.i2s, 0, 0)), (67, (.goto 5, 72, 0)), (70, (.iload 5, 0, 0)), (72, (.istore 7, 0, 0)), (74, (.aload_n 0, 0, 0)), (75, (.getfield 9, 12, 0)), (78, (.iload 6, 0, 0)), (80, (.iload_n 1, 0, 0)), (81, (.iconst 3, 0, 0)), (82, (.if_icmp .eq 9, 91, 0)), (85, (.iload 6, 0, 0)), (87, (.iload_n 2, 0, 0)), (88, (.if_icmp .lt 7, 95, 0)), (91, (.iconst 0, 0, 0)), (92, (.goto 14, 106, 0)), (95, (.iconst 0, 0, 0)), (96, (.bipush 9, 0, 0)), (98, (.iload 7, 0, 0)), (100, (.invokestatic 104, 0, 1002)), (103, (.invokestatic 110, 0, 1001)), (106, (.iastore, 0, 0)), (107, (.iload 5, 0, 0)), (109, (.iload 4, 0, 0)), (111, (.iadd, 0, 0)), (112, (.istore 5, 0, 0)), (114, (.iinc 6 1, 0, 0)), (117, (.goto (-77), 40, 0)), (120, (.iload_n 1, 0, 0)), (121, (.iconst 3, 0, 0)), (122, (.if_icmp .ne 8, 130, 0)), (125, (.bipush (-3), 0, 0)), (127, (.goto 7, 134, 0)), (130, (.aload_n 0, 0, 0)), (131, (.invokevirtual 236, 211, 0)), (134, (.ireturn, 0, 0))]
/-- TypeAtNightModel.lay([I[II)V -/
def k_213 : List (Nat × tm_N) := [(0, (.iconst 0, 0, 0)), (1, (.istore_n 3, 0, 0)), (2, (.iload_n 3, 0, 0)), (3, (.bipush 38, 0, 0)), (5, (.if_icmp .ge 17, 22, 0)), (8, (.aload_n 1, 0, 0)), (9, (.iload_n 2, 0, 0)), (10, (.iload_n 3, 0, 0)), (11, (.iadd, 0, 0)), (12, (.aload_n 0, 0, 0)), (13, (.iload_n 3, 0, 0)), (14, (.iaload, 0, 0)), (15, (.iastore, 0, 0)), (16, (.iinc 3 1, 0, 0)), (19, (.goto (-17), 2, 0)), (22, (.return_, 0, 0))]
/-- TypeAtNightModel.remember([I)V -/
def k_214 : List (Nat × tm_N) := [(0, (.aload_n 0, 0, 0)), (1, (.getfield 174, 12, 20)), (4, (.bipush 12, 0, 0)), (6, (.if_icmp .ne 43, 49, 0)), (9, (.iconst 0, 0, 0)), (10, (.istore_n 2, 0, 0)), (11, (.iload_n 2, 0, 0)), (12, (.sipush 418, 0, 0)), (15, (.if_icmp .ge 24, 39, 0)), (18, (.aload_n 0, 0, 0)), (19, (.getfield 36, 12, 19)), (22, (.iload_n 2, 0, 0)), (23, (.aload_n 0, 0, 0)), (24, (.getfield 36, 12, 19)), (27, (.iload_n 2, 0, 0)), (28, (.bipush 38, 0, 0)), (30, (.iadd, 0, 0)), (31, (.iaload, 0, 0)), (32, (.iastore, 0, 0)), (33, (.iinc 2 1, 0, 0)), (36, (.goto (-25), 11, 0)), (39, (.aload_n 0, 0, 0)), (40, (.dup, 0, 0)), (41, (.getfield 174, 12, 20)), (44, (.iconst 1, 0, 0)), (45, (.isub, 0, 0)), (46, (.putfield 174, 12, 20)), (49, (.aload_n 1, 0, 0)), (50, (.aload_n 0, 0, 0)), (51, (.getfield 36, 12, 19)), (54, (.bipush 38, 0, 0)), (56, (.aload_n 0, 0, 0)), (57, (.getfield 174, 12, 20)), (60, (.imul, 0, 0)), (61, (.invokestatic 239, 213, 3)), (64, (.aload_n 0, 0, 0)), (65, (.dup, 0, 0)), (66, (.getfield 174, 12, 20)), (69, (.iconst 1, 0, 0)), (70, (.iadd, 0, 0)), (71, (.putfield 174, 12, 20)), (74, (.return_, 0, 0))]
/-- TypeAtNightModel.layNeed()V -/
def k_215 : List (Nat × tm_N) := [(0, (.iconst 0, 0, 0)), (1, (.istore_n 1, 0, 0)), (2, (.iload_n 1, 0, 0)), (3, (.bipush 8, 0, 0)), (5, (.if_icmp .ge 16, 21, 0)), (8, (.aload_n 0, 0, 0)), (9, (.getfield 48, 12, 25)), (12, (.iload_n 1, 0, 0)), (13, (.iconst 0, 0, 0)), (14, (.iastore, 0, 0)), (15, (.iinc 1 1, 0, 0)), (18, (.goto (-16), 2, 0)), (21, (.iconst 0, 0, 0)), (22, (.istore_n 1, 0, 0)), (23, (.iload_n 1, 0, 0)), (24, (.aload_n 0, 0, 0)), (25, (.getfield 243, 12, 24)), (28, (.if_icmp .ge 24, 52, 0)), (31, (.aload_n 0, 0, 0)), (32, (.getfield 48, 12, 25)), (35, (.aload_n 0, 0, 0)), (36, (.getfield 45, 12, 23)), (39, (.iload_n 1, 0, 0)), (40, (.iaload, 0, 0)), (41, (.dup2, 0, 0)), (42, (.iaload, 0, 0)), (43, (.iconst 1, 0, 0)), (44, (.iadd, 0, 0)), (45, (.iastore, 0, 0)), (46, (.iinc 1 1, 0, 0)), (49, (.goto (-26), 23, 0)), (52, (.return_, 0, 0))]
/-- TypeAtNightModel.readLine()Z -/
def k_216 : List (Nat × tm_N) := [(0, (.aload_n 0, 0, 0)), (1, (.bipush 12, 0, 0)), (3, (.invokevirtual 165, 188, 1)), (6, (.aload_n 0, 0, 0)), (7, (.iconst 0, 0, 0)), (8, (.putfield 243, 12, 24)), (11, (.aload_n 0, 0, 0)), (12, (.invokevirtual 145, 190, 0)), (15, (.ifCond .eq 48, 63, 0)), (18, (.aload_n 0, 0, 0)), (19, (.getfield 243, 12, 24)), (22, (.ifCond .eq 11, 33, 0)), (25, (.aload_n 0, 0, 0)), (26, (.invokevirtual 149, 189, 0)), (29, (.iconst (-1), 0, 0)), (30, (.if_icmp .eq 33, 63, 0)), (33, (.aload_n 0, 0, 0)), (34, (.getfield 45, 12, 23)), (37, (.aload_n 0, 0, 0)), (38, (.getfield 243, 12, 24)), (41, (.aload_n 0, 0, 0)), (42, (.bipush 97, 0, 0)), (44, (.bipush 8, 0, 0)), (46, (.invokevirtual 161, 194, 2)), (49, (.iastore, 0, 0)), (50, (.aload_n 0, 0, 0)), (51, (.dup, 0, 0)), (52, (.getfield 243, 12, 24)), (55, (.iconst 1, 0, 0)), (56, (.iadd, 0, 0)), (57, (.putfield 243, 12, 24)), (60, (.goto (-49), 11, 0)), (63, (.aload_n 0, 0, 0)), (64, (.invokevirtual 171, 196, 0)), (67, (.istore_n 1, 0, 0)), (68, (.iload_n 1, 0, 0)), (69, (.ifCond .eq 7, 76, 0)), (72, (.aload_n 0, 0, 0)), (73, (.invokevirtual 246, 215, 0)), (76, (.iload_n 1, 0, 0)), (77, (.ireturn, 1, 0))]
/-- TypeAtNightModel.takes([II)I -/
def k_217 : List (Nat × tm_N) := [(0, (.iconst (-1), 0, 0)), (1, (.istore_n 3, 0, 0)), (2, (.iconst 0, 0, 0)), (3, (.istore 4, 0, 0)), (5, (.iload 4, 0, 0)), (7, (.aload_n 0, 0, 0)), (8, (.getfield 116, 12, 1)), (11, (.if_icmp .ge 50, 61, 0)), (14, (.aload_n 0, 0, 0)), (15, (.getfield 13, 12, 2)), (18, (.iload 4, 0, 0)), (20, (.iaload, 0, 0)), (21, (.iload_n 2, 0, 0)), (22, (.if_icmp .ne 33, 55, 0)), (25, (.aload_n 1, 0, 0)), (26, (.bipush 36, 0, 0)), (28, (.iaload, 0, 0)), (29, (.iload 4, 0, 0)), (31, (.invokestatic 226, 179, 2)), (34, (.ifCond .ne 21, 55, 0)), (37, (.iload_n 3, 0, 0)), (38, (.iconst (-1), 0, 0)), (39, (.if_icmp .eq 13, 52, 0)), (42, (.aload_n 1, 0, 0)), (43, (.iload 4, 0, 0)), (45, (.iaload, 0, 0)), (46, (.aload_n 1, 0, 0)), (47, (.iload_n 3, 0, 0)), (48, (.iaload, 0, 0)), (49, (.if_icmp .ge 6, 55, 0)), (52, (.iload 4, 0, 0)), (54, (.istore_n 3, 0, 0)), (55, (.iinc 4 1, 0, 0)), (58, (.goto (-53), 5, 0)), (61, (.iload_n 3, 0, 0)), (62, (.ireturn, 0, 0))]
/-- TypeAtNightModel.goSet([II)I -/
def k_218 : List (Nat × tm_N) := [(0, (.iconst 0, 0, 0)), (1, (.istore_n 3, 0, 0)), (2, (.iconst 0, 0, 0)), (3, (.istore 4, 0, 0)), (5, (.iload 4, 0, 0)), (7, (.aload_n 0, 0, 0)), (8, (.getfield 243, 12, 24)), (11, (.if_icmp .ge 83, 94, 0)), (14, (.aload_n 0, 0, 0)), (15, (.aload_n 1, 0, 0)), (16, (.aload_n 0, 0, 0)), (17, (.getfield 45, 12, 23)), (20, (.iload 4, 0, 0)), (22, (.iaload, 0, 0)), (23, (.invokevirtual 249, 217, 2)), (26, (.istore 5, 0, 0)), (28, (.iload 5, 0, 0)), (30, (.iconst (-1), 0, 0)), (31, (.if_icmp .ne 5, 36, 0)), (34, (.iconst (-1), 0, 0)), (35, (.ireturn, 0, 0)), (36, (.iload_n 3, 0, 0)), (37, (.iconst 1, 0, 0)), (38, (.iload 5, 0, 0)), (40, (.ishl, 0, 0)), (41, (.ior, 0, 0)), (42, (.istore_n 3, 0, 0)), (43, (.aload_n 1, 0, 0)), (44, (.bipush 36, 0, 0)), (46, (.dup2, 0, 0)), (47, (.iaload, 0, 0)), (48, (.iconst 1, 0, 0)), (49, (.iload 5, 0, 0)), (51, (.ishl, 0, 0)), (52, (.ior, 0, 0)), (53, (.iastore, 0, 0)), (54, (.aload_n 1, 0, 0)), (55, (.iload 5, 0, 0)), (57, (.bipush 9, 0, 0)), (59, (.aload_n 1, 0, 0)), (60, (.iload 5, 0, 0)), (62, (.iaload, 0, 0)), (63, (.iconst 1, 0, 0)), (64, (.iadd, 0, 0)), (65, (.invokestatic 104, 0, 1002)), (68, (.iastore, 0, 0)), (69, (.aload_n 1, 0, 0)), (70, (.bipush 12, 0, 0)), (72, (.iload 5, 0, 0)), (74, (.iadd, 0, 0)), (75, (.aload_n 1, 0, 0)), (76, (.bipush 12, 0, 0)), (78, (.iload 5, 0, 0)), (80, (.iadd, 0, 0)), (81, (.iaload, 0, 0)), (82, (.iload_n 2, 0, 0)), (83, (.iadd, 0, 0)), (84, (.invokestatic 212, 180, 1)), (87, (.iastore, 0, 0)), (88, (.iinc 4 1, 0, 0)), (91, (.goto (-86), 5, 0)), (94, (.iload_n 3, 0, 0)), (95, (.ireturn, 0, 0))]
/-- TypeAtNightModel.wouldTake()I -/
def k_219 : List (Nat × tm_N) := [(0, (.aload_n 0, 0, 0)), (1, (.getfield 9, 12, 0)), (4, (.aload_n 0, 0, 0)), (5, (.getfield 42, 12, 22)), (8, (.iconst 0, 0, 0)), (9, (.invokestatic 239, 213, 3)), (12, (.aload_n 0, 0, 0)), (13, (.aload_n 0, 0, 0)), (14, (.getfield 42, 12, 22)), (17, (.iconst 0, 0, 0)), (18, (.invokevirtual 252, 218, 2)), (21, (.ireturn, 0, 0))]
/-- TypeAtNightModel.sets(I)I -/
def k_220 : List (Nat × tm_N) := [(0, (.aload_n 0, 0, 0)), (1, (.iconst 0, 0, 0)), (2, (.putfield 100, 12, 7)), (5, (.aload_n 0, 0, 0)), (6, (.invokevirtual 255, 216, 0)), (9, (.ifCond .ne 10, 19, 0)), (12, (.iconst (-1), 0, 0)), (13, (.aload_n 0, 0, 0)), (14, (.getfield 138, 12, 12)), (17, (.isub, 0, 0)), (18, (.ireturn, 0, 0)), (19, (.iload_n 1, 0, 0)), (20, (.bipush (-9), 0, 0)), (22, (.bipush 9, 0, 0)), (24, (.invokestatic 119, 178, 3)), (27, (.ifCond .ne 6, 33, 0)), (30, (.bipush (-100), 0, 0)), (32, (.ireturn, 0, 0)), (33, (.aload_n 0, 0, 0)), (34, (.invokevirtual 258, 219, 0)), (37, (.istore_n 2, 0, 0)), (38, (.iload_n 2, 0, 0)), (39, (.iconst (-1), 0, 0)), (40, (.if_icmp .ne 6, 46, 0)), (43, (.bipush (-101), 0, 0)), (45, (.ireturn, 0, 0)), (46, (.aload_n 0, 0, 0)), (47, (.aload_n 0, 0, 0)), (48, (.getfield 9, 12, 0)), (51, (.invokevirtual 261, 214, 1)), (54, (.aload_n 0, 0, 0)), (55, (.iconst 0, 0, 0)), (56, (.putfield 113, 12, 6)), (59, (.aload_n 0, 0, 0)), (60, (.sipush 200, 0, 0)), (63, (.aload_n 0, 0, 0)), (64, (.aload_n 0, 0, 0)), (65, (.getfield 9, 12, 0)), (68, (.iload_n 2, 0, 0)), (69, (.invokevirtual 233, 209, 2)), (72, (.iadd, 0, 0)), (73, (.i2l, 0, 0)), (74, (.invokevirtual 265, 182, 1)), (77, (.aload_n 0, 0, 0)), (78, (.aload_n 0, 0, 0)), (79, (.getfield 9, 12, 0)), (82, (.iload_n 1, 0, 0)), (83, (.invokevirtual 252, 218, 2)), (86, (.pop, 0, 0)), (87, (.aload_n 0, 0, 0)), (88, (.sipush 200, 0, 0)), (91, (.aload_n 0, 0, 0)), (92, (.aload_n 0, 0, 0)), (93, (.getfield 9, 12, 0)), (96, (.iload_n 2, 0, 0)), (97, (.invokevirtual 233, 209, 2)), (100, (.iadd, 0, 0)), (101, (.i2l, 0, 0)), (102, (.invokevirtual 265, 182, 1)), (105, (.iload_n 2, 0, 0)), (106, (.ireturn, 0, 0))]
/-- TypeAtNightModel.goNight([I)V -/
def k_221 : List (Nat × tm_N) := [(0, (.iconst 0, 0, 0)), (1, (.istore_n 2, 0, 0)), (2, (.iload_n 2, 0, 0)), (3, (.aload_n 0, 0, 0)), (4, (.getfield 116, 12, 1)), (7, (.if_icmp .ge 57, 64, 0)), (10, (.aload_n 1, 0, 0)), (11, (.bipush 36, 0, 0)), (13, (.iaload, 0, 0)), (14, (.iload_n 2, 0, 0)), (15, (.invokestatic 226, 179, 2)), (18, (.ifCond .ne 6, 24, 0)), (21, (.goto 37, 58, 0)), (24, (.aload_n 1, 0, 0)), (25, (.bipush 24, 0, 0)), (27, (.iload_n 2, 0, 0)), (28, (.iadd, 0, 0)), (29, (.aload_n 1, 0, 0)), (30, (.iload_n 2, 0, 0)), (31, (.iaload, 0, 0)), (32, (.bipush 9, 0, 0)), (34, (.if_icmp .ne 17, 51, 0)), (37, (.aload_n 0, 0, 0)), (38, (.getfield 13, 12, 2)), (41, (.iload_n 2, 0, 0)), (42, (.iaload, 0, 0)), (43, (.iconst 1, 0, 0)), (44, (.iadd, 0, 0)), (45, (.bipush 8, 0, 0)), (47, (.irem, 0, 0)), (48, (.goto 9, 57, 0)), (51, (.aload_n 0, 0, 0)), (52, (.getfield 13, 12, 2)), (55, (.iload_n 2, 0, 0)), (56, (.iaload, 0, 0)), (57, (.iastore, 0, 0)), (58, (.iinc 2 1, 0, 0)), (61, (.goto (-59), 2, 0)), (64, (.aload_n 1, 0, 0)), (65, (.bipush 36, 0, 0)), (67, (.iconst 0, 0, 0)), (68, (.iastore, 0, 0)), (69, (.iconst 0, 0, 0)), (70, (.istore_n 2, 0, 0)), (71, (.iload_n 2, 0, 0)), (72, (.aload_n 0, 0, 0)), (73, (.getfield 116, 12, 1)), (76, (.if_icmp .ge 21, 97, 0)), (79, (.aload_n 0, 0, 0)), (80, (.getfield 24, 12, 13)), (83, (.iload_n 2, 0, 0)), (84, (.aload_n 0, 0, 0)), (85, (.aload_n 1, 0, 0)), (86, (.iload_n 2, 0, 0)), (87, (.invokevirtual 222, 206, 2)), (90, (.iastore, 0, 0)), (91, (.iinc 2 1, 0, 0)), (94, (.goto (-23), 71, 0)), (97, (.iconst 0, 0, 0)), (98, (.istore_n 2, 0, 0)), (99, (.iload_n 2, 0, 0)), (100, (.aload_n 0, 0, 0)), (101, (.getfield 116, 12, 1)), (104, (.if_icmp .ge 31, 135, 0)), (107, (.aload_n 1, 0, 0)), (108, (.bipush 12, 0, 0)), (110, (.iload_n 2, 0, 0)), (111, (.iadd, 0, 0)), (112, (.aload_n 1, 0, 0)), (113, (.bipush 12, 0, 0)), (115, (.iload_n 2, 0, 0)), (116, (.iadd, 0, 0)), (117, (.iaload, 0, 0)), (118, (.aload_n 0, 0, 0)), (119, (.getfield 24, 12, 13)), (122, (.iload_n 2, 0, 0)), (123, (.iaload, 0, 0)), (124, (.iadd, 0, 0)), (125, (.invokestatic 212, 180, 1)), (128, (.iastore, 0, 0)), (129, (.iinc 2 1, 0, 0)), (132, (.goto (-33), 99, 0)), (135, (.aload_n 1, 0, 0)), (136, (.bipush 37, 0, 0)), (138, (.dup2, 0, 0)), (139, (.iaload, 0, 0)), (140, (.iconst 1, 0, 0)), (141, (.iadd, 0, 0)), (142, (.iastore, 0, 0)), (143, (.return_, 0, 0))]
/-- TypeAtNightModel.goNights([II)V -/
def k_222 : List (Nat × tm_N) := [(0, (.iconst 0, 0, 0)), (1, (.istore_n 3, 0, 0)), (2, (.iload_n 3, 0, 0)), (3, (.iload_n 2, 0, 0)), (4, (.if_icmp .ge 14, 18, 0)), (7, (.aload_n 0, 0, 0)), (8, (.aload_n 1, 0, 0)), (9, (.invokevirtual 269, 221, 1)), (12, (.iinc 3 1, 0, 0)), (15, (.goto (-13), 2, 0)), (18, (.return_, 0, 0))]
/-- TypeAtNightModel.atHome([I)I -/
def k_223 : List (Nat × tm_N) := [(0, (.iconst 0, 0, 0)), (1, (.istore_n 2, 0, 0)), (2, (.iconst 0, 0, 0)), (3, (.istore_n 3, 0, 0)), (4, (.iload_n 3, 0, 0)), (5, (.aload_n 0, 0, 0)), (6, (.getfield 116, 12, 1)), (9, (.if_icmp .ge 32, 41, 0)), (12, (.iload_n 2, 0, 0)), (13, (.aload_n 1, 0, 0)), (14, (.bipush 24, 0, 0)), (16, (.iload_n 3, 0, 0)), (17, (.iadd, 0, 0)), (18, (.iaload, 0, 0)), (19, (.aload_n 0, 0, 0)), (20, (.getfield 13, 12, 2)), (23, (.iload_n 3, 0, 0)), (24, (.iaload, 0, 0)), (25, (.if_icmp .ne 7, 32, 0)), (28, (.iconst 1, 0, 0)), (29, (.goto 4, 33, 0)), (32, (.iconst 0, 0, 0)), (33, (.iadd, 0, 0)), (34, (.istore_n 2, 0, 0)), (35, (.iinc 3 1, 0, 0)), (38, (.goto (-34), 4, 0)), (41, (.iload_n 2, 0, 0)), (42, (.ireturn, 0, 0))]
/-- TypeAtNightModel.nights(I)I -/
def k_224 : List (Nat × tm_N) := [(0, (.aload_n 0, 0, 0)), (1, (.iconst 0, 0, 0)), (2, (.putfield 100, 12, 7)), (5, (.iload_n 1, 0, 0)), (6, (.iconst 0, 0, 0)), (7, (.bipush 60, 0, 0)), (9, (.invokestatic 119, 178, 3)), (12, (.ifCond .ne 5, 17, 0)), (15, (.iconst (-1), 0, 0)), (16, (.ireturn, 0, 0)), (17, (.iload_n 1, 0, 0)), (18, (.ifCond .le 11, 29, 0)), (21, (.aload_n 0, 0, 0)), (22, (.aload_n 0, 0, 0)), (23, (.getfield 9, 12, 0)), (26, (.invokevirtual 261, 214, 1)), (29, (.aload_n 0, 0, 0)), (30, (.aload_n 0, 0, 0)), (31, (.getfield 9, 12, 0)), (34, (.iload_n 1, 0, 0)), (35, (.invokevirtual 272, 222, 2)), (38, (.aload_n 0, 0, 0)), (39, (.iconst 0, 0, 0)), (40, (.putfield 113, 12, 6)), (43, (.aload_n 0, 0, 0)), (44, (.sipush 200, 0, 0)), (47, (.aload_n 0, 0, 0)), (48, (.aload_n 0, 0, 0)), (49, (.getfield 9, 12, 0)), (52, (.aload_n 0, 0, 0)), (53, (.invokevirtual 276, 184, 0)), (56, (.invokevirtual 233, 209, 2)), (59, (.iadd, 0, 0)), (60, (.i2l, 0, 0)), (61, (.invokevirtual 265, 182, 1)), (64, (.aload_n 0, 0, 0)), (65, (.aload_n 0, 0, 0)), (66, (.getfield 9, 12, 0)), (69, (.invokevirtual 279, 223, 1)), (72, (.ireturn, 0, 0))]
/-- TypeAtNightModel.refusesMove([III)I -/
def k_225 : List (Nat × tm_N) := [(0, (.aload_n 0, 0, 0)), (1, (.iload_n 2, 0, 0)), (2, (.invokevirtual 215, 183, 1)), (5, (.ifCond .eq 13, 18, 0)), (8, (.iload_n 3, 0, 0)), (9, (.iconst 0, 0, 0)), (10, (.bipush 7, 0, 0)), (12, (.invokestatic 119, 178, 3)), (15, (.ifCond .ne 5, 20, 0)), (18, (.iconst (-1), 0, 0)), (19, (.ireturn, 0, 0)), (20, (.aload_n 1, 0, 0)), (21, (.bipush 36, 0, 0)), (23, (.iaload, 0, 0)), (24, (.iload_n 2, 0, 0)), (25, (.invokestatic 226, 179, 2)), (28, (.ifCond .eq 6, 34, 0)), (31, (.bipush (-2), 0, 0)), (33, (.ireturn, 0, 0)), (34, (.aload_n 1, 0, 0)), (35, (.bipush 24, 0, 0)), (37, (.iload_n 2, 0, 0)), (38, (.iadd, 0, 0)), (39, (.iaload, 0, 0)), (40, (.iload_n 3, 0, 0)), (41, (.if_icmp .ne 8, 49, 0)), (44, (.bipush (-3), 0, 0)), (46, (.goto 4, 50, 0)), (49, (.iconst 0, 0, 0)), (50, (.ireturn, 0, 0))]
/-- TypeAtNightModel.moves(II)I -/
def k_226 : List (Nat × tm_N) := [(0, (.aload_n 0, 0, 0)), (1, (.iconst 0, 0, 0)), (2, (.putfield 100, 12, 7)), (5, (.aload_n 0, 0, 0)), (6, (.aload_n 0, 0, 0)), (7, (.getfield 9, 12, 0)), (10, (.iload_n 1, 0, 0)), (11, (.iload_n 2, 0, 0)), (12, (.invokevirtual 283, 225, 3)), (15, (.istore_n 3, 0, 0)), (16, (.iload_n 3, 0, 0)), (17, (.ifCond .ge 5, 22, 0)), (20, (.iload_n 3, 0, 0)), (21, (.ireturn, 0, 0)), (22, (.aload_n 0, 0, 0)), (23, (.aload_n 0, 0, 0)), (24, (.getfield 9, 12, 0)), (27, (.invokevirtual 261, 214, 1)), (30, (.aload_n 0, 0, 0)), (31, (.getfield 9, 12, 0)), (34, (.bipush 24, 0, 0)), (36, (.iload_n 1, 0, 0)), (37, (.iadd, 0, 0)), (38, (.iaload, 0, 0)), (39, (.istore 4, 0, 0)), (41, (.aload_n 0, 0, 0)), (42, (.getfield 9, 12, 0)), (45, (.bipush 24, 0, 0)), (47, (.iload_n 1, 0, 0)), (48, (.iadd, 0, 0)), (49, (.iload_n 2, 0, 0)), (50, (.iastore, 0, 0)), (51, (.bipush 10, 0, 0)), (53, (.iload 4, 0, 0)), (55, (.iadd, 0, 0)), (56, (.ireturn, 0, 0))]
/-- TypeAtNightModel.refusesClean(I)I -/
def k_227 : List (Nat × tm_N) := [(0, (.aload_n 0, 0, 0)), (1, (.iload_n 1, 0, 0)), (2, (.invokevirtual 215, 183, 1)), (5, (.ifCond .ne 5, 10, 0)), (8, (.iconst (-1), 0, 0)), (9, (.ireturn, 0, 0)), (10, (.aload_n 0, 0, 0)), (11, (.getfield 9, 12, 0)), (14, (.bipush 12, 0, 0)), (16, (.iload_n 1, 0, 0)), (17, (.iadd, 0, 0)), (18, (.iaload, 0, 0)), (19, (.ifCond .ne 8, 27, 0)), (22, (.bipush (-2), 0, 0)), (24, (.goto 4, 28, 0)), (27, (.iconst 0, 0, 0)), (28, (.ireturn, 0, 0))]
/-- TypeAtNightModel.cleans(I)I -/
def k_228 : List (Nat × tm_N) := [(0, (.aload_n 0, 0, 0)), (1, (.iconst 0, 0, 0)), (2, (.putfield 100, 12, 7)), (5, (.aload_n 0, 0, 0)), (6, (.iload_n 1, 0, 0)), (7, (.invokevirtual 287, 227, 1)), (10, (.istore_n 2, 0, 0)), (11, (.iload_n 2, 0, 0)), (12, (.ifCond .ge 5, 17, 0)), (15, (.iload_n 2, 0, 0)), (16, (.ireturn, 0, 0)), (17, (.aload_n 0, 0, 0)), (18, (.aload_n 0, 0, 0)), (19, (.getfield 9, 12, 0)), (22, (.invokevirtual 261, 214, 1)), (25, (.aload_n 0, 0, 0)), (26, (.getfield 9, 12, 0)), (29, (.bipush 12, 0, 0)), (31, (.iload_n 1, 0, 0)), (32, (.iadd, 0, 0)), (33, (.iaload, 0, 0)), (34, (.istore_n 3, 0, 0)), (35, (.aload_n 0, 0, 0)), (36, (.getfield 9, 12, 0)), (39, (.bipush 12, 0, 0)), (41, (.iload_n 1, 0, 0)), (42, (.iadd, 0, 0)), (43, (.iconst 0, 0, 0)), (44, (.iastore, 0, 0)), (45, (.bipush 10, 0, 0)), (47, (.iload_n 3, 0, 0)), (48, (.iadd, 0, 0)), (49, (.ireturn, 0, 0))]
/-- TypeAtNightModel.refusesCast(I)I -/
def k_229 : List (Nat × tm_N) := [(0, (.aload_n 0, 0, 0)), (1, (.iload_n 1, 0, 0)), (2, (.invokevirtual 215, 183, 1)), (5, (.ifCond .ne 5, 10, 0)), (8, (.iconst (-1), 0, 0)), (9, (.ireturn, 0, 0)), (10, (.aload_n 0, 0, 0)), (11, (.getfield 9, 12, 0)), (14, (.iload_n 1, 0, 0)), (15, (.iaload, 0, 0)), (16, (.ifCond .ne 8, 24, 0)), (19, (.bipush (-2), 0, 0)), (21, (.goto 4, 25, 0)), (24, (.iconst 0, 0, 0)), (25, (.ireturn, 0, 0))]
/-- TypeAtNightModel.casts(I)I -/
def k_230 : List (Nat × tm_N) := [(0, (.aload_n 0, 0, 0)), (1, (.iconst 0, 0, 0)), (2, (.putfield 100, 12, 7)), (5, (.aload_n 0, 0, 0)), (6, (.iload_n 1, 0, 0)), (7, (.invokevirtual 290, 229, 1)), (10, (.istore_n 2, 0, 0)), (11, (.iload_n 2, 0, 0)), (12, (.ifCond .ge 5, 17, 0)), (15, (.iload_n 2, 0, 0)), (16, (.ireturn, 0, 0)), (17, (.aload_n 0, 0, 0)), (18, (.aload_n 0, 0, 0)), (19, (.getfield 9, 12, 0)), (22, (.invokevirtual 261, 214, 1)), (25, (.aload_n 0, 0, 0)), (26, (.getfield 9, 12, 0)), (29, (.iload_n 1, 0, 0)), (30, (.iaload, 0, 0)), (31, (.istore_n 3, 0, 0)), (32, (.aload_n 0, 0, 0)), (33, (.getfield 9, 12, 0)), (36, (.iload_n 1, 0, 0)), (37, (.iconst 0, 0, 0)), (38, (.iastore, 0, 0)), (39, (.iload_n 3, 0, 0)), (40, (.ireturn, 0, 0))]
/-- TypeAtNightModel.week()I -/
def k_231 : List (Nat × tm_N) := [(0, (.aload_n 0, 0, 0)), (1, (.iconst 0, 0, 0)), (2, (.putfield 100, 12, 7)), (5, (.aload_n 0, 0, 0)), (6, (.bipush 60, 0, 0)), (8, (.invokevirtual 165, 188, 1)), (11, (.iconst 0, 0, 0)), (12, (.istore_n 1, 0, 0)), (13, (.aload_n 0, 0, 0)), (14, (.iconst 0, 0, 0)), (15, (.putfield 293, 12, 28)), (18, (.aload_n 0, 0, 0)), (19, (.invokevirtual 145, 190, 0)), (22, (.ifCond .eq 27, 49, 0)), (25, (.aload_n 0, 0, 0)), (26, (.getfield 135, 12, 11)), (29, (.aload_n 0, 0, 0)), (30, (.getfield 129, 12, 9)), (33, (.if_icmp .ge 16, 49, 0)), (36, (.aload_n 0, 0, 0)), (37, (.iconst 4, 0, 0)), (38, (.iload_n 1, 0, 0)), (39, (.imul, 0, 0)), (40, (.invokevirtual 296, 232, 1)), (43, (.iinc 1 1, 0, 0)), (46, (.goto (-28), 18, 0)), (49, (.aload_n 0, 0, 0)), (50, (.invokevirtual 171, 196, 0)), (53, (.ifCond .ne 10, 63, 0)), (56, (.iconst (-1), 0, 0)), (57, (.aload_n 0, 0, 0)), (58, (.getfield 138, 12, 12)), (61, (.isub, 0, 0)), (62, (.ireturn, 0, 0)), (63, (.aload_n 0, 0, 0)), (64, (.getfield 9, 12, 0)), (67, (.aload_n 0, 0, 0)), (68, (.getfield 39, 12, 21)), (71, (.iconst 0, 0, 0)), (72, (.invokestatic 239, 213, 3)), (75, (.iconst 0, 0, 0)), (76, (.istore_n 2, 0, 0)), (77, (.iload_n 2, 0, 0)), (78, (.iload_n 1, 0, 0)), (79, (.if_icmp .ge 19, 98, 0)), (82, (.aload_n 0, 0, 0)), (83, (.iconst 4, 0, 0)), (84, (.iload_n 2, 0, 0)), (85, (.imul, 0, 0)), (86, (.invokevirtual 299, 233, 1)), (89, (.ifCond .eq 9, 98, 0)), (92, (.iinc 2 1, 0, 0)), (95, (.goto (-18), 77, 0)), (98, (.iload_n 2, 0, 0)), (99, (.ifCond .le 11, 110, 0)), (102, (.aload_n 0, 0, 0)), (103, (.aload_n 0, 0, 0)), (104, (.getfield 39, 12, 21)), (107, (.invokevirtual 261, 214, 1)), (110, (.aload_n 0, 0, 0)), (111, (.iconst 0, 0, 0)), (112, (.putfield 113, 12, 6)), (115, (.aload_n 0, 0, 0)), (116, (.iload_n 2, 0, 0)), (117, (.iload_n 1, 0, 0)), (118, (.if_icmp .ge 7, 125, 0)), (121, (.lconst 1, 0, 0)), (122, (.goto 4, 126, 0)), (125, (.lconst 0, 0, 0)), (126, (.invokevirtual 265, 182, 1)), (129, (.aload_n 0, 0, 0)), (130, (.aload_n 0, 0, 0)), (131, (.getfield 9, 12, 0)), (134, (.bipush 36, 0, 0)), (136, (.iaload, 0, 0)), (137, (.invokestatic 302, 289, 1)), (140, (.i2l, 0, 0)), (141, (.invokevirtual 265, 182, 1)), (144, (.iload_n 2, 0, 0)), (145, (.ireturn, 0, 0))]
/-- TypeAtNightModel.readAct(I)V -/
def k_232 : List (Nat × tm_N) := [(0, (.aload_n 0, 0, 0)), (1, (.invokevirtual 149, 189, 0)), (4, (.istore_n 2, 0, 0)), (5, (.iload_n 2, 0, 0)), (6, (.bipush 78, 0, 0)), (8, (.if_icmp .eq 36, 44, 0)), (11, (.iload_n 2, 0, 0)), (12, (.bipush 83, 0, 0)), (14, (.if_icmp .eq 30, 44, 0)), (17, (.iload_n 2, 0, 0)), (18, (.bipush 77, 0, 0)), (20, (.if_icmp .eq 24, 44, 0)), (23, (.iload_n 2, 0, 0)), (24, (.bipush 67, 0, 0)), (26, (.if_icmp .eq 18, 44, 0)), (29, (.iload_n 2, 0, 0)), (30, (.bipush 70, 0, 0)), (32, (.if_icmp .eq 12, 44, 0)), (35, (.aload_n 0, 0, 0)), (36, (.aload_n 0, 0, 0)), (37, (.getfield 135, 12, 11)), (40, (.invokevirtual 157, 191, 1)), (43, (.return_, 0, 0)), (44, (.aload_n 0, 0, 0)), (45, (.dup, 0, 0)), (46, (.getfield 135, 12, 11)), (49, (.iconst 1, 0, 0)), (50, (.iadd, 0, 0)), (51, (.putfield 135, 12, 11)), (54, (.aload_n 0, 0, 0)), (55, (.getfield 51, 12, 26)), (58, (.iload_n 1, 0, 0)), (59, (.iload_n 2, 0, 0)), (60, (.iastore, 0, 0)), (61, (.iload_n 2, 0, 0)), (62, (.bipush 78, 0, 0)), (64, (.if_icmp .ne 19, 83, 0)), (67, (.aload_n 0, 0, 0)), (68, (.getfield 51, 12, 26)), (71, (.iload_n 1, 0, 0)), (72, (.iconst 1, 0, 0)), (73, (.iadd, 0, 0)), (74, (.aload_n 0, 0, 0)), (75, (.bipush 48, 0, 0)), (77, (.bipush 10, 0, 0)), (79, (.invokevirtual 161, 194, 2)), (82, (.iastore, 0, 0)), (83, (.iload_n 2, 0, 0)), (84, (.bipush 83, 0, 0)), (86, (.if_icmp .ne 123, 209, 0)), (89, (.aload_n 0, 0, 0)), (90, (.getfield 51, 12, 26)), (93, (.iload_n 1, 0, 0)), (94, (.iconst 1, 0, 0)), (95, (.iadd, 0, 0)), (96, (.aload_n 0, 0, 0)), (97, (.invokevirtual 168, 197, 0)), (100, (.iastore, 0, 0)), (101, (.aload_n 0, 0, 0)), (102, (.getfield 51, 12, 26)), (105, (.iload_n 1, 0, 0)), (106, (.iconst 2, 0, 0)), (107, (.iadd, 0, 0)), (108, (.aload_n 0, 0, 0)), (109, (.getfield 293, 12, 28)), (112, (.iastore, 0, 0)), (113, (.aload_n 0, 0, 0)), (114, (.getfield 51, 12, 26)), (117, (.iload_n 1, 0, 0)), (118, (.iconst 3, 0, 0)), (119, (.iadd, 0, 0)), (120, (.iconst 0, 0, 0)), (121, (.iastore, 0, 0)), (122, (.aload_n 0, 0, 0)), (123, (.invokevirtual 145, 190, 0)), (126, (.ifCond .eq 83, 209, 0)), (129, (.aload_n 0, 0, 0)), (130, (.getfield 51, 12, 26)), (133, (.iload_n 1, 0, 0)), (134, (.iconst 3, 0, 0)), (135, (.iadd, 0, 0)), (136, (.iaload, 0, 0)), (137, (.bipush 12, 0, 0)), (139, (.if_icmp .ge 70, 209, 0)), (142, (.aload_n 0, 0, 0)), (143, (.getfield 51, 12, 26)), (146, (.iload_n 1, 0, 0)), (147, (.iconst 3, 0, 0)), (148, (.iadd, 0, 0)), (149, (.iaload, 0, 0)), (150, (.ifCond .eq 17, 167, 0)), (153, (.aload_n 0, 0, 0)), (154, (.invokevirtual 149, 189, 0)), (157, (.bipush 97, 0, 0)), (159, (.bipush 104, 0, 0)), (161, (.invokestatic 119, 178, 3)), (164, (.ifCond .eq 45, 209, 0)), (167, (.aload_n 0, 0, 0)), (168, (.getfield 54, 12, 27)), (171, (.aload_n 0, 0, 0)), (172, (.getfield 293, 12, 28)), (175, (.aload_n 0, 0, 0)), (176, (.bipush 97, 0, 0)), (178, (.bipush 8, 0, 0)), (180, (.invokevirtual 161, 194, 2)), (183, (.iastore, 0, 0)), (184, (.aload_n 0, 0, 0)), (185, (.dup, 0, 0)), (186, (.getfield 293, 12, 28)), (189, (.iconst 1, 0, 0)), (190, (.iadd, 0, 0)), (191, (.putfield 293, 12, 28)), (194, (.aload_n 0, 0, 0)), (195, (.getfield 51, 12, 26)), (198, (.iload_n 1, 0, 0)), (199, (.iconst 3, 0, 0)), (200, (.iadd, 0, 0)), (201, (.dup2, 0, 0)), (202, (.iaload, 0, 0)), (203, (.iconst 1, 0, 0)), (204, (.iadd, 0, 0)), (205, (.iastore, 0, 0)), (206, (.goto (-84), 122, 0)), (209, (.iload_n 2, 0, 0)), (210, (.bipush 77, 0, 0)), (212, (.if_icmp .eq 15, 227, 0)), (215, (.iload_n 2, 0, 0)), (216, (.bipush 67, 0, 0)), (218, (.if_icmp .eq 9, 227, 0)), (221, (.iload_n 2, 0, 0)), (222, (.bipush 70, 0, 0)), (224, (.if_icmp .ne 41, 265, 0)), (227, (.aload_n 0, 0, 0)), (228, (.getfield 51, 12, 26)), (231, (.iload_n 1, 0, 0)), (232, (.iconst 1, 0, 0)), (233, (.iadd, 0, 0)), (234, (.bipush 10, 0, 0)), (236, (.aload_n 0, 0, 0)), (237, (.bipush 48, 0, 0)), (239, (.bipush 10, 0, 0)), (241, (.invokevirtual 161, 194, 2)), (244, (.imul, 0, 0)), (245, (.iastore, 0, 0)), (246, (.aload_n 0, 0, 0)), (247, (.getfield 51, 12, 26)), (250, (.iload_n 1, 0, 0)), (251, (.iconst 1, 0, 0)), (252, (.iadd, 0, 0)), (253, (.dup2, 0, 0)), (254, (.iaload, 0, 0)), (255, (.aload_n 0, 0, 0)), (256, (.bipush 48, 0, 0)), (258, (.bipush 10, 0, 0)), (260, (.invokevirtual 161, 194, 2)), (263, (.iadd, 0, 0)), (264, (.iastore, 0, 0)), (265, (.iload_n 2, 0, 0)), (266, (.bipush 77, 0, 0)), (268, (.if_icmp .ne 19, 287, 0)), (271, (.aload_n 0, 0, 0)), (272, (.getfield 51, 12, 26)), (275, (.iload_n 1, 0, 0)), (276, (.iconst 2, 0, 0)), (277, (.iadd, 0, 0)), (278, (.aload_n 0, 0, 0)), (279, (.bipush 48, 0, 0)), (281, (.bipush 8, 0, 0)), (283, (.invokevirtual 161, 194, 2)), (286, (.iastore, 0, 0)), (287, (.return_, 0, 0))]
/-- TypeAtNightModel.act(I)Z -/
def k_233 : List (Nat × tm_N) := [(0, (.aload_n 0, 0, 0)), (1, (.getfield 51, 12, 26)), (4, (.iload_n 1, 0, 0)), (5, (.iconst 1, 0, 0)), (6, (.iadd, 0, 0)), (7, (.iaload, 0, 0)), (8, (.istore_n 2, 0, 0)), (9, (.aload_n 0, 0, 0)), (10, (.getfield 51, 12, 26)), (13, (.iload_n 1, 0, 0)), (14, (.iconst 2, 0, 0)), (15, (.iadd, 0, 0)), (16, (.iaload, 0, 0)), (17, (.istore_n 3, 0, 0)), (18, (.aload_n 0, 0, 0)), (19, (.getfield 51, 12, 26)), (22, (.iload_n 1, 0, 0)), (23, (.iaload, 0, 0)), (24, (.lookupswitch 172 #[(67, 150), (77, 123), (78, 44), (83, 55)], 0, 0)), (68, (.aload_n 0, 0, 0)), (69, (.aload_n 0, 0, 0)), (70, (.getfield 9, 12, 0)), (73, (.iload_n 2, 0, 0)), (74, (.invokevirtual 272, 222, 2)), (77, (.iconst 1, 0, 0)), (78, (.ireturn, 1, 0)), (79, (.aload_n 0, 0, 0)), (80, (.aload_n 0, 0, 0)), (81, (.getfield 51, 12, 26)), (84, (.iload_n 1, 0, 0)), (85, (.iconst 3, 0, 0)), (86, (.iadd, 0, 0)), (87, (.iaload, 0, 0)), (88, (.putfield 243, 12, 24)), (91, (.iconst 0, 0, 0)), (92, (.istore 4, 0, 0)), (94, (.iload 4, 0, 0)), (96, (.aload_n 0, 0, 0)), (97, (.getfield 243, 12, 24)), (100, (.if_icmp .ge 25, 125, 0)), (103, (.aload_n 0, 0, 0)), (104, (.getfield 45, 12, 23)), (107, (.iload 4, 0, 0)), (109, (.aload_n 0, 0, 0)), (110, (.getfield 54, 12, 27)), (113, (.iload_n 3, 0, 0)), (114, (.iload 4, 0, 0)), (116, (.iadd, 0, 0)), (117, (.iaload, 0, 0)), (118, (.iastore, 0, 0)), (119, (.iinc 4 1, 0, 0)), (122, (.goto (-28), 94, 0)), (125, (.aload_n 0, 0, 0)), (126, (.invokevirtual 258, 219, 0)), (129, (.iconst (-1), 0, 0)), (130, (.if_icmp .ne 5, 135, 0)), (133, (.iconst 0, 0, 0)), (134, (.ireturn, 1, 0)), (135, (.aload_n 0, 0, 0)), (136, (.aload_n 0, 0, 0)), (137, (.getfield 9, 12, 0)), (140, (.iload_n 2, 0, 0)), (141, (.invokevirtual 252, 218, 2)), (144, (.pop, 0, 0)), (145, (.iconst 1, 0, 0)), (146, (.ireturn, 1, 0)), (147, (.aload_n 0, 0, 0)), (148, (.aload_n 0, 0, 0)), (149, (.getfield 9, 12, 0)), (152, (.iload_n 2, 0, 0)), (153, (.iload_n 3, 0, 0)), (154, (.invokevirtual 283, 225, 3)), (157, (.ifCond .ge 5, 162, 0)), (160, (.iconst 0, 0, 0)), (161, (.ireturn, 1, 0)), (162, (.aload_n 0, 0, 0)), (163, (.getfield 9, 12, 0)), (166, (.bipush 24, 0, 0)), (168, (.iload_n 2, 0, 0)), (169, (.iadd, 0, 0)), (170, (.iload_n 3, 0, 0)), (171, (.iastore, 0, 0)), (172, (.iconst 1, 0, 0)), (173, (.ireturn, 1, 0)), (174, (.aload_n 0, 0, 0)), (175, (.iload_n 2, 0, 0)), (176, (.invokevirtual 287, 227, 1)), (179, (.ifCond .ge 5, 184, 0)), (182, (.iconst 0, 0, 0)), (183, (.ireturn, 1, 0)), (184, (.aload_n 0, 0, 0)), (185, (.getfield 9, 12, 0)), (188, (.bipush 12, 0, 0)), (190, (.iload_n 2, 0, 0)), (191, (.iadd, 0, 0)), (192, (.iconst 0, 0, 0)), (193, (.iastore, 0, 0)), (194, (.iconst 1, 0, 0)), (195, (.ireturn, 1, 0)), (196, (.aload_n 0, 0, 0)), (197, (.iload_n 2, 0, 0)), (198, (.invokevirtual 290, 229, 1)), (201, (.ifCond .ge 5, 206, 0)), (204, (.iconst 0, 0, 0)), (205, (.ireturn, 1, 0)), (206, (.aload_n 0, 0, 0)), (207, (.getfield 9, 12, 0)), (210, (.iload_n 2, 0, 0)), (211, (.iconst 0, 0, 0)), (212, (.iastore, 0, 0)), (213, (.iconst 1, 0, 0)), (214, (.ireturn, 1, 0))]
/-- TypeAtNightModel.undo()I -/
def k_234 : List (Nat × tm_N) := [(0, (.aload_n 0, 0, 0)), (1, (.iconst 0, 0, 0)), (2, (.putfield 100, 12, 7)), (5, (.aload_n 0, 0, 0)), (6, (.getfield 174, 12, 20)), (9, (.ifCond .ne 5, 14, 0)), (12, (.iconst (-1), 0, 0)), (13, (.ireturn, 0, 0)), (14, (.aload_n 0, 0, 0)), (15, (.dup, 0, 0)), (16, (.getfield 174, 12, 20)), (19, (.iconst 1, 0, 0)), (20, (.isub, 0, 0)), (21, (.putfield 174, 12, 20)), (24, (.iconst 0, 0, 0)), (25, (.istore_n 1, 0, 0)), (26, (.iload_n 1, 0, 0)), (27, (.bipush 38, 0, 0)), (29, (.if_icmp .ge 29, 58, 0)), (32, (.aload_n 0, 0, 0)), (33, (.getfield 9, 12, 0)), (36, (.iload_n 1, 0, 0)), (37, (.aload_n 0, 0, 0)), (38, (.getfield 36, 12, 19)), (41, (.bipush 38, 0, 0)), (43, (.aload_n 0, 0, 0)), (44, (.getfield 174, 12, 20)), (47, (.imul, 0, 0)), (48, (.iload_n 1, 0, 0)), (49, (.iadd, 0, 0)), (50, (.iaload, 0, 0)), (51, (.iastore, 0, 0)), (52, (.iinc 1 1, 0, 0)), (55, (.goto (-29), 26, 0)), (58, (.aload_n 0, 0, 0)), (59, (.getfield 174, 12, 20)), (62, (.ireturn, 0, 0))]
/-- TypeAtNightModel.tells()I -/
def k_235 : List (Nat × tm_N) := [(0, (.aload_n 0, 0, 0)), (1, (.iconst 0, 0, 0)), (2, (.putfield 100, 12, 7)), (5, (.aload_n 0, 0, 0)), (6, (.invokevirtual 255, 216, 0)), (9, (.ifCond .ne 10, 19, 0)), (12, (.iconst (-1), 0, 0)), (13, (.aload_n 0, 0, 0)), (14, (.getfield 138, 12, 12)), (17, (.isub, 0, 0)), (18, (.ireturn, 0, 0)), (19, (.aload_n 0, 0, 0)), (20, (.invokevirtual 258, 219, 0)), (23, (.istore_n 1, 0, 0)), (24, (.iload_n 1, 0, 0)), (25, (.iconst (-1), 0, 0)), (26, (.if_icmp .ne 6, 32, 0)), (29, (.bipush (-101), 0, 0)), (31, (.ireturn, 0, 0)), (32, (.aload_n 0, 0, 0)), (33, (.iconst 0, 0, 0)), (34, (.putfield 113, 12, 6)), (37, (.aload_n 0, 0, 0)), (38, (.iload_n 1, 0, 0)), (39, (.i2l, 0, 0)), (40, (.invokevirtual 265, 182, 1)), (43, (.sipush 200, 0, 0)), (46, (.aload_n 0, 0, 0)), (47, (.aload_n 0, 0, 0)), (48, (.getfield 9, 12, 0)), (51, (.iload_n 1, 0, 0)), (52, (.invokevirtual 233, 209, 2)), (55, (.iadd, 0, 0)), (56, (.ireturn, 0, 0))]
/-- TypeAtNightModel.free(I)I -/
def k_236 : List (Nat × tm_N) := [(0, (.iconst 0, 0, 0)), (1, (.istore_n 2, 0, 0)), (2, (.iconst 0, 0, 0)), (3, (.istore_n 3, 0, 0)), (4, (.iload_n 3, 0, 0)), (5, (.aload_n 0, 0, 0)), (6, (.getfield 116, 12, 1)), (9, (.if_icmp .ge 43, 52, 0)), (12, (.iload_n 2, 0, 0)), (13, (.aload_n 0, 0, 0)), (14, (.getfield 13, 12, 2)), (17, (.iload_n 3, 0, 0)), (18, (.iaload, 0, 0)), (19, (.iload_n 1, 0, 0)), (20, (.if_icmp .ne 23, 43, 0)), (23, (.aload_n 0, 0, 0)), (24, (.getfield 9, 12, 0)), (27, (.bipush 36, 0, 0)), (29, (.iaload, 0, 0)), (30, (.iload_n 3, 0, 0)), (31, (.invokestatic 226, 179, 2)), (34, (.ifCond .ne 9, 43, 0)), (37, (.iconst 1, 0, 0)), (38, (.iload_n 3, 0, 0)), (39, (.ishl, 0, 0)), (40, (.goto 4, 44, 0)), (43, (.iconst 0, 0, 0)), (44, (.ior, 0, 0)), (45, (.istore_n 2, 0, 0)), (46, (.iinc 3 1, 0, 0)), (49, (.goto (-45), 4, 0)), (52, (.iload_n 2, 0, 0)), (53, (.ireturn, 0, 0))]
/-- TypeAtNightModel.often()I -/
def k_237 : List (Nat × tm_N) := [(0, (.aload_n 0, 0, 0)), (1, (.iconst 0, 0, 0)), (2, (.putfield 100, 12, 7)), (5, (.aload_n 0, 0, 0)), (6, (.invokevirtual 255, 216, 0)), (9, (.ifCond .ne 10, 19, 0)), (12, (.iconst (-1), 0, 0)), (13, (.aload_n 0, 0, 0)), (14, (.getfield 138, 12, 12)), (17, (.isub, 0, 0)), (18, (.ireturn, 0, 0)), (19, (.ldc_w 307, 1000000, 0)), (22, (.istore_n 1, 0, 0)), (23, (.iconst 0, 0, 0)), (24, (.istore_n 2, 0, 0)), (25, (.iload_n 2, 0, 0)), (26, (.bipush 8, 0, 0)), (28, (.if_icmp .ge 38, 66, 0)), (31, (.aload_n 0, 0, 0)), (32, (.getfield 48, 12, 25)), (35, (.iload_n 2, 0, 0)), (36, (.iaload, 0, 0)), (37, (.ifCond .le 23, 60, 0)), (40, (.iload_n 1, 0, 0)), (41, (.aload_n 0, 0, 0)), (42, (.iload_n 2, 0, 0)), (43, (.invokevirtual 308, 236, 1)), (46, (.invokestatic 302, 289, 1)), (49, (.aload_n 0, 0, 0)), (50, (.getfield 48, 12, 25)), (53, (.iload_n 2, 0, 0)), (54, (.iaload, 0, 0)), (55, (.idiv, 0, 0)), (56, (.invokestatic 104, 0, 1002)), (59, (.istore_n 1, 0, 0)), (60, (.iinc 2 1, 0, 0)), (63, (.goto (-38), 25, 0)), (66, (.iconst 0, 0, 0)), (67, (.istore_n 2, 0, 0)), (68, (.iconst 0, 0, 0)), (69, (.istore_n 3, 0, 0)), (70, (.iload_n 3, 0, 0)), (71, (.bipush 8, 0, 0)), (73, (.if_icmp .ge 49, 122, 0)), (76, (.iload_n 2, 0, 0)), (77, (.aload_n 0, 0, 0)), (78, (.getfield 48, 12, 25)), (81, (.iload_n 3, 0, 0)), (82, (.iaload, 0, 0)), (83, (.ifCond .le 30, 113, 0)), (86, (.aload_n 0, 0, 0)), (87, (.iload_n 3, 0, 0)), (88, (.invokevirtual 308, 236, 1)), (91, (.invokestatic 302, 289, 1)), (94, (.iload_n 1, 0, 0)), (95, (.iconst 1, 0, 0)), (96, (.iadd, 0, 0)), (97, (.aload_n 0, 0, 0)), (98, (.getfield 48, 12, 25)), (101, (.iload_n 3, 0, 0)), (102, (.iaload, 0, 0)), (103, (.imul, 0, 0)), (104, (.if_icmp .ge 9, 113, 0)), (107, (.iconst 1, 0, 0)), (108, (.iload_n 3, 0, 0)), (109, (.ishl, 0, 0)), (110, (.goto 4, 114, 0)), (113, (.iconst 0, 0, 0)), (114, (.ior, 0, 0)), (115, (.istore_n 2, 0, 0)), (116, (.iinc 3 1, 0, 0)), (119, (.goto (-49), 70, 0)), (122, (.aload_n 0, 0, 0)), (123, (.iconst 0, 0, 0)), (124, (.putfield 113, 12, 6)), (127, (.aload_n 0, 0, 0)), (128, (.iload_n 2, 0, 0)), (129, (.i2l, 0, 0)), (130, (.invokevirtual 265, 182, 1)), (133, (.iload_n 1, 0, 0)), (134, (.ireturn, 0, 0))]
/-- TypeAtNightModel.shortest()I -/
def k_238 : List (Nat × tm_N) := [(0, (.aload_n 0, 0, 0)), (1, (.iconst 0, 0, 0)), (2, (.putfield 100, 12, 7)), (5, (.iconst 0, 0, 0)), (6, (.istore_n 1, 0, 0)), (7, (.iconst 1, 0, 0)), (8, (.istore_n 2, 0, 0)), (9, (.iload_n 2, 0, 0)), (10, (.bipush 8, 0, 0)), (12, (.if_icmp .ge 34, 46, 0)), (15, (.aload_n 0, 0, 0)), (16, (.iload_n 2, 0, 0)), (17, (.invokevirtual 308, 236, 1)), (20, (.invokestatic 302, 289, 1)), (23, (.aload_n 0, 0, 0)), (24, (.iload_n 1, 0, 0)), (25, (.invokevirtual 308, 236, 1)), (28, (.invokestatic 302, 289, 1)), (31, (.if_icmp .ge 7, 38, 0)), (34, (.iload_n 2, 0, 0)), (35, (.goto 4, 39, 0)), (38, (.iload_n 1, 0, 0)), (39, (.istore_n 1, 0, 0)), (40, (.iinc 2 1, 0, 0)), (43, (.goto (-34), 9, 0)), (46, (.iconst 0, 0, 0)), (47, (.istore_n 2, 0, 0)), (48, (.iconst 0, 0, 0)), (49, (.istore_n 3, 0, 0)), (50, (.iload_n 3, 0, 0)), (51, (.aload_n 0, 0, 0)), (52, (.getfield 116, 12, 1)), (55, (.if_icmp .ge 27, 82, 0)), (58, (.iload_n 2, 0, 0)), (59, (.aload_n 0, 0, 0)), (60, (.getfield 13, 12, 2)), (63, (.iload_n 3, 0, 0)), (64, (.iaload, 0, 0)), (65, (.iload_n 1, 0, 0)), (66, (.if_icmp .ne 7, 73, 0)), (69, (.iconst 1, 0, 0)), (70, (.goto 4, 74, 0)), (73, (.iconst 0, 0, 0)), (74, (.iadd, 0, 0)), (75, (.istore_n 2, 0, 0)), (76, (.iinc 3 1, 0, 0)), (79, (.goto (-29), 50, 0)), (82, (.aload_n 0, 0, 0)), (83, (.iconst 0, 0, 0)), (84, (.putfield 113, 12, 6)), (87, (.aload_n 0, 0, 0)), (88, (.aload_n 0, 0, 0)), (89, (.iload_n 1, 0, 0)), (90, (.invokevirtual 308, 236, 1)), (93, (.invokestatic 302, 289, 1)), (96, (.i2l, 0, 0)), (97, (.invokevirtual 265, 182, 1)), (100, (.aload_n 0, 0, 0)), (101, (.iload_n 2, 0, 0)), (102, (.i2l, 0, 0)), (103, (.invokevirtual 265, 182, 1)), (106, (.iload_n 1, 0, 0)), (107, (.ireturn, 0, 0))]
/-- TypeAtNightModel.isText(I)Z -/
def k_239 : List (Nat × tm_N) := [(0, (.iload_n 1, 0, 0)), (1, (.aload_n 0, 0, 0)), (2, (.getfield 9, 12, 0)), (5, (.bipush 36, 0, 0)), (7, (.iaload, 0, 0)), (8, (.iand, 0, 0)), (9, (.ifCond .eq 5, 14, 0)), (12, (.iconst 0, 0, 0)), (13, (.ireturn, 1, 0)), (14, (.iconst 0, 0, 0)), (15, (.istore_n 2, 0, 0)), (16, (.iload_n 2, 0, 0)), (17, (.bipush 8, 0, 0)), (19, (.if_icmp .ge 30, 49, 0)), (22, (.iload_n 1, 0, 0)), (23, (.aload_n 0, 0, 0)), (24, (.iload_n 2, 0, 0)), (25, (.invokevirtual 308, 236, 1)), (28, (.iand, 0, 0)), (29, (.invokestatic 302, 289, 1)), (32, (.aload_n 0, 0, 0)), (33, (.getfield 48, 12, 25)), (36, (.iload_n 2, 0, 0)), (37, (.iaload, 0, 0)), (38, (.if_icmp .eq 5, 43, 0)), (41, (.iconst 0, 0, 0)), (42, (.ireturn, 1, 0)), (43, (.iinc 2 1, 0, 0)), (46, (.goto (-30), 16, 0)), (49, (.iconst 1, 0, 0)), (50, (.ireturn, 1, 0))]
/-- TypeAtNightModel.bears(I)I -/
def k_240 : List (Nat × tm_N) := [(0, (.aload_n 0, 0, 0)), (1, (.iconst 0, 0, 0)), (2, (.putfield 100, 12, 7)), (5, (.aload_n 0, 0, 0)), (6, (.invokevirtual 255, 216, 0)), (9, (.ifCond .ne 10, 19, 0)), (12, (.iconst (-1), 0, 0)), (13, (.aload_n 0, 0, 0)), (14, (.getfield 138, 12, 12)), (17, (.isub, 0, 0)), (18, (.ireturn, 0, 0)), (19, (.iload_n 1, 0, 0)), (20, (.bipush (-108), 0, 0)), (22, (.bipush 108, 0, 0)), (24, (.invokestatic 119, 178, 3)), (27, (.ifCond .ne 6, 33, 0)), (30, (.bipush (-100), 0, 0)), (32, (.ireturn, 0, 0)), (33, (.iconst 0, 0, 0)), (34, (.istore_n 2, 0, 0)), (35, (.aload_n 0, 0, 0)), (36, (.iconst 0, 0, 0)), (37, (.putfield 113, 12, 6)), (40, (.iconst 0, 0, 0)), (41, (.istore_n 3, 0, 0)), (42, (.iload_n 3, 0, 0)), (43, (.aload_n 0, 0, 0)), (44, (.invokevirtual 276, 184, 0)), (47, (.if_icmp .gt 57, 104, 0)), (50, (.iload_n 3, 0, 0)), (51, (.invokestatic 302, 289, 1)), (54, (.aload_n 0, 0, 0)), (55, (.getfield 243, 12, 24)), (58, (.if_icmp .ne 40, 98, 0)), (61, (.aload_n 0, 0, 0)), (62, (.aload_n 0, 0, 0)), (63, (.getfield 9, 12, 0)), (66, (.iload_n 3, 0, 0)), (67, (.invokevirtual 233, 209, 2)), (70, (.iload_n 1, 0, 0)), (71, (.if_icmp .ne 27, 98, 0)), (74, (.aload_n 0, 0, 0)), (75, (.iload_n 3, 0, 0)), (76, (.invokevirtual 311, 239, 1)), (79, (.ifCond .ne 6, 85, 0)), (82, (.goto 16, 98, 0)), (85, (.iload_n 2, 0, 0)), (86, (.ifCond .ne 9, 95, 0)), (89, (.aload_n 0, 0, 0)), (90, (.iload_n 3, 0, 0)), (91, (.i2l, 0, 0)), (92, (.invokevirtual 265, 182, 1)), (95, (.iinc 2 1, 0, 0)), (98, (.iinc 3 1, 0, 0)), (101, (.goto (-59), 42, 0)), (104, (.iload_n 2, 0, 0)), (105, (.ireturn, 0, 0))]
/-- TypeAtNightModel.spans()I -/
def k_241 : List (Nat × tm_N) := [(0, (.aload_n 0, 0, 0)), (1, (.iconst 0, 0, 0)), (2, (.putfield 100, 12, 7)), (5, (.aload_n 0, 0, 0)), (6, (.invokevirtual 255, 216, 0)), (9, (.ifCond .ne 10, 19, 0)), (12, (.iconst (-1), 0, 0)), (13, (.aload_n 0, 0, 0)), (14, (.getfield 138, 12, 12)), (17, (.isub, 0, 0)), (18, (.ireturn, 0, 0)), (19, (.iconst (-1), 0, 0)), (20, (.istore_n 1, 0, 0)), (21, (.iconst (-1), 0, 0)), (22, (.istore_n 2, 0, 0)), (23, (.iconst 0, 0, 0)), (24, (.istore_n 3, 0, 0)), (25, (.iload_n 3, 0, 0)), (26, (.aload_n 0, 0, 0)), (27, (.invokevirtual 276, 184, 0)), (30, (.if_icmp .gt 95, 125, 0)), (33, (.iload_n 3, 0, 0)), (34, (.invokestatic 302, 289, 1)), (37, (.aload_n 0, 0, 0)), (38, (.getfield 243, 12, 24)), (41, (.if_icmp .ne 78, 119, 0)), (44, (.aload_n 0, 0, 0)), (45, (.iload_n 3, 0, 0)), (46, (.invokevirtual 311, 239, 1)), (49, (.ifCond .ne 6, 55, 0)), (52, (.goto 67, 119, 0)), (55, (.iload_n 1, 0, 0)), (56, (.iconst (-1), 0, 0)), (57, (.if_icmp .eq 24, 81, 0)), (60, (.aload_n 0, 0, 0)), (61, (.aload_n 0, 0, 0)), (62, (.getfield 9, 12, 0)), (65, (.iload_n 3, 0, 0)), (66, (.invokevirtual 233, 209, 2)), (69, (.aload_n 0, 0, 0)), (70, (.aload_n 0, 0, 0)), (71, (.getfield 9, 12, 0)), (74, (.iload_n 1, 0, 0)), (75, (.invokevirtual 233, 209, 2)), (78, (.if_icmp .ge 7, 85, 0)), (81, (.iload_n 3, 0, 0)), (82, (.goto 4, 86, 0)), (85, (.iload_n 1, 0, 0)), (86, (.istore_n 1, 0, 0)), (87, (.iload_n 2, 0, 0)), (88, (.iconst (-1), 0, 0)), (89, (.if_icmp .eq 24, 113, 0)), (92, (.aload_n 0, 0, 0)), (93, (.aload_n 0, 0, 0)), (94, (.getfield 9, 12, 0)), (97, (.iload_n 3, 0, 0)), (98, (.invokevirtual 233, 209, 2)), (101, (.aload_n 0, 0, 0)), (102, (.aload_n 0, 0, 0)), (103, (.getfield 9, 12, 0)), (106, (.iload_n 2, 0, 0)), (107, (.invokevirtual 233, 209, 2)), (110, (.if_icmp .le 7, 117, 0)), (113, (.iload_n 3, 0, 0)), (114, (.goto 4, 118, 0)), (117, (.iload_n 2, 0, 0)), (118, (.istore_n 2, 0, 0)), (119, (.iinc 3 1, 0, 0)), (122, (.goto (-97), 25, 0)), (125, (.iload_n 1, 0, 0)), (126, (.iconst (-1), 0, 0)), (127, (.if_icmp .ne 6, 133, 0)), (130, (.bipush (-101), 0, 0)), (132, (.ireturn, 0, 0)), (133, (.aload_n 0, 0, 0)), (134, (.iconst 0, 0, 0)), (135, (.putfield 113, 12, 6)), (138, (.aload_n 0, 0, 0)), (139, (.sipush 200, 0, 0)), (142, (.aload_n 0, 0, 0)), (143, (.aload_n 0, 0, 0)), (144, (.getfield 9, 12, 0)), (147, (.iload_n 2, 0, 0)), (148, (.invokevirtual 233, 209, 2)), (151, (.iadd, 0, 0)), (152, (.i2l, 0, 0)), (153, (.invokevirtual 265, 182, 1)), (156, (.aload_n 0, 0, 0)), (157, (.iload_n 1, 0, 0)), (158, (.i2l, 0, 0)), (159, (.invokevirtual 265, 182, 1)), (162, (.aload_n 0, 0, 0)), (163, (.iload_n 2, 0, 0)), (164, (.i2l, 0, 0)), (165, (.invokevirtual 265, 182, 1)), (168, (.sipush 200, 0, 0)), (171, (.aload_n 0, 0, 0)), (172, (.aload_n 0, 0, 0)), (173, (.getfield 9, 12, 0)), (176, (.iload_n 1, 0, 0)), (177, (.invokevirtual 233, 209, 2)), (180, (.iadd, 0, 0)), (181, (.ireturn, 0, 0))]
/-- TypeAtNightModel.canSet(I)Z -/
def k_242 : List (Nat × tm_N) := [(0, (.iconst 0, 0, 0)), (1, (.istore_n 2, 0, 0)), (2, (.iload_n 2, 0, 0)), (3, (.bipush 8, 0, 0)), (5, (.if_icmp .ge 69, 74, 0)), (8, (.iconst 0, 0, 0)), (9, (.istore_n 3, 0, 0)), (10, (.iconst 0, 0, 0)), (11, (.istore 4, 0, 0)), (13, (.iload 4, 0, 0)), (15, (.bipush 8, 0, 0)), (17, (.if_icmp .ge 37, 54, 0)), (20, (.iload_n 3, 0, 0)), (21, (.iload_n 1, 0, 0)), (22, (.iload 4, 0, 0)), (24, (.invokestatic 226, 179, 2)), (27, (.ifCond .eq 18, 45, 0)), (30, (.aload_n 0, 0, 0)), (31, (.getfield 57, 12, 29)), (34, (.bipush 8, 0, 0)), (36, (.iload 4, 0, 0)), (38, (.imul, 0, 0)), (39, (.iload_n 2, 0, 0)), (40, (.iadd, 0, 0)), (41, (.iaload, 0, 0)), (42, (.goto 4, 46, 0)), (45, (.iconst 0, 0, 0)), (46, (.iadd, 0, 0)), (47, (.istore_n 3, 0, 0)), (48, (.iinc 4 1, 0, 0)), (51, (.goto (-38), 13, 0)), (54, (.iload_n 3, 0, 0)), (55, (.aload_n 0, 0, 0)), (56, (.iload_n 2, 0, 0)), (57, (.invokevirtual 308, 236, 1)), (60, (.invokestatic 302, 289, 1)), (63, (.if_icmp .le 5, 68, 0)), (66, (.iconst 0, 0, 0)), (67, (.ireturn, 1, 0)), (68, (.iinc 2 1, 0, 0)), (71, (.goto (-69), 2, 0)), (74, (.iconst 1, 0, 0)), (75, (.ireturn, 1, 0))]
/-- TypeAtNightModel.packs()I -/
def k_243 : List (Nat × tm_N) := [(0, (.aload_n 0, 0, 0)), (1, (.iconst 0, 0, 0)), (2, (.putfield 100, 12, 7)), (5, (.aload_n 0, 0, 0)), (6, (.bipush 60, 0, 0)), (8, (.invokevirtual 165, 188, 1)), (11, (.iconst 0, 0, 0)), (12, (.istore_n 1, 0, 0)), (13, (.iload_n 1, 0, 0)), (14, (.bipush 64, 0, 0)), (16, (.if_icmp .ge 16, 32, 0)), (19, (.aload_n 0, 0, 0)), (20, (.getfield 57, 12, 29)), (23, (.iload_n 1, 0, 0)), (24, (.iconst 0, 0, 0)), (25, (.iastore, 0, 0)), (26, (.iinc 1 1, 0, 0)), (29, (.goto (-16), 13, 0)), (32, (.iconst 0, 0, 0)), (33, (.istore_n 1, 0, 0)), (34, (.iconst 1, 0, 0)), (35, (.istore_n 2, 0, 0)), (36, (.iload_n 2, 0, 0)), (37, (.ifCond .eq 108, 145, 0)), (40, (.aload_n 0, 0, 0)), (41, (.invokevirtual 145, 190, 0)), (44, (.ifCond .eq 101, 145, 0)), (47, (.iload_n 1, 0, 0)), (48, (.bipush 8, 0, 0)), (50, (.if_icmp .ne 14, 64, 0)), (53, (.aload_n 0, 0, 0)), (54, (.aload_n 0, 0, 0)), (55, (.getfield 135, 12, 11)), (58, (.invokevirtual 157, 191, 1)), (61, (.goto 71, 132, 0)), (64, (.iconst 1, 0, 0)), (65, (.istore_n 3, 0, 0)), (66, (.aload_n 0, 0, 0)), (67, (.invokevirtual 145, 190, 0)), (70, (.ifCond .eq 62, 132, 0)), (73, (.iload_n 3, 0, 0)), (74, (.ifCond .ne 20, 94, 0)), (77, (.aload_n 0, 0, 0)), (78, (.invokevirtual 149, 189, 0)), (81, (.iconst (-1), 0, 0)), (82, (.if_icmp .eq 50, 132, 0)), (85, (.aload_n 0, 0, 0)), (86, (.invokevirtual 149, 189, 0)), (89, (.bipush 59, 0, 0)), (91, (.if_icmp .eq 41, 132, 0)), (94, (.aload_n 0, 0, 0)), (95, (.bipush 97, 0, 0)), (97, (.bipush 8, 0, 0)), (99, (.invokevirtual 161, 194, 2)), (102, (.istore 4, 0, 0)), (104, (.aload_n 0, 0, 0)), (105, (.invokevirtual 145, 190, 0)), (108, (.ifCond .eq 19, 127, 0)), (111, (.aload_n 0, 0, 0)), (112, (.getfield 57, 12, 29)), (115, (.bipush 8, 0, 0)), (117, (.iload_n 1, 0, 0)), (118, (.imul, 0, 0)), (119, (.iload 4, 0, 0)), (121, (.iadd, 0, 0)), (122, (.dup2, 0, 0)), (123, (.iaload, 0, 0)), (124, (.iconst 1, 0, 0)), (125, (.iadd, 0, 0)), (126, (.iastore, 0, 0)), (127, (.iconst 0, 0, 0)), (128, (.istore_n 3, 0, 0)), (129, (.goto (-63), 66, 0)), (132, (.iinc 1 1, 0, 0)), (135, (.aload_n 0, 0, 0)), (136, (.bipush 59, 0, 0)), (138, (.invokevirtual 153, 192, 1)), (141, (.istore_n 2, 0, 0)), (142, (.goto (-106), 36, 0)), (145, (.aload_n 0, 0, 0)), (146, (.invokevirtual 171, 196, 0)), (149, (.ifCond .ne 10, 159, 0)), (152, (.iconst (-1), 0, 0)), (153, (.aload_n 0, 0, 0)), (154, (.getfield 138, 12, 12)), (157, (.isub, 0, 0)), (158, (.ireturn, 0, 0)), (159, (.iconst 0, 0, 0)), (160, (.istore_n 3, 0, 0)), (161, (.iconst 1, 0, 0)), (162, (.istore 4, 0, 0)), (164, (.iload 4, 0, 0)), (166, (.iconst 1, 0, 0)), (167, (.iload_n 1, 0, 0)), (168, (.ishl, 0, 0)), (169, (.if_icmp .ge 37, 206, 0)), (172, (.iload 4, 0, 0)), (174, (.invokestatic 302, 289, 1)), (177, (.iload_n 3, 0, 0)), (178, (.invokestatic 302, 289, 1)), (181, (.if_icmp .le 17, 198, 0)), (184, (.aload_n 0, 0, 0)), (185, (.iload 4, 0, 0)), (187, (.invokevirtual 314, 242, 1)), (190, (.ifCond .eq 8, 198, 0)), (193, (.iload 4, 0, 0)), (195, (.goto 4, 199, 0)), (198, (.iload_n 3, 0, 0)), (199, (.istore_n 3, 0, 0)), (200, (.iinc 4 1, 0, 0)), (203, (.goto (-39), 164, 0)), (206, (.aload_n 0, 0, 0)), (207, (.iconst 0, 0, 0)), (208, (.putfield 113, 12, 6)), (211, (.aload_n 0, 0, 0)), (212, (.iload_n 3, 0, 0)), (213, (.i2l, 0, 0)), (214, (.invokevirtual 265, 182, 1)), (217, (.iload_n 3, 0, 0)), (218, (.invokestatic 302, 289, 1)), (221, (.ireturn, 0, 0))]
/-- TypeAtNightModel.goThen(I)V -/
def k_244 : List (Nat × tm_N) := [(0, (.aload_n 0, 0, 0)), (1, (.getfield 9, 12, 0)), (4, (.aload_n 0, 0, 0)), (5, (.getfield 42, 12, 22)), (8, (.iconst 0, 0, 0)), (9, (.invokestatic 239, 213, 3)), (12, (.aload_n 0, 0, 0)), (13, (.aload_n 0, 0, 0)), (14, (.getfield 42, 12, 22)), (17, (.iload_n 1, 0, 0)), (18, (.invokevirtual 272, 222, 2)), (21, (.return_, 0, 0))]
/-- TypeAtNightModel.later(II)I -/
def k_245 : List (Nat × tm_N) := [(0, (.aload_n 0, 0, 0)), (1, (.iconst 0, 0, 0)), (2, (.putfield 100, 12, 7)), (5, (.aload_n 0, 0, 0)), (6, (.iload_n 1, 0, 0)), (7, (.invokevirtual 215, 183, 1)), (10, (.ifCond .eq 13, 23, 0)), (13, (.iload_n 2, 0, 0)), (14, (.iconst 0, 0, 0)), (15, (.bipush 99, 0, 0)), (17, (.invokestatic 119, 178, 3)), (20, (.ifCond .ne 5, 25, 0)), (23, (.iconst (-1), 0, 0)), (24, (.ireturn, 0, 0)), (25, (.aload_n 0, 0, 0)), (26, (.iload_n 2, 0, 0)), (27, (.invokevirtual 317, 244, 1)), (30, (.aload_n 0, 0, 0)), (31, (.iconst 0, 0, 0)), (32, (.putfield 113, 12, 6)), (35, (.aload_n 0, 0, 0)), (36, (.aload_n 0, 0, 0)), (37, (.getfield 42, 12, 22)), (40, (.bipush 24, 0, 0)), (42, (.iload_n 1, 0, 0)), (43, (.iadd, 0, 0)), (44, (.iaload, 0, 0)), (45, (.i2l, 0, 0)), (46, (.invokevirtual 265, 182, 1)), (49, (.aload_n 0, 0, 0)), (50, (.sipush 200, 0, 0)), (53, (.aload_n 0, 0, 0)), (54, (.aload_n 0, 0, 0)), (55, (.getfield 42, 12, 22)), (58, (.aload_n 0, 0, 0)), (59, (.invokevirtual 276, 184, 0)), (62, (.invokevirtual 233, 209, 2)), (65, (.iadd, 0, 0)), (66, (.i2l, 0, 0)), (67, (.invokevirtual 265, 182, 1)), (70, (.bipush 10, 0, 0)), (72, (.aload_n 0, 0, 0)), (73, (.getfield 42, 12, 22)), (76, (.bipush 12, 0, 0)), (78, (.iload_n 1, 0, 0)), (79, (.iadd, 0, 0)), (80, (.iaload, 0, 0)), (81, (.iadd, 0, 0)), (82, (.ireturn, 0, 0))]
/-- TypeAtNightModel.layTrail()V -/
def k_246 : List (Nat × tm_N) := [(0, (.aload_n 0, 0, 0)), (1, (.getfield 9, 12, 0)), (4, (.aload_n 0, 0, 0)), (5, (.getfield 42, 12, 22)), (8, (.iconst 0, 0, 0)), (9, (.invokestatic 239, 213, 3)), (12, (.iconst 0, 0, 0)), (13, (.istore_n 1, 0, 0)), (14, (.iload_n 1, 0, 0)), (15, (.bipush 99, 0, 0)), (17, (.if_icmp .gt 32, 49, 0)), (20, (.aload_n 0, 0, 0)), (21, (.getfield 42, 12, 22)), (24, (.aload_n 0, 0, 0)), (25, (.getfield 60, 12, 30)), (28, (.bipush 38, 0, 0)), (30, (.iload_n 1, 0, 0)), (31, (.imul, 0, 0)), (32, (.invokestatic 239, 213, 3)), (35, (.aload_n 0, 0, 0)), (36, (.aload_n 0, 0, 0)), (37, (.getfield 42, 12, 22)), (40, (.invokevirtual 269, 221, 1)), (43, (.iinc 1 1, 0, 0)), (46, (.goto (-32), 14, 0)), (49, (.return_, 0, 0))]
/-- TypeAtNightModel.areLike(IIII)Z -/
def k_247 : List (Nat × tm_N) := [(0, (.iload_n 3, 0, 0)), (1, (.istore 5, 0, 0)), (3, (.iload 5, 0, 0)), (5, (.iload 4, 0, 0)), (7, (.if_icmp .ge 38, 45, 0)), (10, (.aload_n 0, 0, 0)), (11, (.getfield 60, 12, 30)), (14, (.bipush 38, 0, 0)), (16, (.iload_n 1, 0, 0)), (17, (.imul, 0, 0)), (18, (.iload 5, 0, 0)), (20, (.iadd, 0, 0)), (21, (.iaload, 0, 0)), (22, (.aload_n 0, 0, 0)), (23, (.getfield 60, 12, 30)), (26, (.bipush 38, 0, 0)), (28, (.iload_n 2, 0, 0)), (29, (.imul, 0, 0)), (30, (.iload 5, 0, 0)), (32, (.iadd, 0, 0)), (33, (.iaload, 0, 0)), (34, (.if_icmp .eq 5, 39, 0)), (37, (.iconst 0, 0, 0)), (38, (.ireturn, 1, 0)), (39, (.iinc 5 1, 0, 0)), (42, (.goto (-39), 3, 0)), (45, (.iconst 1, 0, 0)), (46, (.ireturn, 1, 0))]
/-- TypeAtNightModel.settles()I -/
def k_248 : List (Nat × tm_N) := [(0, (.aload_n 0, 0, 0)), (1, (.iconst 0, 0, 0)), (2, (.putfield 100, 12, 7)), (5, (.aload_n 0, 0, 0)), (6, (.invokevirtual 320, 246, 0)), (9, (.iconst 0, 0, 0)), (10, (.istore_n 1, 0, 0)), (11, (.iload_n 1, 0, 0)), (12, (.bipush 96, 0, 0)), (14, (.if_icmp .gt 116, 130, 0)), (17, (.iconst 1, 0, 0)), (18, (.istore_n 2, 0, 0)), (19, (.iconst 1, 0, 0)), (20, (.istore_n 3, 0, 0)), (21, (.iload_n 3, 0, 0)), (22, (.iconst 3, 0, 0)), (23, (.if_icmp .gt 39, 62, 0)), (26, (.iload_n 2, 0, 0)), (27, (.ifCond .eq 27, 54, 0)), (30, (.aload_n 0, 0, 0)), (31, (.iload_n 1, 0, 0)), (32, (.iload_n 1, 0, 0)), (33, (.iload_n 3, 0, 0)), (34, (.iadd, 0, 0)), (35, (.bipush 12, 0, 0)), (37, (.bipush 12, 0, 0)), (39, (.aload_n 0, 0, 0)), (40, (.getfield 116, 12, 1)), (43, (.iadd, 0, 0)), (44, (.invokevirtual 323, 247, 4)), (47, (.ifCond .eq 7, 54, 0)), (50, (.iconst 1, 0, 0)), (51, (.goto 4, 55, 0)), (54, (.iconst 0, 0, 0)), (55, (.istore_n 2, 0, 0)), (56, (.iinc 3 1, 0, 0)), (59, (.goto (-38), 21, 0)), (62, (.iload_n 2, 0, 0)), (63, (.ifCond .ne 6, 69, 0)), (66, (.goto 58, 124, 0)), (69, (.iconst 0, 0, 0)), (70, (.istore_n 3, 0, 0)), (71, (.iconst 0, 0, 0)), (72, (.istore 4, 0, 0)), (74, (.iload 4, 0, 0)), (76, (.aload_n 0, 0, 0)), (77, (.getfield 116, 12, 1)), (80, (.if_icmp .ge 27, 107, 0)), (83, (.iload_n 3, 0, 0)), (84, (.aload_n 0, 0, 0)), (85, (.getfield 60, 12, 30)), (88, (.bipush 38, 0, 0)), (90, (.iload_n 1, 0, 0)), (91, (.imul, 0, 0)), (92, (.bipush 12, 0, 0)), (94, (.iadd, 0, 0)), (95, (.iload 4, 0, 0)), (97, (.iadd, 0, 0)), (98, (.iaload, 0, 0)), (99, (.iadd, 0, 0)), (100, (.istore_n 3, 0, 0)), (101, (.iinc 4 1, 0, 0)), (104, (.goto (-30), 74, 0)), (107, (.aload_n 0, 0, 0)), (108, (.iconst 0, 0, 0)), (109, (.putfield 113, 12, 6)), (112, (.aload_n 0, 0, 0)), (113, (.sipush 200, 0, 0)), (116, (.iload_n 3, 0, 0)), (117, (.iadd, 0, 0)), (118, (.i2l, 0, 0)), (119, (.invokevirtual 265, 182, 1)), (122, (.iload_n 1, 0, 0)), (123, (.ireturn, 0, 0)), (124, (.iinc 1 1, 0, 0)), (127, (.goto (-116), 11, 0)), (130, (.bipush (-2), 0, 0)), (132, (.ireturn, 0, 0))]
/-- TypeAtNightModel.round()I -/
def k_249 : List (Nat × tm_N) := [(0, (.aload_n 0, 0, 0)), (1, (.iconst 0, 0, 0)), (2, (.putfield 100, 12, 7)), (5, (.aload_n 0, 0, 0)), (6, (.invokevirtual 320, 246, 0)), (9, (.iconst 1, 0, 0)), (10, (.istore_n 1, 0, 0)), (11, (.iload_n 1, 0, 0)), (12, (.bipush 99, 0, 0)), (14, (.if_icmp .gt 96, 110, 0)), (17, (.iconst 0, 0, 0)), (18, (.istore_n 2, 0, 0)), (19, (.iload_n 2, 0, 0)), (20, (.iload_n 1, 0, 0)), (21, (.if_icmp .ge 83, 104, 0)), (24, (.iload_n 1, 0, 0)), (25, (.iload_n 2, 0, 0)), (26, (.isub, 0, 0)), (27, (.bipush 7, 0, 0)), (29, (.irem, 0, 0)), (30, (.ifCond .ne 68, 98, 0)), (33, (.aload_n 0, 0, 0)), (34, (.iload_n 2, 0, 0)), (35, (.iload_n 1, 0, 0)), (36, (.bipush 12, 0, 0)), (38, (.bipush 12, 0, 0)), (40, (.aload_n 0, 0, 0)), (41, (.getfield 116, 12, 1)), (44, (.iadd, 0, 0)), (45, (.invokevirtual 323, 247, 4)), (48, (.ifCond .eq 50, 98, 0)), (51, (.aload_n 0, 0, 0)), (52, (.iload_n 2, 0, 0)), (53, (.iload_n 1, 0, 0)), (54, (.bipush 24, 0, 0)), (56, (.bipush 24, 0, 0)), (58, (.aload_n 0, 0, 0)), (59, (.getfield 116, 12, 1)), (62, (.iadd, 0, 0)), (63, (.invokevirtual 323, 247, 4)), (66, (.ifCond .eq 32, 98, 0)), (69, (.aload_n 0, 0, 0)), (70, (.iload_n 2, 0, 0)), (71, (.iload_n 1, 0, 0)), (72, (.bipush 36, 0, 0)), (74, (.bipush 37, 0, 0)), (76, (.invokevirtual 323, 247, 4)), (79, (.ifCond .ne 6, 85, 0)), (82, (.goto 16, 98, 0)), (85, (.aload_n 0, 0, 0)), (86, (.iconst 0, 0, 0)), (87, (.putfield 113, 12, 6)), (90, (.aload_n 0, 0, 0)), (91, (.iload_n 2, 0, 0)), (92, (.i2l, 0, 0)), (93, (.invokevirtual 265, 182, 1)), (96, (.iload_n 1, 0, 0)), (97, (.ireturn, 0, 0)), (98, (.iinc 2 1, 0, 0)), (101, (.goto (-82), 19, 0)), (104, (.iinc 1 1, 0, 0)), (107, (.goto (-96), 11, 0)), (110, (.bipush (-2), 0, 0)), (112, (.ireturn, 0, 0))]
/-- TypeAtNightModel.gravest(I)I -/
def k_250 : List (Nat × tm_N) := [(0, (.aload_n 0, 0, 0)), (1, (.iconst 0, 0, 0)), (2, (.putfield 100, 12, 7)), (5, (.iload_n 1, 0, 0)), (6, (.iconst 0, 0, 0)), (7, (.bipush 99, 0, 0)), (9, (.invokestatic 119, 178, 3)), (12, (.ifCond .ne 5, 17, 0)), (15, (.iconst (-1), 0, 0)), (16, (.ireturn, 0, 0)), (17, (.aload_n 0, 0, 0)), (18, (.getfield 116, 12, 1)), (21, (.ifCond .ne 6, 27, 0)), (24, (.bipush (-2), 0, 0)), (26, (.ireturn, 0, 0)), (27, (.aload_n 0, 0, 0)), (28, (.iload_n 1, 0, 0)), (29, (.invokevirtual 317, 244, 1)), (32, (.iconst 0, 0, 0)), (33, (.istore_n 2, 0, 0)), (34, (.iconst 1, 0, 0)), (35, (.istore_n 3, 0, 0)), (36, (.iload_n 3, 0, 0)), (37, (.aload_n 0, 0, 0)), (38, (.getfield 116, 12, 1)), (41, (.if_icmp .ge 42, 83, 0)), (44, (.aload_n 0, 0, 0)), (45, (.getfield 42, 12, 22)), (48, (.bipush 12, 0, 0)), (50, (.iload_n 3, 0, 0)), (51, (.iadd, 0, 0)), (52, (.iaload, 0, 0)), (53, (.invokestatic 327, 0, 1003)), (56, (.aload_n 0, 0, 0)), (57, (.getfield 42, 12, 22)), (60, (.bipush 12, 0, 0)), (62, (.iload_n 2, 0, 0)), (63, (.iadd, 0, 0)), (64, (.iaload, 0, 0)), (65, (.invokestatic 327, 0, 1003)), (68, (.if_icmp .le 7, 75, 0)), (71, (.iload_n 3, 0, 0)), (72, (.goto 4, 76, 0)), (75, (.iload_n 2, 0, 0)), (76, (.istore_n 2, 0, 0)), (77, (.iinc 3 1, 0, 0)), (80, (.goto (-44), 36, 0)), (83, (.aload_n 0, 0, 0)), (84, (.iconst 0, 0, 0)), (85, (.putfield 113, 12, 6)), (88, (.aload_n 0, 0, 0)), (89, (.bipush 10, 0, 0)), (91, (.aload_n 0, 0, 0)), (92, (.getfield 42, 12, 22)), (95, (.bipush 12, 0, 0)), (97, (.iload_n 2, 0, 0)), (98, (.iadd, 0, 0)), (99, (.iaload, 0, 0)), (100, (.iadd, 0, 0)), (101, (.i2l, 0, 0)), (102, (.invokevirtual 265, 182, 1)), (105, (.aload_n 0, 0, 0)), (106, (.bipush 10, 0, 0)), (108, (.aload_n 0, 0, 0)), (109, (.getfield 9, 12, 0)), (112, (.bipush 12, 0, 0)), (114, (.iload_n 2, 0, 0)), (115, (.iadd, 0, 0)), (116, (.iaload, 0, 0)), (117, (.iadd, 0, 0)), (118, (.i2l, 0, 0)), (119, (.invokevirtual 265, 182, 1)), (122, (.iload_n 2, 0, 0)), (123, (.ireturn, 0, 0))]
/-- TypeAtNightModel.isCalm(III)Z -/
def k_251 : List (Nat × tm_N) := [(0, (.aload_n 0, 0, 0)), (1, (.getfield 9, 12, 0)), (4, (.aload_n 0, 0, 0)), (5, (.getfield 42, 12, 22)), (8, (.iconst 0, 0, 0)), (9, (.invokestatic 239, 213, 3)), (12, (.iconst 0, 0, 0)), (13, (.istore 4, 0, 0)), (15, (.iload 4, 0, 0)), (17, (.aload_n 0, 0, 0)), (18, (.getfield 116, 12, 1)), (21, (.if_icmp .ge 29, 50, 0)), (24, (.iload_n 1, 0, 0)), (25, (.iload 4, 0, 0)), (27, (.invokestatic 226, 179, 2)), (30, (.ifCond .eq 14, 44, 0)), (33, (.aload_n 0, 0, 0)), (34, (.getfield 42, 12, 22)), (37, (.bipush 12, 0, 0)), (39, (.iload 4, 0, 0)), (41, (.iadd, 0, 0)), (42, (.iconst 0, 0, 0)), (43, (.iastore, 0, 0)), (44, (.iinc 4 1, 0, 0)), (47, (.goto (-32), 15, 0)), (50, (.aload_n 0, 0, 0)), (51, (.aload_n 0, 0, 0)), (52, (.getfield 42, 12, 22)), (55, (.iload_n 2, 0, 0)), (56, (.invokevirtual 272, 222, 2)), (59, (.iconst 0, 0, 0)), (60, (.istore 4, 0, 0)), (62, (.iload 4, 0, 0)), (64, (.aload_n 0, 0, 0)), (65, (.getfield 116, 12, 1)), (68, (.if_icmp .ge 28, 96, 0)), (71, (.aload_n 0, 0, 0)), (72, (.getfield 42, 12, 22)), (75, (.bipush 12, 0, 0)), (77, (.iload 4, 0, 0)), (79, (.iadd, 0, 0)), (80, (.iaload, 0, 0)), (81, (.invokestatic 327, 0, 1003)), (84, (.iload_n 3, 0, 0)), (85, (.if_icmp .le 5, 90, 0)), (88, (.iconst 0, 0, 0)), (89, (.ireturn, 1, 0)), (90, (.iinc 4 1, 0, 0)), (93, (.goto (-31), 62, 0)), (96, (.iconst 1, 0, 0)), (97, (.ireturn, 1, 0))]
/-- TypeAtNightModel.blows(II)I -/
def k_252 : List (Nat × tm_N) := [(0, (.aload_n 0, 0, 0)), (1, (.iconst 0, 0, 0)), (2, (.putfield 100, 12, 7)), (5, (.iload_n 1, 0, 0)), (6, (.iconst 0, 0, 0)), (7, (.bipush 20, 0, 0)), (9, (.invokestatic 119, 178, 3)), (12, (.ifCond .eq 13, 25, 0)), (15, (.iload_n 2, 0, 0)), (16, (.iconst 0, 0, 0)), (17, (.bipush 9, 0, 0)), (19, (.invokestatic 119, 178, 3)), (22, (.ifCond .ne 5, 27, 0)), (25, (.iconst (-1), 0, 0)), (26, (.ireturn, 0, 0)), (27, (.iconst 0, 0, 0)), (28, (.istore_n 3, 0, 0)), (29, (.iload_n 3, 0, 0)), (30, (.aload_n 0, 0, 0)), (31, (.getfield 116, 12, 1)), (34, (.if_icmp .gt 64, 98, 0)), (37, (.iconst 0, 0, 0)), (38, (.istore 4, 0, 0)), (40, (.iload 4, 0, 0)), (42, (.aload_n 0, 0, 0)), (43, (.invokevirtual 276, 184, 0)), (46, (.if_icmp .gt 46, 92, 0)), (49, (.iload 4, 0, 0)), (51, (.invokestatic 302, 289, 1)), (54, (.iload_n 3, 0, 0)), (55, (.if_icmp .ne 31, 86, 0)), (58, (.aload_n 0, 0, 0)), (59, (.iload 4, 0, 0)), (61, (.iload_n 1, 0, 0)), (62, (.iload_n 2, 0, 0)), (63, (.invokevirtual 330, 251, 3)), (66, (.ifCond .ne 6, 72, 0)), (69, (.goto 17, 86, 0)), (72, (.aload_n 0, 0, 0)), (73, (.iconst 0, 0, 0)), (74, (.putfield 113, 12, 6)), (77, (.aload_n 0, 0, 0)), (78, (.iload 4, 0, 0)), (80, (.i2l, 0, 0)), (81, (.invokevirtual 265, 182, 1)), (84, (.iload_n 3, 0, 0)), (85, (.ireturn, 0, 0)), (86, (.iinc 4 1, 0, 0)), (89, (.goto (-49), 40, 0)), (92, (.iinc 3 1, 0, 0)), (95, (.goto (-66), 29, 0)), (98, (.bipush (-2), 0, 0)), (100, (.ireturn, 0, 0))]
/-- TypeAtNightModel.canBox(II)Z -/
def k_253 : List (Nat × tm_N) := [(0, (.iload_n 1, 0, 0)), (1, (.bipush 8, 0, 0)), (3, (.if_icmp .ne 5, 8, 0)), (6, (.iconst 1, 0, 0)), (7, (.ireturn, 1, 0)), (8, (.iconst 0, 0, 0)), (9, (.istore_n 3, 0, 0)), (10, (.iload_n 3, 0, 0)), (11, (.iload_n 2, 0, 0)), (12, (.if_icmp .ge 92, 104, 0)), (15, (.iconst 1, 0, 0)), (16, (.istore 4, 0, 0)), (18, (.iconst 0, 0, 0)), (19, (.istore 5, 0, 0)), (21, (.iload 5, 0, 0)), (23, (.iload_n 1, 0, 0)), (24, (.if_icmp .ge 46, 70, 0)), (27, (.iload 4, 0, 0)), (29, (.ifCond .eq 32, 61, 0)), (32, (.aload_n 0, 0, 0)), (33, (.getfield 63, 12, 31)), (36, (.iload_n 1, 0, 0)), (37, (.iaload, 0, 0)), (38, (.iload 5, 0, 0)), (40, (.invokestatic 226, 179, 2)), (43, (.ifCond .eq 14, 57, 0)), (46, (.aload_n 0, 0, 0)), (47, (.getfield 66, 12, 32)), (50, (.iload 5, 0, 0)), (52, (.iaload, 0, 0)), (53, (.iload_n 3, 0, 0)), (54, (.if_icmp .eq 7, 61, 0)), (57, (.iconst 1, 0, 0)), (58, (.goto 4, 62, 0)), (61, (.iconst 0, 0, 0)), (62, (.istore 4, 0, 0)), (64, (.iinc 5 1, 0, 0)), (67, (.goto (-46), 21, 0)), (70, (.iload 4, 0, 0)), (72, (.ifCond .ne 6, 78, 0)), (75, (.goto 23, 98, 0)), (78, (.aload_n 0, 0, 0)), (79, (.getfield 66, 12, 32)), (82, (.iload_n 1, 0, 0)), (83, (.iload_n 3, 0, 0)), (84, (.iastore, 0, 0)), (85, (.aload_n 0, 0, 0)), (86, (.iload_n 1, 0, 0)), (87, (.iconst 1, 0, 0)), (88, (.iadd, 0, 0)), (89, (.iload_n 2, 0, 0)), (90, (.invokevirtual 333, 253, 2)), (93, (.ifCond .eq 5, 98, 0)), (96, (.iconst 1, 0, 0)), (97, (.ireturn, 1, 0)), (98, (.iinc 3 1, 0, 0)), (101, (.goto (-91), 10, 0)), (104, (.iconst 0, 0, 0)), (105, (.ireturn, 1, 0))]
/-- TypeAtNightModel.parts()I -/
def k_254 : List (Nat × tm_N) := [(0, (.aload_n 0, 0, 0)), (1, (.iconst 0, 0, 0)), (2, (.putfield 100, 12, 7)), (5, (.aload_n 0, 0, 0)), (6, (.bipush 59, 0, 0)), (8, (.invokevirtual 165, 188, 1)), (11, (.iconst 0, 0, 0)), (12, (.istore_n 1, 0, 0)), (13, (.iload_n 1, 0, 0)), (14, (.bipush 8, 0, 0)), (16, (.if_icmp .ge 16, 32, 0)), (19, (.aload_n 0, 0, 0)), (20, (.getfield 63, 12, 31)), (23, (.iload_n 1, 0, 0)), (24, (.iconst 0, 0, 0)), (25, (.iastore, 0, 0)), (26, (.iinc 1 1, 0, 0)), (29, (.goto (-16), 13, 0)), (32, (.aload_n 0, 0, 0)), (33, (.getfield 129, 12, 9)), (36, (.ifCond .le 7, 43, 0)), (39, (.iconst 1, 0, 0)), (40, (.goto 4, 44, 0)), (43, (.iconst 0, 0, 0)), (44, (.istore_n 1, 0, 0)), (45, (.iload_n 1, 0, 0)), (46, (.ifCond .eq 95, 141, 0)), (49, (.aload_n 0, 0, 0)), (50, (.invokevirtual 145, 190, 0)), (53, (.ifCond .eq 88, 141, 0)), (56, (.aload_n 0, 0, 0)), (57, (.bipush 97, 0, 0)), (59, (.bipush 8, 0, 0)), (61, (.invokevirtual 161, 194, 2)), (64, (.istore_n 2, 0, 0)), (65, (.aload_n 0, 0, 0)), (66, (.invokevirtual 145, 190, 0)), (69, (.ifCond .eq 22, 91, 0)), (72, (.aload_n 0, 0, 0)), (73, (.invokevirtual 149, 189, 0)), (76, (.bipush 97, 0, 0)), (78, (.iload_n 2, 0, 0)), (79, (.iadd, 0, 0)), (80, (.if_icmp .ne 11, 91, 0)), (83, (.aload_n 0, 0, 0)), (84, (.aload_n 0, 0, 0)), (85, (.getfield 135, 12, 11)), (88, (.invokevirtual 157, 191, 1)), (91, (.aload_n 0, 0, 0)), (92, (.bipush 97, 0, 0)), (94, (.bipush 8, 0, 0)), (96, (.invokevirtual 161, 194, 2)), (99, (.istore_n 3, 0, 0)), (100, (.aload_n 0, 0, 0)), (101, (.invokevirtual 145, 190, 0)), (104, (.ifCond .eq 27, 131, 0)), (107, (.aload_n 0, 0, 0)), (108, (.getfield 63, 12, 31)), (111, (.iload_n 2, 0, 0)), (112, (.dup2, 0, 0)), (113, (.iaload, 0, 0)), (114, (.iconst 1, 0, 0)), (115, (.iload_n 3, 0, 0)), (116, (.ishl, 0, 0)), (117, (.ior, 0, 0)), (118, (.iastore, 0, 0)), (119, (.aload_n 0, 0, 0)), (120, (.getfield 63, 12, 31)), (123, (.iload_n 3, 0, 0)), (124, (.dup2, 0, 0)), (125, (.iaload, 0, 0)), (126, (.iconst 1, 0, 0)), (127, (.iload_n 2, 0, 0)), (128, (.ishl, 0, 0)), (129, (.ior, 0, 0)), (130, (.iastore, 0, 0)), (131, (.aload_n 0, 0, 0)), (132, (.bipush 59, 0, 0)), (134, (.invokevirtual 153, 192, 1)), (137, (.istore_n 1, 0, 0)), (138, (.goto (-93), 45, 0)), (141, (.aload_n 0, 0, 0)), (142, (.invokevirtual 171, 196, 0)), (145, (.ifCond .ne 10, 155, 0)), (148, (.iconst (-1), 0, 0)), (149, (.aload_n 0, 0, 0)), (150, (.getfield 138, 12, 12)), (153, (.isub, 0, 0)), (154, (.ireturn, 0, 0)), (155, (.iconst 1, 0, 0)), (156, (.istore_n 2, 0, 0)), (157, (.aload_n 0, 0, 0)), (158, (.iconst 0, 0, 0)), (159, (.iload_n 2, 0, 0)), (160, (.invokevirtual 333, 253, 2)), (163, (.ifCond .ne 9, 172, 0)), (166, (.iinc 2 1, 0, 0)), (169, (.goto (-12), 157, 0)), (172, (.aload_n 0, 0, 0)), (173, (.iconst 0, 0, 0)), (174, (.putfield 113, 12, 6)), (177, (.iconst 0, 0, 0)), (178, (.istore_n 3, 0, 0)), (179, (.iload_n 3, 0, 0)), (180, (.bipush 8, 0, 0)), (182, (.if_icmp .ge 20, 202, 0)), (185, (.aload_n 0, 0, 0)), (186, (.aload_n 0, 0, 0)), (187, (.getfield 66, 12, 32)), (190, (.iload_n 3, 0, 0)), (191, (.iaload, 0, 0)), (192, (.i2l, 0, 0)), (193, (.invokevirtual 265, 182, 1)), (196, (.iinc 3 1, 0, 0)), (199, (.goto (-20), 179, 0)), (202, (.iload_n 2, 0, 0)), (203, (.ireturn, 0, 0))]
/-- TypeAtNightModel.mixed()I -/
def k_255 : List (Nat × tm_N) := [(0, (.aload_n 0, 0, 0)), (1, (.iconst 0, 0, 0)), (2, (.putfield 100, 12, 7)), (5, (.iconst 0, 0, 0)), (6, (.istore_n 1, 0, 0)), (7, (.iconst 0, 0, 0)), (8, (.istore_n 2, 0, 0)), (9, (.iload_n 2, 0, 0)), (10, (.aload_n 0, 0, 0)), (11, (.getfield 116, 12, 1)), (14, (.if_icmp .ge 72, 86, 0)), (17, (.iconst 0, 0, 0)), (18, (.istore_n 3, 0, 0)), (19, (.iload_n 3, 0, 0)), (20, (.iload_n 2, 0, 0)), (21, (.if_icmp .ge 59, 80, 0)), (24, (.aload_n 0, 0, 0)), (25, (.getfield 9, 12, 0)), (28, (.bipush 24, 0, 0)), (30, (.iload_n 2, 0, 0)), (31, (.iadd, 0, 0)), (32, (.iaload, 0, 0)), (33, (.aload_n 0, 0, 0)), (34, (.getfield 9, 12, 0)), (37, (.bipush 24, 0, 0)), (39, (.iload_n 3, 0, 0)), (40, (.iadd, 0, 0)), (41, (.iaload, 0, 0)), (42, (.if_icmp .ne 32, 74, 0)), (45, (.aload_n 0, 0, 0)), (46, (.getfield 13, 12, 2)), (49, (.iload_n 2, 0, 0)), (50, (.iaload, 0, 0)), (51, (.aload_n 0, 0, 0)), (52, (.getfield 13, 12, 2)), (55, (.iload_n 3, 0, 0)), (56, (.iaload, 0, 0)), (57, (.if_icmp .eq 17, 74, 0)), (60, (.iload_n 1, 0, 0)), (61, (.iconst 1, 0, 0)), (62, (.aload_n 0, 0, 0)), (63, (.getfield 9, 12, 0)), (66, (.bipush 24, 0, 0)), (68, (.iload_n 2, 0, 0)), (69, (.iadd, 0, 0)), (70, (.iaload, 0, 0)), (71, (.ishl, 0, 0)), (72, (.ior, 0, 0)), (73, (.istore_n 1, 0, 0)), (74, (.iinc 3 1, 0, 0)), (77, (.goto (-58), 19, 0)), (80, (.iinc 2 1, 0, 0)), (83, (.goto (-74), 9, 0)), (86, (.aload_n 0, 0, 0)), (87, (.iconst 0, 0, 0)), (88, (.putfield 113, 12, 6)), (91, (.aload_n 0, 0, 0)), (92, (.iload_n 1, 0, 0)), (93, (.i2l, 0, 0)), (94, (.invokevirtual 265, 182, 1)), (97, (.aload_n 0, 0, 0)), (98, (.getfield 116, 12, 1)), (101, (.aload_n 0, 0, 0)), (102, (.aload_n 0, 0, 0)), (103, (.getfield 9, 12, 0)), (106, (.invokevirtual 279, 223, 1)), (109, (.isub, 0, 0)), (110, (.ireturn, 0, 0))]
/-- TypeAtNightModel.rubs()I -/
def k_256 : List (Nat × tm_N) := [(0, (.aload_n 0, 0, 0)), (1, (.iconst 0, 0, 0)), (2, (.putfield 100, 12, 7)), (5, (.iconst (-1), 0, 0)), (6, (.istore_n 1, 0, 0)), (7, (.iconst (-1), 0, 0)), (8, (.istore_n 2, 0, 0)), (9, (.iconst (-1), 0, 0)), (10, (.istore_n 3, 0, 0)), (11, (.iconst 0, 0, 0)), (12, (.istore 4, 0, 0)), (14, (.iload 4, 0, 0)), (16, (.aload_n 0, 0, 0)), (17, (.getfield 116, 12, 1)), (20, (.if_icmp .ge 115, 135, 0)), (23, (.iload 4, 0, 0)), (25, (.iconst 1, 0, 0)), (26, (.iadd, 0, 0)), (27, (.istore 5, 0, 0)), (29, (.iload 5, 0, 0)), (31, (.aload_n 0, 0, 0)), (32, (.getfield 116, 12, 1)), (35, (.if_icmp .ge 94, 129, 0)), (38, (.aload_n 0, 0, 0)), (39, (.getfield 9, 12, 0)), (42, (.bipush 24, 0, 0)), (44, (.iload 4, 0, 0)), (46, (.iadd, 0, 0)), (47, (.iaload, 0, 0)), (48, (.aload_n 0, 0, 0)), (49, (.getfield 9, 12, 0)), (52, (.bipush 24, 0, 0)), (54, (.iload 5, 0, 0)), (56, (.iadd, 0, 0)), (57, (.iaload, 0, 0)), (58, (.if_icmp .ne 65, 123, 0)), (61, (.aload_n 0, 0, 0)), (62, (.getfield 9, 12, 0)), (65, (.bipush 12, 0, 0)), (67, (.iload 4, 0, 0)), (69, (.iadd, 0, 0)), (70, (.iaload, 0, 0)), (71, (.aload_n 0, 0, 0)), (72, (.getfield 9, 12, 0)), (75, (.bipush 12, 0, 0)), (77, (.iload 5, 0, 0)), (79, (.iadd, 0, 0)), (80, (.iaload, 0, 0)), (81, (.isub, 0, 0)), (82, (.invokestatic 327, 0, 1003)), (85, (.iload_n 1, 0, 0)), (86, (.if_icmp .gt 6, 92, 0)), (89, (.goto 34, 123, 0)), (92, (.aload_n 0, 0, 0)), (93, (.getfield 9, 12, 0)), (96, (.bipush 12, 0, 0)), (98, (.iload 4, 0, 0)), (100, (.iadd, 0, 0)), (101, (.iaload, 0, 0)), (102, (.aload_n 0, 0, 0)), (103, (.getfield 9, 12, 0)), (106, (.bipush 12, 0, 0)), (108, (.iload 5, 0, 0)), (110, (.iadd, 0, 0)), (111, (.iaload, 0, 0)), (112, (.isub, 0, 0)), (113, (.invokestatic 327, 0, 1003)), (116, (.istore_n 1, 0, 0)), (117, (.iload 4, 0, 0)), (119, (.istore_n 2, 0, 0)), (120, (.iload 5, 0, 0)), (122, (.istore_n 3, 0, 0)), (123, (.iinc 5 1, 0, 0)), (126, (.goto (-97), 29, 0)), (129, (.iinc 4 1, 0, 0)), (132, (.goto (-118), 14, 0)), (135, (.iload_n 2, 0, 0)), (136, (.iconst (-1), 0, 0)), (137, (.if_icmp .ne 6, 143, 0)), (140, (.bipush (-2), 0, 0)), (142, (.ireturn, 0, 0)), (143, (.aload_n 0, 0, 0)), (144, (.iconst 0, 0, 0)), (145, (.putfield 113, 12, 6)), (148, (.aload_n 0, 0, 0)), (149, (.iload_n 2, 0, 0)), (150, (.i2l, 0, 0)), (151, (.invokevirtual 265, 182, 1)), (154, (.aload_n 0, 0, 0)), (155, (.iload_n 3, 0, 0)), (156, (.i2l, 0, 0)), (157, (.invokevirtual 265, 182, 1)), (160, (.iload_n 1, 0, 0)), (161, (.ireturn, 0, 0))]
/-- TypeAtNightModel.isChord(I)Z -/
def k_257 : List (Nat × tm_N) := [(0, (.iload_n 1, 0, 0)), (1, (.aload_n 0, 0, 0)), (2, (.getfield 9, 12, 0)), (5, (.bipush 36, 0, 0)), (7, (.iaload, 0, 0)), (8, (.iand, 0, 0)), (9, (.ifCond .eq 5, 14, 0)), (12, (.iconst 0, 0, 0)), (13, (.ireturn, 1, 0)), (14, (.iconst 0, 0, 0)), (15, (.istore_n 2, 0, 0)), (16, (.iload_n 2, 0, 0)), (17, (.bipush 8, 0, 0)), (19, (.if_icmp .ge 25, 44, 0)), (22, (.iload_n 1, 0, 0)), (23, (.aload_n 0, 0, 0)), (24, (.iload_n 2, 0, 0)), (25, (.invokevirtual 308, 236, 1)), (28, (.iand, 0, 0)), (29, (.invokestatic 302, 289, 1)), (32, (.iconst 1, 0, 0)), (33, (.if_icmp .le 5, 38, 0)), (36, (.iconst 0, 0, 0)), (37, (.ireturn, 1, 0)), (38, (.iinc 2 1, 0, 0)), (41, (.goto (-25), 16, 0)), (44, (.iconst 1, 0, 0)), (45, (.ireturn, 1, 0))]
/-- TypeAtNightModel.chord(I)I -/
def k_258 : List (Nat × tm_N) := [(0, (.aload_n 0, 0, 0)), (1, (.iconst 0, 0, 0)), (2, (.putfield 100, 12, 7)), (5, (.iload_n 1, 0, 0)), (6, (.bipush (-72), 0, 0)), (8, (.bipush 72, 0, 0)), (10, (.invokestatic 119, 178, 3)), (13, (.ifCond .ne 6, 19, 0)), (16, (.bipush (-100), 0, 0)), (18, (.ireturn, 0, 0)), (19, (.iconst (-1), 0, 0)), (20, (.istore_n 2, 0, 0)), (21, (.iconst 0, 0, 0)), (22, (.istore_n 3, 0, 0)), (23, (.iload_n 3, 0, 0)), (24, (.aload_n 0, 0, 0)), (25, (.invokevirtual 276, 184, 0)), (28, (.if_icmp .gt 51, 79, 0)), (31, (.iload_n 2, 0, 0)), (32, (.iconst (-1), 0, 0)), (33, (.if_icmp .eq 14, 47, 0)), (36, (.iload_n 3, 0, 0)), (37, (.invokestatic 302, 289, 1)), (40, (.iload_n 2, 0, 0)), (41, (.invokestatic 302, 289, 1)), (44, (.if_icmp .le 29, 73, 0)), (47, (.aload_n 0, 0, 0)), (48, (.aload_n 0, 0, 0)), (49, (.getfield 9, 12, 0)), (52, (.iload_n 3, 0, 0)), (53, (.invokevirtual 233, 209, 2)), (56, (.iload_n 1, 0, 0)), (57, (.if_icmp .ne 16, 73, 0)), (60, (.aload_n 0, 0, 0)), (61, (.iload_n 3, 0, 0)), (62, (.invokevirtual 336, 257, 1)), (65, (.ifCond .ne 6, 71, 0)), (68, (.goto 5, 73, 0)), (71, (.iload_n 3, 0, 0)), (72, (.istore_n 2, 0, 0)), (73, (.iinc 3 1, 0, 0)), (76, (.goto (-53), 23, 0)), (79, (.iload_n 2, 0, 0)), (80, (.iconst (-1), 0, 0)), (81, (.if_icmp .ne 6, 87, 0)), (84, (.bipush (-2), 0, 0)), (86, (.ireturn, 0, 0)), (87, (.aload_n 0, 0, 0)), (88, (.iconst 0, 0, 0)), (89, (.putfield 113, 12, 6)), (92, (.aload_n 0, 0, 0)), (93, (.iload_n 2, 0, 0)), (94, (.i2l, 0, 0)), (95, (.invokevirtual 265, 182, 1)), (98, (.iload_n 2, 0, 0)), (99, (.invokestatic 302, 289, 1)), (102, (.ireturn, 0, 0))]
/-- TypeAtNightModel.highOf(I)I -/
def k_259 : List (Nat × tm_N) := [(0, (.iload_n 0, 0, 0)), (1, (.ifCond .eq 8, 9, 0)), (4, (.iload_n 0, 0, 0)), (5, (.iconst 3, 0, 0)), (6, (.if_icmp .ne 8, 14, 0)), (9, (.bipush 7, 0, 0)), (11, (.goto 14, 25, 0)), (14, (.iload_n 0, 0, 0)), (15, (.iconst 2, 0, 0)), (16, (.if_icmp .ne 7, 23, 0)), (19, (.iconst 1, 0, 0)), (20, (.goto 5, 25, 0)), (23, (.bipush 9, 0, 0)), (25, (.ireturn, 0, 0))]
/-- TypeAtNightModel.heard(II)I -/
def k_260 : List (Nat × tm_N) := [(0, (.aload_n 0, 0, 0)), (1, (.iconst 0, 0, 0)), (2, (.putfield 100, 12, 7)), (5, (.iload_n 1, 0, 0)), (6, (.iconst 0, 0, 0)), (7, (.iconst 4, 0, 0)), (8, (.invokestatic 119, 178, 3)), (11, (.ifCond .eq 24, 35, 0)), (14, (.iload_n 2, 0, 0)), (15, (.iconst 0, 0, 0)), (16, (.iload_n 1, 0, 0)), (17, (.invokestatic 339, 259, 1)), (20, (.invokestatic 119, 178, 3)), (23, (.ifCond .eq 12, 35, 0)), (26, (.aload_n 0, 0, 0)), (27, (.getfield 342, 12, 35)), (30, (.bipush 12, 0, 0)), (32, (.if_icmp .ne 5, 37, 0)), (35, (.iconst (-1), 0, 0)), (36, (.ireturn, 0, 0)), (37, (.aload_n 0, 0, 0)), (38, (.getfield 69, 12, 33)), (41, (.aload_n 0, 0, 0)), (42, (.getfield 342, 12, 35)), (45, (.iload_n 1, 0, 0)), (46, (.iastore, 0, 0)), (47, (.aload_n 0, 0, 0)), (48, (.getfield 72, 12, 34)), (51, (.aload_n 0, 0, 0)), (52, (.getfield 342, 12, 35)), (55, (.iload_n 2, 0, 0)), (56, (.iastore, 0, 0)), (57, (.aload_n 0, 0, 0)), (58, (.dup, 0, 0)), (59, (.getfield 342, 12, 35)), (62, (.iconst 1, 0, 0)), (63, (.iadd, 0, 0)), (64, (.putfield 342, 12, 35)), (67, (.aload_n 0, 0, 0)), (68, (.getfield 342, 12, 35)), (71, (.ireturn, 0, 0))]
/-- TypeAtNightModel.forget()I -/
def k_261 : List (Nat × tm_N) := [(0, (.aload_n 0, 0, 0)), (1, (.iconst 0, 0, 0)), (2, (.putfield 100, 12, 7)), (5, (.aload_n 0, 0, 0)), (6, (.getfield 342, 12, 35)), (9, (.istore_n 1, 0, 0)), (10, (.aload_n 0, 0, 0)), (11, (.iconst 0, 0, 0)), (12, (.putfield 342, 12, 35)), (15, (.iload_n 1, 0, 0)), (16, (.ireturn, 0, 0))]
/-- TypeAtNightModel.isSo(III)Z -/
def k_262 : List (Nat × tm_N) := [(0, (.iload_n 2, 0, 0)), (1, (.tableswitch 112 0 3 #[31, 47, 63, 93], 0, 0)), (32, (.aload_n 0, 0, 0)), (33, (.getfield 13, 12, 2)), (36, (.iload_n 1, 0, 0)), (37, (.iaload, 0, 0)), (38, (.iload_n 3, 0, 0)), (39, (.if_icmp .ne 7, 46, 0)), (42, (.iconst 1, 0, 0)), (43, (.goto 4, 47, 0)), (46, (.iconst 0, 0, 0)), (47, (.ireturn, 1, 0)), (48, (.aload_n 0, 0, 0)), (49, (.getfield 9, 12, 0)), (52, (.iload_n 1, 0, 0)), (53, (.iaload, 0, 0)), (54, (.iload_n 3, 0, 0)), (55, (.if_icmp .lt 7, 62, 0)), (58, (.iconst 1, 0, 0)), (59, (.goto 4, 63, 0)), (62, (.iconst 0, 0, 0)), (63, (.ireturn, 1, 0)), (64, (.aload_n 0, 0, 0)), (65, (.getfield 9, 12, 0)), (68, (.bipush 36, 0, 0)), (70, (.iaload, 0, 0)), (71, (.iload_n 1, 0, 0)), (72, (.invokestatic 226, 179, 2)), (75, (.iload_n 3, 0, 0)), (76, (.iconst 1, 0, 0)), (77, (.if_icmp .ne 7, 84, 0)), (80, (.iconst 1, 0, 0)), (81, (.goto 4, 85, 0)), (84, (.iconst 0, 0, 0)), (85, (.if_icmp .ne 7, 92, 0)), (88, (.iconst 1, 0, 0)), (89, (.goto 4, 93, 0)), (92, (.iconst 0, 0, 0)), (93, (.ireturn, 1, 0)), (94, (.aload_n 0, 0, 0)), (95, (.getfield 9, 12, 0)), (98, (.bipush 24, 0, 0)), (100, (.iload_n 1, 0, 0)), (101, (.iadd, 0, 0)), (102, (.iaload, 0, 0)), (103, (.iload_n 3, 0, 0)), (104, (.if_icmp .ne 7, 111, 0)), (107, (.iconst 1, 0, 0)), (108, (.goto 4, 112, 0)), (111, (.iconst 0, 0, 0)), (112, (.ireturn, 1, 0)), (113, (.aload_n 0, 0, 0)), (114, (.getfield 9, 12, 0)), (117, (.bipush 12, 0, 0)), (119, (.iload_n 1, 0, 0)), (120, (.iadd, 0, 0)), (121, (.iaload, 0, 0)), (122, (.iload_n 3, 0, 0)), (123, (.if_icmp .lt 7, 130, 0)), (126, (.iconst 1, 0, 0)), (127, (.goto 4, 131, 0)), (130, (.iconst 0, 0, 0)), (131, (.ireturn, 1, 0))]
/-- TypeAtNightModel.fitting()I -/
def k_263 : List (Nat × tm_N) := [(0, (.iconst 0, 0, 0)), (1, (.istore_n 1, 0, 0)), (2, (.iconst 0, 0, 0)), (3, (.istore_n 2, 0, 0)), (4, (.iload_n 2, 0, 0)), (5, (.aload_n 0, 0, 0)), (6, (.getfield 116, 12, 1)), (9, (.if_icmp .ge 75, 84, 0)), (12, (.iconst 1, 0, 0)), (13, (.istore_n 3, 0, 0)), (14, (.iconst 0, 0, 0)), (15, (.istore 4, 0, 0)), (17, (.iload 4, 0, 0)), (19, (.aload_n 0, 0, 0)), (20, (.getfield 342, 12, 35)), (23, (.if_icmp .ge 41, 64, 0)), (26, (.iload_n 3, 0, 0)), (27, (.ifCond .eq 29, 56, 0)), (30, (.aload_n 0, 0, 0)), (31, (.iload_n 2, 0, 0)), (32, (.aload_n 0, 0, 0)), (33, (.getfield 69, 12, 33)), (36, (.iload 4, 0, 0)), (38, (.iaload, 0, 0)), (39, (.aload_n 0, 0, 0)), (40, (.getfield 72, 12, 34)), (43, (.iload 4, 0, 0)), (45, (.iaload, 0, 0)), (46, (.invokevirtual 345, 262, 3)), (49, (.ifCond .eq 7, 56, 0)), (52, (.iconst 1, 0, 0)), (53, (.goto 4, 57, 0)), (56, (.iconst 0, 0, 0)), (57, (.istore_n 3, 0, 0)), (58, (.iinc 4 1, 0, 0)), (61, (.goto (-44), 17, 0)), (64, (.iload_n 1, 0, 0)), (65, (.iload_n 3, 0, 0)), (66, (.ifCond .eq 9, 75, 0)), (69, (.iconst 1, 0, 0)), (70, (.iload_n 2, 0, 0)), (71, (.ishl, 0, 0)), (72, (.goto 4, 76, 0)), (75, (.iconst 0, 0, 0)), (76, (.ior, 0, 0)), (77, (.istore_n 1, 0, 0)), (78, (.iinc 2 1, 0, 0)), (81, (.goto (-77), 4, 0)), (84, (.iload_n 1, 0, 0)), (85, (.ireturn, 0, 0))]
/-- TypeAtNightModel.fits()I -/
def k_264 : List (Nat × tm_N) := [(0, (.aload_n 0, 0, 0)), (1, (.iconst 0, 0, 0)), (2, (.putfield 100, 12, 7)), (5, (.aload_n 0, 0, 0)), (6, (.invokevirtual 348, 263, 0)), (9, (.istore_n 1, 0, 0)), (10, (.aload_n 0, 0, 0)), (11, (.iconst 0, 0, 0)), (12, (.putfield 113, 12, 6)), (15, (.aload_n 0, 0, 0)), (16, (.iload_n 1, 0, 0)), (17, (.invokestatic 302, 289, 1)), (20, (.i2l, 0, 0)), (21, (.invokevirtual 265, 182, 1)), (24, (.iload_n 1, 0, 0)), (25, (.ireturn, 0, 0))]
/-- TypeAtNightModel.asks()I -/
def k_265 : List (Nat × tm_N) := [(0, (.aload_n 0, 0, 0)), (1, (.iconst 0, 0, 0)), (2, (.putfield 100, 12, 7)), (5, (.aload_n 0, 0, 0)), (6, (.invokevirtual 348, 263, 0)), (9, (.istore_n 1, 0, 0)), (10, (.iload_n 1, 0, 0)), (11, (.ifCond .ne 6, 17, 0)), (14, (.bipush (-2), 0, 0)), (16, (.ireturn, 0, 0)), (17, (.iconst (-1), 0, 0)), (18, (.istore_n 2, 0, 0)), (19, (.ldc_w 307, 1000000, 0)), (22, (.istore_n 3, 0, 0)), (23, (.iconst 0, 0, 0)), (24, (.istore 4, 0, 0)), (26, (.iload 4, 0, 0)), (28, (.bipush 50, 0, 0)), (30, (.if_icmp .ge 116, 146, 0)), (33, (.iload 4, 0, 0)), (35, (.bipush 10, 0, 0)), (37, (.irem, 0, 0)), (38, (.iload 4, 0, 0)), (40, (.bipush 10, 0, 0)), (42, (.idiv, 0, 0)), (43, (.invokestatic 339, 259, 1)), (46, (.if_icmp .le 6, 52, 0)), (49, (.goto 91, 140, 0)), (52, (.iconst 0, 0, 0)), (53, (.istore 5, 0, 0)), (55, (.iconst 0, 0, 0)), (56, (.istore 6, 0, 0)), (58, (.iload 6, 0, 0)), (60, (.aload_n 0, 0, 0)), (61, (.getfield 116, 12, 1)), (64, (.if_icmp .ge 47, 111, 0)), (67, (.iload 5, 0, 0)), (69, (.iload_n 1, 0, 0)), (70, (.iload 6, 0, 0)), (72, (.invokestatic 226, 179, 2)), (75, (.ifCond .eq 26, 101, 0)), (78, (.aload_n 0, 0, 0)), (79, (.iload 6, 0, 0)), (81, (.iload 4, 0, 0)), (83, (.bipush 10, 0, 0)), (85, (.idiv, 0, 0)), (86, (.iload 4, 0, 0)), (88, (.bipush 10, 0, 0)), (90, (.irem, 0, 0)), (91, (.invokevirtual 345, 262, 3)), (94, (.ifCond .eq 7, 101, 0)), (97, (.iconst 1, 0, 0)), (98, (.goto 4, 102, 0)), (101, (.iconst 0, 0, 0)), (102, (.iadd, 0, 0)), (103, (.istore 5, 0, 0)), (105, (.iinc 6 1, 0, 0)), (108, (.goto (-50), 58, 0)), (111, (.iload 5, 0, 0)), (113, (.iload_n 1, 0, 0)), (114, (.invokestatic 302, 289, 1)), (117, (.iload 5, 0, 0)), (119, (.isub, 0, 0)), (120, (.invokestatic 110, 0, 1001)), (123, (.istore 6, 0, 0)), (125, (.iload 6, 0, 0)), (127, (.iload_n 3, 0, 0)), (128, (.if_icmp .lt 6, 134, 0)), (131, (.goto 9, 140, 0)), (134, (.iload 4, 0, 0)), (136, (.istore_n 2, 0, 0)), (137, (.iload 6, 0, 0)), (139, (.istore_n 3, 0, 0)), (140, (.iinc 4 1, 0, 0)), (143, (.goto (-117), 26, 0)), (146, (.aload_n 0, 0, 0)), (147, (.iconst 0, 0, 0)), (148, (.putfield 113, 12, 6)), (151, (.aload_n 0, 0, 0)), (152, (.iload_n 3, 0, 0)), (153, (.i2l, 0, 0)), (154, (.invokevirtual 265, 182, 1)), (157, (.iload_n 2, 0, 0)), (158, (.ireturn, 0, 0))]
/-- TypeAtNightModel.isMood(I)Z -/
def k_266 : List (Nat × tm_N) := [(0, (.iload_n 0, 0, 0)), (1, (.bipush (-9), 0, 0)), (3, (.bipush 9, 0, 0)), (5, (.invokestatic 119, 178, 3)), (8, (.ireturn, 1, 0))]
/-- TypeAtNightModel.saw(III)I -/
def k_267 : List (Nat × tm_N) := [(0, (.aload_n 0, 0, 0)), (1, (.iconst 0, 0, 0)), (2, (.putfield 100, 12, 7)), (5, (.iload_n 1, 0, 0)), (6, (.invokestatic 351, 266, 1)), (9, (.ifCond .eq 26, 35, 0)), (12, (.iload_n 2, 0, 0)), (13, (.invokestatic 351, 266, 1)), (16, (.ifCond .eq 19, 35, 0)), (19, (.iload_n 3, 0, 0)), (20, (.invokestatic 351, 266, 1)), (23, (.ifCond .eq 12, 35, 0)), (26, (.aload_n 0, 0, 0)), (27, (.getfield 354, 12, 39)), (30, (.bipush 10, 0, 0)), (32, (.if_icmp .ne 5, 37, 0)), (35, (.iconst (-1), 0, 0)), (36, (.ireturn, 0, 0)), (37, (.aload_n 0, 0, 0)), (38, (.getfield 75, 12, 36)), (41, (.aload_n 0, 0, 0)), (42, (.getfield 354, 12, 39)), (45, (.iload_n 1, 0, 0)), (46, (.iastore, 0, 0)), (47, (.aload_n 0, 0, 0)), (48, (.getfield 78, 12, 37)), (51, (.aload_n 0, 0, 0)), (52, (.getfield 354, 12, 39)), (55, (.iload_n 2, 0, 0)), (56, (.iastore, 0, 0)), (57, (.aload_n 0, 0, 0)), (58, (.getfield 81, 12, 38)), (61, (.aload_n 0, 0, 0)), (62, (.getfield 354, 12, 39)), (65, (.iload_n 3, 0, 0)), (66, (.iastore, 0, 0)), (67, (.aload_n 0, 0, 0)), (68, (.dup, 0, 0)), (69, (.getfield 354, 12, 39)), (72, (.iconst 1, 0, 0)), (73, (.iadd, 0, 0)), (74, (.putfield 354, 12, 39)), (77, (.aload_n 0, 0, 0)), (78, (.getfield 354, 12, 39)), (81, (.ireturn, 0, 0))]
/-- TypeAtNightModel.denies()I -/
def k_268 : List (Nat × tm_N) := [(0, (.aload_n 0, 0, 0)), (1, (.iconst 0, 0, 0)), (2, (.putfield 100, 12, 7)), (5, (.aload_n 0, 0, 0)), (6, (.getfield 354, 12, 39)), (9, (.istore_n 1, 0, 0)), (10, (.aload_n 0, 0, 0)), (11, (.iconst 0, 0, 0)), (12, (.putfield 354, 12, 39)), (15, (.iload_n 1, 0, 0)), (16, (.ireturn, 0, 0))]
/-- TypeAtNightModel.becomes(III)I -/
def k_269 : List (Nat × tm_N) := [(0, (.iload_n 1, 0, 0)), (1, (.iload_n 0, 0, 0)), (2, (.iconst 5, 0, 0)), (3, (.idiv, 0, 0)), (4, (.iload_n 2, 0, 0)), (5, (.iload_n 1, 0, 0)), (6, (.isub, 0, 0)), (7, (.imul, 0, 0)), (8, (.iload_n 0, 0, 0)), (9, (.iconst 5, 0, 0)), (10, (.irem, 0, 0)), (11, (.iconst 1, 0, 0)), (12, (.iadd, 0, 0)), (13, (.idiv, 0, 0)), (14, (.iadd, 0, 0)), (15, (.invokestatic 212, 180, 1)), (18, (.ireturn, 0, 0))]
/-- TypeAtNightModel.isLaw(I)Z -/
def k_270 : List (Nat × tm_N) := [(0, (.iconst 0, 0, 0)), (1, (.istore_n 2, 0, 0)), (2, (.iload_n 2, 0, 0)), (3, (.aload_n 0, 0, 0)), (4, (.getfield 354, 12, 39)), (7, (.if_icmp .ge 36, 43, 0)), (10, (.iload_n 1, 0, 0)), (11, (.aload_n 0, 0, 0)), (12, (.getfield 75, 12, 36)), (15, (.iload_n 2, 0, 0)), (16, (.iaload, 0, 0)), (17, (.aload_n 0, 0, 0)), (18, (.getfield 78, 12, 37)), (21, (.iload_n 2, 0, 0)), (22, (.iaload, 0, 0)), (23, (.invokestatic 357, 269, 3)), (26, (.aload_n 0, 0, 0)), (27, (.getfield 81, 12, 38)), (30, (.iload_n 2, 0, 0)), (31, (.iaload, 0, 0)), (32, (.if_icmp .eq 5, 37, 0)), (35, (.iconst 0, 0, 0)), (36, (.ireturn, 1, 0)), (37, (.iinc 2 1, 0, 0)), (40, (.goto (-38), 2, 0)), (43, (.iconst 1, 0, 0)), (44, (.ireturn, 1, 0))]
/-- TypeAtNightModel.laws()I -/
def k_271 : List (Nat × tm_N) := [(0, (.aload_n 0, 0, 0)), (1, (.iconst 0, 0, 0)), (2, (.putfield 100, 12, 7)), (5, (.iconst 0, 0, 0)), (6, (.istore_n 1, 0, 0)), (7, (.aload_n 0, 0, 0)), (8, (.iconst 0, 0, 0)), (9, (.putfield 113, 12, 6)), (12, (.iconst 0, 0, 0)), (13, (.istore_n 2, 0, 0)), (14, (.iload_n 2, 0, 0)), (15, (.bipush 30, 0, 0)), (17, (.if_icmp .ge 45, 62, 0)), (20, (.aload_n 0, 0, 0)), (21, (.iload_n 2, 0, 0)), (22, (.invokevirtual 361, 270, 1)), (25, (.ifCond .ne 6, 31, 0)), (28, (.goto 28, 56, 0)), (31, (.iload_n 1, 0, 0)), (32, (.ifCond .ne 21, 53, 0)), (35, (.aload_n 0, 0, 0)), (36, (.iload_n 2, 0, 0)), (37, (.iconst 5, 0, 0)), (38, (.idiv, 0, 0)), (39, (.i2l, 0, 0)), (40, (.invokevirtual 265, 182, 1)), (43, (.aload_n 0, 0, 0)), (44, (.iload_n 2, 0, 0)), (45, (.iconst 5, 0, 0)), (46, (.irem, 0, 0)), (47, (.iconst 1, 0, 0)), (48, (.iadd, 0, 0)), (49, (.i2l, 0, 0)), (50, (.invokevirtual 265, 182, 1)), (53, (.iinc 1 1, 0, 0)), (56, (.iinc 2 1, 0, 0)), (59, (.goto (-45), 14, 0)), (62, (.iload_n 1, 0, 0)), (63, (.ireturn, 0, 0))]
/-- TypeAtNightModel.looks()I -/
def k_272 : List (Nat × tm_N) := [(0, (.aload_n 0, 0, 0)), (1, (.iconst 0, 0, 0)), (2, (.putfield 100, 12, 7)), (5, (.iconst (-1), 0, 0)), (6, (.istore_n 1, 0, 0)), (7, (.ldc_w 307, 1000000, 0)), (10, (.istore_n 2, 0, 0)), (11, (.bipush (-9), 0, 0)), (13, (.istore_n 3, 0, 0)), (14, (.iload_n 3, 0, 0)), (15, (.bipush 9, 0, 0)), (17, (.if_icmp .gt 145, 162, 0)), (20, (.bipush (-9), 0, 0)), (22, (.istore 4, 0, 0)), (24, (.iload 4, 0, 0)), (26, (.bipush 9, 0, 0)), (28, (.if_icmp .gt 128, 156, 0)), (31, (.iconst 0, 0, 0)), (32, (.istore 5, 0, 0)), (34, (.iload 5, 0, 0)), (36, (.bipush 18, 0, 0)), (38, (.if_icmp .gt 17, 55, 0)), (41, (.aload_n 0, 0, 0)), (42, (.getfield 84, 12, 40)), (45, (.iload 5, 0, 0)), (47, (.iconst 0, 0, 0)), (48, (.iastore, 0, 0)), (49, (.iinc 5 1, 0, 0)), (52, (.goto (-18), 34, 0)), (55, (.iconst 0, 0, 0)), (56, (.istore 5, 0, 0)), (58, (.iconst 0, 0, 0)), (59, (.istore 6, 0, 0)), (61, (.iload 6, 0, 0)), (63, (.bipush 30, 0, 0)), (65, (.if_icmp .ge 59, 124, 0)), (68, (.aload_n 0, 0, 0)), (69, (.iload 6, 0, 0)), (71, (.invokevirtual 361, 270, 1)), (74, (.ifCond .ne 6, 80, 0)), (77, (.goto 41, 118, 0)), (80, (.iload 6, 0, 0)), (82, (.iload_n 3, 0, 0)), (83, (.iload 4, 0, 0)), (85, (.invokestatic 357, 269, 3)), (88, (.bipush 9, 0, 0)), (90, (.iadd, 0, 0)), (91, (.istore 7, 0, 0)), (93, (.aload_n 0, 0, 0)), (94, (.getfield 84, 12, 40)), (97, (.iload 7, 0, 0)), (99, (.dup2, 0, 0)), (100, (.iaload, 0, 0)), (101, (.iconst 1, 0, 0)), (102, (.iadd, 0, 0)), (103, (.iastore, 0, 0)), (104, (.iload 5, 0, 0)), (106, (.aload_n 0, 0, 0)), (107, (.getfield 84, 12, 40)), (110, (.iload 7, 0, 0)), (112, (.iaload, 0, 0)), (113, (.invokestatic 110, 0, 1001)), (116, (.istore 5, 0, 0)), (118, (.iinc 6 1, 0, 0)), (121, (.goto (-60), 61, 0)), (124, (.iload 5, 0, 0)), (126, (.iload_n 2, 0, 0)), (127, (.if_icmp .lt 6, 133, 0)), (130, (.goto 20, 150, 0)), (133, (.bipush 19, 0, 0)), (135, (.bipush 9, 0, 0)), (137, (.iload_n 3, 0, 0)), (138, (.iadd, 0, 0)), (139, (.imul, 0, 0)), (140, (.bipush 9, 0, 0)), (142, (.iadd, 0, 0)), (143, (.iload 4, 0, 0)), (145, (.iadd, 0, 0)), (146, (.istore_n 1, 0, 0)), (147, (.iload 5, 0, 0)), (149, (.istore_n 2, 0, 0)), (150, (.iinc 4 1, 0, 0)), (153, (.goto (-129), 24, 0)), (156, (.iinc 3 1, 0, 0)), (159, (.goto (-145), 14, 0)), (162, (.iload_n 2, 0, 0)), (163, (.ifCond .ne 6, 169, 0)), (166, (.bipush (-2), 0, 0)), (168, (.ireturn, 0, 0)), (169, (.aload_n 0, 0, 0)), (170, (.iconst 0, 0, 0)), (171, (.putfield 113, 12, 6)), (174, (.aload_n 0, 0, 0)), (175, (.iload_n 2, 0, 0)), (176, (.i2l, 0, 0)), (177, (.invokevirtual 265, 182, 1)), (180, (.iload_n 1, 0, 0)), (181, (.ireturn, 0, 0))]
/-- TypeAtNightModel.common(JJ)J -/
def k_273 : List (Nat × tm_N) := [(0, (.lload_n 2, 0, 0)), (1, (.lconst 0, 0, 0)), (2, (.lcmp, 0, 0)), (3, (.ifCond .ne 7, 10, 0)), (6, (.lload_n 0, 0, 0)), (7, (.goto 10, 17, 0)), (10, (.lload_n 2, 0, 0)), (11, (.lload_n 0, 0, 0)), (12, (.lload_n 2, 0, 0)), (13, (.lrem, 0, 0)), (14, (.invokestatic 364, 273, 2)), (17, (.lreturn, 0, 0))]
/-- TypeAtNightModel.power(JI)J -/
def k_274 : List (Nat × tm_N) := [(0, (.lconst 1, 0, 0)), (1, (.lstore_n 3, 0, 0)), (2, (.iconst 0, 0, 0)), (3, (.istore 5, 0, 0)), (5, (.iload 5, 0, 0)), (7, (.iload_n 2, 0, 0)), (8, (.if_icmp .ge 13, 21, 0)), (11, (.lload_n 3, 0, 0)), (12, (.lload_n 0, 0, 0)), (13, (.lmul, 0, 0)), (14, (.lstore_n 3, 0, 0)), (15, (.iinc 5 1, 0, 0)), (18, (.goto (-13), 5, 0)), (21, (.lload_n 3, 0, 0)), (22, (.lreturn, 0, 0))]
/-- TypeAtNightModel.reads(I)I -/
def k_275 : List (Nat × tm_N) := [(0, (.aload_n 0, 0, 0)), (1, (.iconst 0, 0, 0)), (2, (.putfield 100, 12, 7)), (5, (.aload_n 0, 0, 0)), (6, (.invokevirtual 255, 216, 0)), (9, (.ifCond .ne 10, 19, 0)), (12, (.iconst (-1), 0, 0)), (13, (.aload_n 0, 0, 0)), (14, (.getfield 138, 12, 12)), (17, (.isub, 0, 0)), (18, (.ireturn, 0, 0)), (19, (.iload_n 1, 0, 0)), (20, (.iconst 0, 0, 0)), (21, (.bipush 10, 0, 0)), (23, (.invokestatic 119, 178, 3)), (26, (.ifCond .ne 6, 32, 0)), (29, (.bipush (-100), 0, 0)), (31, (.ireturn, 0, 0)), (32, (.aload_n 0, 0, 0)), (33, (.invokevirtual 258, 219, 0)), (36, (.iconst (-1), 0, 0)), (37, (.if_icmp .ne 6, 43, 0)), (40, (.bipush (-101), 0, 0)), (42, (.ireturn, 0, 0)), (43, (.bipush 10, 0, 0)), (45, (.iload_n 1, 0, 0)), (46, (.isub, 0, 0)), (47, (.i2l, 0, 0)), (48, (.aload_n 0, 0, 0)), (49, (.getfield 243, 12, 24)), (52, (.invokestatic 368, 274, 2)), (55, (.aload_n 0, 0, 0)), (56, (.getfield 243, 12, 24)), (59, (.iload_n 1, 0, 0)), (60, (.imul, 0, 0)), (61, (.i2l, 0, 0)), (62, (.bipush 10, 0, 0)), (64, (.iload_n 1, 0, 0)), (65, (.isub, 0, 0)), (66, (.i2l, 0, 0)), (67, (.aload_n 0, 0, 0)), (68, (.getfield 243, 12, 24)), (71, (.iconst 1, 0, 0)), (72, (.isub, 0, 0)), (73, (.invokestatic 368, 274, 2)), (76, (.lmul, 0, 0)), (77, (.ladd, 0, 0)), (78, (.lstore_n 2, 0, 0)), (79, (.ldc2_w 372, 10, 0)), (82, (.aload_n 0, 0, 0)), (83, (.getfield 243, 12, 24)), (86, (.invokestatic 368, 274, 2)), (89, (.lstore 4, 0, 0)), (91, (.lload_n 2, 0, 0)), (92, (.lload 4, 0, 0)), (94, (.invokestatic 364, 273, 2)), (97, (.lstore 6, 0, 0)), (99, (.aload_n 0, 0, 0)), (100, (.iconst 0, 0, 0)), (101, (.putfield 113, 12, 6)), (104, (.aload_n 0, 0, 0)), (105, (.lload_n 2, 0, 0)), (106, (.lload 6, 0, 0)), (108, (.ldiv, 0, 0)), (109, (.invokevirtual 265, 182, 1)), (112, (.aload_n 0, 0, 0)), (113, (.lload 4, 0, 0)), (115, (.lload 6, 0, 0)), (117, (.ldiv, 0, 0)), (118, (.invokevirtual 265, 182, 1)), (121, (.iconst 0, 0, 0)), (122, (.ireturn, 0, 0))]
/-- TypeAtNightModel.galley(I)I -/
def k_276 : List (Nat × tm_N) := [(0, (.aload_n 0, 0, 0)), (1, (.iconst 0, 0, 0)), (2, (.putfield 100, 12, 7)), (5, (.iload_n 1, 0, 0)), (6, (.iconst 0, 0, 0)), (7, (.bipush 60, 0, 0)), (9, (.invokestatic 119, 178, 3)), (12, (.ifCond .ne 5, 17, 0)), (15, (.iconst (-1), 0, 0)), (16, (.ireturn, 0, 0)), (17, (.iconst 0, 0, 0)), (18, (.istore_n 2, 0, 0)), (19, (.iload_n 2, 0, 0)), (20, (.iload_n 1, 0, 0)), (21, (.if_icmp .gt 75, 96, 0)), (24, (.iload_n 2, 0, 0)), (25, (.iconst 1, 0, 0)), (26, (.if_icmp .ne 7, 33, 0)), (29, (.lconst 1, 0, 0)), (30, (.goto 4, 34, 0)), (33, (.lconst 0, 0, 0)), (34, (.lstore_n 3, 0, 0)), (35, (.iconst 0, 0, 0)), (36, (.istore 5, 0, 0)), (38, (.iload 5, 0, 0)), (40, (.iconst 2, 0, 0)), (41, (.iadd, 0, 0)), (42, (.iload_n 2, 0, 0)), (43, (.if_icmp .gt 33, 76, 0)), (46, (.lload_n 3, 0, 0)), (47, (.lconst 1, 0, 0)), (48, (.aload_n 0, 0, 0)), (49, (.getfield 87, 12, 41)), (52, (.iload 5, 0, 0)), (54, (.iaload, 0, 0)), (55, (.aload_n 0, 0, 0)), (56, (.getfield 87, 12, 41)), (59, (.iload_n 2, 0, 0)), (60, (.iconst 2, 0, 0)), (61, (.isub, 0, 0)), (62, (.iload 5, 0, 0)), (64, (.isub, 0, 0)), (65, (.iaload, 0, 0)), (66, (.ixor, 0, 0)), (67, (.lshl, 0, 0)), (68, (.lor, 0, 0)), (69, (.lstore_n 3, 0, 0)), (70, (.iinc 5 1, 0, 0)), (73, (.goto (-35), 38, 0)), (76, (.aload_n 0, 0, 0)), (77, (.getfield 87, 12, 41)), (80, (.iload_n 2, 0, 0)), (81, (.lload_n 3, 0, 0)), (82, (.ldc2_w 374, 18446744073709551615, 0)), (85, (.lxor, 0, 0)), (86, (.invokestatic 376, 290, 1)), (89, (.iastore, 0, 0)), (90, (.iinc 2 1, 0, 0)), (93, (.goto (-74), 19, 0)), (96, (.aload_n 0, 0, 0)), (97, (.iconst 0, 0, 0)), (98, (.putfield 113, 12, 6)), (101, (.aload_n 0, 0, 0)), (102, (.getfield 87, 12, 41)), (105, (.iload_n 1, 0, 0)), (106, (.iaload, 0, 0)), (107, (.ifCond .ne 5, 112, 0)), (110, (.iconst 0, 0, 0)), (111, (.ireturn, 0, 0)), (112, (.iconst 0, 0, 0)), (113, (.istore_n 2, 0, 0)), (114, (.iload_n 1, 0, 0)), (115, (.iconst 1, 0, 0)), (116, (.if_icmp .le 28, 144, 0)), (119, (.aload_n 0, 0, 0)), (120, (.getfield 87, 12, 41)), (123, (.iload_n 2, 0, 0)), (124, (.iaload, 0, 0)), (125, (.aload_n 0, 0, 0)), (126, (.getfield 87, 12, 41)), (129, (.iload_n 1, 0, 0)), (130, (.iconst 2, 0, 0)), (131, (.isub, 0, 0)), (132, (.iload_n 2, 0, 0)), (133, (.isub, 0, 0)), (134, (.iaload, 0, 0)), (135, (.if_icmp .eq 9, 144, 0)), (138, (.iinc 2 1, 0, 0)), (141, (.goto (-27), 114, 0)), (144, (.aload_n 0, 0, 0)), (145, (.iload_n 2, 0, 0)), (146, (.i2l, 0, 0)), (147, (.invokevirtual 265, 182, 1)), (150, (.iconst 1, 0, 0)), (151, (.ireturn, 0, 0))]
/-- TypeAtNightModel.gets(III)I -/
def k_277 : List (Nat × tm_N) := [(0, (.iload_n 0, 0, 0)), (1, (.iload_n 1, 0, 0)), (2, (.if_icmp .le 7, 9, 0)), (5, (.iload_n 2, 0, 0)), (6, (.goto 19, 25, 0)), (9, (.iload_n 0, 0, 0)), (10, (.iload_n 1, 0, 0)), (11, (.if_icmp .ge 9, 20, 0)), (14, (.iload_n 2, 0, 0)), (15, (.iconst 2, 0, 0)), (16, (.idiv, 0, 0)), (17, (.goto 8, 25, 0)), (20, (.iconst 2, 0, 0)), (21, (.iload_n 2, 0, 0)), (22, (.imul, 0, 0)), (23, (.iconst 3, 0, 0)), (24, (.idiv, 0, 0)), (25, (.istore_n 3, 0, 0)), (26, (.iload_n 3, 0, 0)), (27, (.iload_n 0, 0, 0)), (28, (.isub, 0, 0)), (29, (.iload_n 0, 0, 0)), (30, (.iload_n 1, 0, 0)), (31, (.iadd, 0, 0)), (32, (.bipush 10, 0, 0)), (34, (.if_icmp .lt 7, 41, 0)), (37, (.iconst 1, 0, 0)), (38, (.goto 4, 42, 0)), (41, (.iconst 0, 0, 0)), (42, (.isub, 0, 0)), (43, (.ireturn, 0, 0))]
/-- TypeAtNightModel.isBest(III)Z -/
def k_278 : List (Nat × tm_N) := [(0, (.iconst 0, 0, 0)), (1, (.istore_n 3, 0, 0)), (2, (.iload_n 3, 0, 0)), (3, (.bipush 9, 0, 0)), (5, (.if_icmp .gt 26, 31, 0)), (8, (.iload_n 3, 0, 0)), (9, (.iload_n 1, 0, 0)), (10, (.iload_n 2, 0, 0)), (11, (.invokestatic 382, 277, 3)), (14, (.iload_n 0, 0, 0)), (15, (.iload_n 1, 0, 0)), (16, (.iload_n 2, 0, 0)), (17, (.invokestatic 382, 277, 3)), (20, (.if_icmp .le 5, 25, 0)), (23, (.iconst 0, 0, 0)), (24, (.ireturn, 1, 0)), (25, (.iinc 3 1, 0, 0)), (28, (.goto (-26), 2, 0)), (31, (.iconst 1, 0, 0)), (32, (.ireturn, 1, 0))]
/-- TypeAtNightModel.rests(I)I -/
def k_279 : List (Nat × tm_N) := [(0, (.aload_n 0, 0, 0)), (1, (.iconst 0, 0, 0)), (2, (.putfield 100, 12, 7)), (5, (.iload_n 1, 0, 0)), (6, (.iconst 0, 0, 0)), (7, (.bipush 20, 0, 0)), (9, (.invokestatic 119, 178, 3)), (12, (.ifCond .ne 5, 17, 0)), (15, (.iconst (-1), 0, 0)), (16, (.ireturn, 0, 0)), (17, (.iconst 0, 0, 0)), (18, (.istore_n 2, 0, 0)), (19, (.aload_n 0, 0, 0)), (20, (.iconst 0, 0, 0)), (21, (.putfield 113, 12, 6)), (24, (.iconst 0, 0, 0)), (25, (.istore_n 3, 0, 0)), (26, (.iload_n 3, 0, 0)), (27, (.bipush 9, 0, 0)), (29, (.if_icmp .gt 68, 97, 0)), (32, (.iconst 0, 0, 0)), (33, (.istore 4, 0, 0)), (35, (.iload 4, 0, 0)), (37, (.bipush 9, 0, 0)), (39, (.if_icmp .gt 52, 91, 0)), (42, (.iload_n 3, 0, 0)), (43, (.iload 4, 0, 0)), (45, (.iload_n 1, 0, 0)), (46, (.invokestatic 385, 278, 3)), (49, (.ifCond .eq 36, 85, 0)), (52, (.iload 4, 0, 0)), (54, (.iload_n 3, 0, 0)), (55, (.iload_n 1, 0, 0)), (56, (.invokestatic 385, 278, 3)), (59, (.ifCond .ne 6, 65, 0)), (62, (.goto 23, 85, 0)), (65, (.iload_n 2, 0, 0)), (66, (.ifCond .ne 16, 82, 0)), (69, (.aload_n 0, 0, 0)), (70, (.iload_n 3, 0, 0)), (71, (.i2l, 0, 0)), (72, (.invokevirtual 265, 182, 1)), (75, (.aload_n 0, 0, 0)), (76, (.iload 4, 0, 0)), (78, (.i2l, 0, 0)), (79, (.invokevirtual 265, 182, 1)), (82, (.iinc 2 1, 0, 0)), (85, (.iinc 4 1, 0, 0)), (88, (.goto (-53), 35, 0)), (91, (.iinc 3 1, 0, 0)), (94, (.goto (-68), 26, 0)), (97, (.iload_n 2, 0, 0)), (98, (.ireturn, 0, 0))]
/-- TypeAtNightModel.farBehind5()I -/
def k_280 : List (Nat × tm_N) := [(0, (.aload_n 0, 0, 0)), (1, (.iconst 5, 0, 0)), (2, (.invokevirtual 317, 244, 1)), (5, (.iconst 0, 0, 0)), (6, (.istore_n 1, 0, 0)), (7, (.iconst 0, 0, 0)), (8, (.istore_n 2, 0, 0)), (9, (.iload_n 2, 0, 0)), (10, (.aload_n 0, 0, 0)), (11, (.getfield 116, 12, 1)), (14, (.if_icmp .ge 24, 38, 0)), (17, (.iload_n 1, 0, 0)), (18, (.aload_n 0, 0, 0)), (19, (.getfield 42, 12, 22)), (22, (.bipush 12, 0, 0)), (24, (.iload_n 2, 0, 0)), (25, (.iadd, 0, 0)), (26, (.iaload, 0, 0)), (27, (.invokestatic 327, 0, 1003)), (30, (.iadd, 0, 0)), (31, (.istore_n 1, 0, 0)), (32, (.iinc 2 1, 0, 0)), (35, (.goto (-26), 9, 0)), (38, (.iload_n 1, 0, 0)), (39, (.ireturn, 0, 0))]
/-- TypeAtNightModel.law()I -/
def k_281 : List (Nat × tm_N) := [(0, (.aload_n 0, 0, 0)), (1, (.iconst 0, 0, 0)), (2, (.putfield 100, 12, 7)), (5, (.aload_n 0, 0, 0)), (6, (.getfield 123, 12, 4)), (9, (.istore_n 1, 0, 0)), (10, (.aload_n 0, 0, 0)), (11, (.invokevirtual 206, 204, 0)), (14, (.ifCond .ne 12, 26, 0)), (17, (.sipush (-10000), 0, 0)), (20, (.aload_n 0, 0, 0)), (21, (.getfield 138, 12, 12)), (24, (.isub, 0, 0)), (25, (.ireturn, 0, 0)), (26, (.aload_n 0, 0, 0)), (27, (.invokevirtual 388, 280, 0)), (30, (.istore_n 2, 0, 0)), (31, (.aload_n 0, 0, 0)), (32, (.getfield 27, 12, 14)), (35, (.astore_n 3, 0, 0)), (36, (.aload_n 0, 0, 0)), (37, (.getfield 209, 12, 16)), (40, (.istore 4, 0, 0)), (42, (.aload_n 0, 0, 0)), (43, (.aload_n 0, 0, 0)), (44, (.getfield 30, 12, 15)), (47, (.putfield 27, 12, 14)), (50, (.aload_n 0, 0, 0)), (51, (.iload_n 1, 0, 0)), (52, (.putfield 209, 12, 16)), (55, (.iconst 0, 0, 0)), (56, (.istore 5, 0, 0)), (58, (.iload 5, 0, 0)), (60, (.iload_n 1, 0, 0)), (61, (.if_icmp .ge 23, 84, 0)), (64, (.aload_n 0, 0, 0)), (65, (.getfield 27, 12, 14)), (68, (.iload 5, 0, 0)), (70, (.aload_n 0, 0, 0)), (71, (.getfield 16, 12, 3)), (74, (.iload 5, 0, 0)), (76, (.baload, 0, 0)), (77, (.bastore, 0, 0)), (78, (.iinc 5 1, 0, 0)), (81, (.goto (-23), 58, 0)), (84, (.aload_n 0, 0, 0)), (85, (.invokevirtual 388, 280, 0)), (88, (.istore 5, 0, 0)), (90, (.aload_n 0, 0, 0)), (91, (.aload_n 3, 0, 0)), (92, (.putfield 27, 12, 14)), (95, (.aload_n 0, 0, 0)), (96, (.iload 4, 0, 0)), (98, (.putfield 209, 12, 16)), (101, (.aload_n 0, 0, 0)), (102, (.iconst 0, 0, 0)), (103, (.putfield 113, 12, 6)), (106, (.aload_n 0, 0, 0)), (107, (.iload 5, 0, 0)), (109, (.i2l, 0, 0)), (110, (.invokevirtual 265, 182, 1)), (113, (.aload_n 0, 0, 0)), (114, (.iload_n 2, 0, 0)), (115, (.i2l, 0, 0)), (116, (.invokevirtual 265, 182, 1)), (119, (.iconst 0, 0, 0)), (120, (.istore 6, 0, 0)), (122, (.iload 6, 0, 0)), (124, (.aload_n 0, 0, 0)), (125, (.getfield 116, 12, 1)), (128, (.if_icmp .ge 27, 155, 0)), (131, (.aload_n 0, 0, 0)), (132, (.bipush 10, 0, 0)), (134, (.aload_n 0, 0, 0)), (135, (.getfield 42, 12, 22)), (138, (.bipush 12, 0, 0)), (140, (.iload 6, 0, 0)), (142, (.iadd, 0, 0)), (143, (.iaload, 0, 0)), (144, (.iadd, 0, 0)), (145, (.i2l, 0, 0)), (146, (.invokevirtual 265, 182, 1)), (149, (.iinc 6 1, 0, 0)), (152, (.goto (-30), 122, 0)), (155, (.iload 5, 0, 0)), (157, (.iload_n 2, 0, 0)), (158, (.isub, 0, 0)), (159, (.ireturn, 0, 0))]
/-- TypeAtNightModel.draw(I)I -/
def k_282 : List (Nat × tm_N) := [(0, (.aload_n 0, 0, 0)), (1, (.aload_n 0, 0, 0)), (2, (.getfield 391, 12, 42)), (5, (.ldc_w 394, 1103515245, 0)), (8, (.imul, 0, 0)), (9, (.sipush 12345, 0, 0)), (12, (.iadd, 0, 0)), (13, (.putfield 391, 12, 42)), (16, (.aload_n 0, 0, 0)), (17, (.getfield 391, 12, 42)), (20, (.bipush 16, 0, 0)), (22, (.iushr, 0, 0)), (23, (.iload_n 1, 0, 0)), (24, (.irem, 0, 0)), (25, (.ireturn, 0, 0))]
/-- TypeAtNightModel.years(II)I -/
def k_283 : List (Nat × tm_N) := [(0, (.aload_n 0, 0, 0)), (1, (.iconst 0, 0, 0)), (2, (.putfield 100, 12, 7)), (5, (.iload_n 2, 0, 0)), (6, (.iconst 1, 0, 0)), (7, (.bipush 60, 0, 0)), (9, (.invokestatic 119, 178, 3)), (12, (.ifCond .ne 5, 17, 0)), (15, (.iconst (-1), 0, 0)), (16, (.ireturn, 0, 0)), (17, (.aload_n 0, 0, 0)), (18, (.iload_n 1, 0, 0)), (19, (.putfield 391, 12, 42)), (22, (.aload_n 0, 0, 0)), (23, (.getfield 9, 12, 0)), (26, (.aload_n 0, 0, 0)), (27, (.getfield 42, 12, 22)), (30, (.iconst 0, 0, 0)), (31, (.invokestatic 239, 213, 3)), (34, (.iconst 0, 0, 0)), (35, (.istore_n 3, 0, 0)), (36, (.iload_n 3, 0, 0)), (37, (.iload_n 2, 0, 0)), (38, (.if_icmp .ge 119, 157, 0)), (41, (.aload_n 0, 0, 0)), (42, (.iconst 4, 0, 0)), (43, (.invokevirtual 395, 282, 1)), (46, (.istore 4, 0, 0)), (48, (.iload 4, 0, 0)), (50, (.iconst 2, 0, 0)), (51, (.if_icmp .ge 11, 62, 0)), (54, (.aload_n 0, 0, 0)), (55, (.aload_n 0, 0, 0)), (56, (.getfield 42, 12, 22)), (59, (.invokevirtual 269, 221, 1)), (62, (.iload 4, 0, 0)), (64, (.iconst 2, 0, 0)), (65, (.if_icmp .lt 86, 151, 0)), (68, (.aload_n 0, 0, 0)), (69, (.getfield 116, 12, 1)), (72, (.ifCond .ne 6, 78, 0)), (75, (.goto 76, 151, 0)), (78, (.aload_n 0, 0, 0)), (79, (.aload_n 0, 0, 0)), (80, (.getfield 116, 12, 1)), (83, (.invokevirtual 395, 282, 1)), (86, (.istore 5, 0, 0)), (88, (.iload 4, 0, 0)), (90, (.iconst 2, 0, 0)), (91, (.if_icmp .ne 25, 116, 0)), (94, (.aload_n 0, 0, 0)), (95, (.getfield 42, 12, 22)), (98, (.bipush 12, 0, 0)), (100, (.iload 5, 0, 0)), (102, (.iadd, 0, 0)), (103, (.aload_n 0, 0, 0)), (104, (.bipush 19, 0, 0)), (106, (.invokevirtual 395, 282, 1)), (109, (.bipush 9, 0, 0)), (111, (.isub, 0, 0)), (112, (.iastore, 0, 0)), (113, (.goto 38, 151, 0)), (116, (.aload_n 0, 0, 0)), (117, (.bipush 8, 0, 0)), (119, (.invokevirtual 395, 282, 1)), (122, (.istore 6, 0, 0)), (124, (.aload_n 0, 0, 0)), (125, (.aload_n 0, 0, 0)), (126, (.getfield 42, 12, 22)), (129, (.iload 5, 0, 0)), (131, (.iload 6, 0, 0)), (133, (.invokevirtual 283, 225, 3)), (136, (.ifCond .ne 15, 151, 0)), (139, (.aload_n 0, 0, 0)), (140, (.getfield 42, 12, 22)), (143, (.bipush 24, 0, 0)), (145, (.iload 5, 0, 0)), (147, (.iadd, 0, 0)), (148, (.iload 6, 0, 0)), (150, (.iastore, 0, 0)), (151, (.iinc 3 1, 0, 0)), (154, (.goto (-118), 36, 0)), (157, (.aload_n 0, 0, 0)), (158, (.iconst 0, 0, 0)), (159, (.putfield 113, 12, 6)), (162, (.aload_n 0, 0, 0)), (163, (.sipush 200, 0, 0)), (166, (.aload_n 0, 0, 0)), (167, (.aload_n 0, 0, 0)), (168, (.getfield 42, 12, 22)), (171, (.aload_n 0, 0, 0)), (172, (.invokevirtual 276, 184, 0)), (175, (.invokevirtual 233, 209, 2)), (178, (.iadd, 0, 0)), (179, (.i2l, 0, 0)), (180, (.invokevirtual 265, 182, 1)), (183, (.aload_n 0, 0, 0)), (184, (.aload_n 0, 0, 0)), (185, (.getfield 42, 12, 22)), (188, (.invokevirtual 279, 223, 1)), (191, (.ireturn, 0, 0))]
/-- TypeAtNightModel.keep(I)Z -/
def k_284 : List (Nat × tm_N) := [(0, (.aload_n 0, 0, 0)), (1, (.iconst 0, 0, 0)), (2, (.putfield 100, 12, 7)), (5, (.iload_n 1, 0, 0)), (6, (.iconst 0, 0, 0)), (7, (.iconst 1, 0, 0)), (8, (.invokestatic 119, 178, 3)), (11, (.ifCond .ne 5, 16, 0)), (14, (.iconst 0, 0, 0)), (15, (.ireturn, 1, 0)), (16, (.aload_n 0, 0, 0)), (17, (.getfield 93, 12, 45)), (20, (.iload_n 1, 0, 0)), (21, (.iconst 1, 0, 0)), (22, (.bastore, 0, 0)), (23, (.aload_n 0, 0, 0)), (24, (.getfield 97, 12, 46)), (27, (.iload_n 1, 0, 0)), (28, (.aload_n 0, 0, 0)), (29, (.getfield 177, 12, 43)), (32, (.iastore, 0, 0)), (33, (.aload_n 0, 0, 0)), (34, (.getfield 9, 12, 0)), (37, (.aload_n 0, 0, 0)), (38, (.getfield 90, 12, 44)), (41, (.bipush 38, 0, 0)), (43, (.iload_n 1, 0, 0)), (44, (.imul, 0, 0)), (45, (.invokestatic 239, 213, 3)), (48, (.iconst 1, 0, 0)), (49, (.ireturn, 1, 0))]
/-- TypeAtNightModel.again(I)Z -/
def k_285 : List (Nat × tm_N) := [(0, (.aload_n 0, 0, 0)), (1, (.iconst 0, 0, 0)), (2, (.putfield 100, 12, 7)), (5, (.iload_n 1, 0, 0)), (6, (.iconst 0, 0, 0)), (7, (.iconst 1, 0, 0)), (8, (.invokestatic 119, 178, 3)), (11, (.ifCond .eq 25, 36, 0)), (14, (.aload_n 0, 0, 0)), (15, (.getfield 93, 12, 45)), (18, (.iload_n 1, 0, 0)), (19, (.baload, 0, 0)), (20, (.ifCond .eq 16, 36, 0)), (23, (.aload_n 0, 0, 0)), (24, (.getfield 97, 12, 46)), (27, (.iload_n 1, 0, 0)), (28, (.iaload, 0, 0)), (29, (.aload_n 0, 0, 0)), (30, (.getfield 177, 12, 43)), (33, (.if_icmp .eq 5, 38, 0)), (36, (.iconst 0, 0, 0)), (37, (.ireturn, 1, 0)), (38, (.iconst 0, 0, 0)), (39, (.istore_n 2, 0, 0)), (40, (.iload_n 2, 0, 0)), (41, (.bipush 38, 0, 0)), (43, (.if_icmp .ge 26, 69, 0)), (46, (.aload_n 0, 0, 0)), (47, (.getfield 9, 12, 0)), (50, (.iload_n 2, 0, 0)), (51, (.aload_n 0, 0, 0)), (52, (.getfield 90, 12, 44)), (55, (.bipush 38, 0, 0)), (57, (.iload_n 1, 0, 0)), (58, (.imul, 0, 0)), (59, (.iload_n 2, 0, 0)), (60, (.iadd, 0, 0)), (61, (.iaload, 0, 0)), (62, (.iastore, 0, 0)), (63, (.iinc 2 1, 0, 0)), (66, (.goto (-26), 40, 0)), (69, (.aload_n 0, 0, 0)), (70, (.iconst 0, 0, 0)), (71, (.putfield 174, 12, 20)), (74, (.iconst 1, 0, 0)), (75, (.ireturn, 1, 0))]
/-- TypeAtNightModel.count(I)I -/
def k_286 : List (Nat × tm_N) := [(0, (.aload_n 0, 0, 0)), (1, (.iconst 0, 0, 0)), (2, (.putfield 100, 12, 7)), (5, (.iload_n 1, 0, 0)), (6, (.tableswitch 135 0 10 #[58, 63, 71, 79, 84, 101, 110, 115, 120, 125, 130], 0, 0)), (64, (.aload_n 0, 0, 0)), (65, (.getfield 116, 12, 1)), (68, (.ireturn, 0, 0)), (69, (.aload_n 0, 0, 0)), (70, (.getfield 9, 12, 0)), (73, (.bipush 37, 0, 0)), (75, (.iaload, 0, 0)), (76, (.ireturn, 0, 0)), (77, (.aload_n 0, 0, 0)), (78, (.getfield 9, 12, 0)), (81, (.bipush 36, 0, 0)), (83, (.iaload, 0, 0)), (84, (.ireturn, 0, 0)), (85, (.aload_n 0, 0, 0)), (86, (.invokevirtual 236, 211, 0)), (89, (.ireturn, 0, 0)), (90, (.sipush 200, 0, 0)), (93, (.aload_n 0, 0, 0)), (94, (.aload_n 0, 0, 0)), (95, (.getfield 9, 12, 0)), (98, (.aload_n 0, 0, 0)), (99, (.invokevirtual 276, 184, 0)), (102, (.invokevirtual 233, 209, 2)), (105, (.iadd, 0, 0)), (106, (.ireturn, 0, 0)), (107, (.aload_n 0, 0, 0)), (108, (.aload_n 0, 0, 0)), (109, (.getfield 9, 12, 0)), (112, (.invokevirtual 279, 223, 1)), (115, (.ireturn, 0, 0)), (116, (.aload_n 0, 0, 0)), (117, (.getfield 342, 12, 35)), (120, (.ireturn, 0, 0)), (121, (.aload_n 0, 0, 0)), (122, (.getfield 354, 12, 39)), (125, (.ireturn, 0, 0)), (126, (.aload_n 0, 0, 0)), (127, (.getfield 174, 12, 20)), (130, (.ireturn, 0, 0)), (131, (.aload_n 0, 0, 0)), (132, (.getfield 113, 12, 6)), (135, (.ireturn, 0, 0)), (136, (.aload_n 0, 0, 0)), (137, (.getfield 123, 12, 4)), (140, (.ireturn, 0, 0)), (141, (.iconst (-1), 0, 0)), (142, (.ireturn, 0, 0))]
/-- TypeAtNightModel.row(I)J -/
def k_287 : List (Nat × tm_N) := [(0, (.aload_n 0, 0, 0)), (1, (.iconst 0, 0, 0)), (2, (.putfield 100, 12, 7)), (5, (.iload_n 1, 0, 0)), (6, (.iconst 0, 0, 0)), (7, (.aload_n 0, 0, 0)), (8, (.getfield 113, 12, 6)), (11, (.iconst 1, 0, 0)), (12, (.isub, 0, 0)), (13, (.invokestatic 119, 178, 3)), (16, (.ifCond .eq 12, 28, 0)), (19, (.aload_n 0, 0, 0)), (20, (.getfield 20, 12, 5)), (23, (.iload_n 1, 0, 0)), (24, (.laload, 0, 0)), (25, (.goto 8, 33, 0)), (28, (.aload_n 0, 0, 0)), (29, (.invokevirtual 219, 181, 0)), (32, (.i2l, 0, 0)), (33, (.lreturn, 0, 0))]
/-- java/lang/Integer.numberOfTrailingZeros(I)I -/
def k_288 : List (Nat × tm_N) := [(0, (.iload_n 0, 0, 0)), (1, (.iconst (-1), 0, 0)), (2, (.ixor, 0, 0)), (3, (.iload_n 0, 0, 0)), (4, (.iconst 1, 0, 0)), (5, (.isub, 0, 0)), (6, (.iand, 0, 0)), (7, (.istore_n 0, 0, 0)), (8, (.iload_n 0, 0, 0)), (9, (.ifCond .gt 8, 17, 0)), (12, (.iload_n 0, 0, 0)), (13, (.bipush 32, 0, 0)), (15, (.iand, 0, 0)), (16, (.ireturn, 0, 0)), (17, (.iconst 1, 0, 0)), (18, (.istore_n 1, 0, 0)), (19, (.iload_n 0, 0, 0)), (20, (.ldc_w 264, 65536, 0)), (23, (.if_icmp .le 11, 34, 0)), (26, (.iinc 1 16, 0, 0)), (29, (.iload_n 0, 0, 0)), (30, (.bipush 16, 0, 0)), (32, (.iushr, 0, 0)), (33, (.istore_n 0, 0, 0)), (34, (.iload_n 0, 0, 0)), (35, (.sipush 256, 0, 0)), (38, (.if_icmp .le 11, 49, 0)), (41, (.iinc 1 8, 0, 0)), (44, (.iload_n 0, 0, 0)), (45, (.bipush 8, 0, 0)), (47, (.iushr, 0, 0)), (48, (.istore_n 0, 0, 0)), (49, (.iload_n 0, 0, 0)), (50, (.bipush 16, 0, 0)), (52, (.if_icmp .le 10, 62, 0)), (55, (.iinc 1 4, 0, 0)), (58, (.iload_n 0, 0, 0)), (59, (.iconst 4, 0, 0)), (60, (.iushr, 0, 0)), (61, (.istore_n 0, 0, 0)), (62, (.iload_n 0, 0, 0)), (63, (.iconst 4, 0, 0)), (64, (.if_icmp .le 10, 74, 0)), (67, (.iinc 1 2, 0, 0)), (70, (.iload_n 0, 0, 0)), (71, (.iconst 2, 0, 0)), (72, (.iushr, 0, 0)), (73, (.istore_n 0, 0, 0)), (74, (.iload_n 1, 0, 0)), (75, (.iload_n 0, 0, 0)), (76, (.iconst 1, 0, 0)), (77, (.iushr, 0, 0)), (78, (.iadd, 0, 0)), (79, (.ireturn, 0, 0))]
/-- java/lang/Integer.bitCount(I)I -/
def k_289 : List (Nat × tm_N) := [(0, (.iload_n 0, 0, 0)), (1, (.iload_n 0, 0, 0)), (2, (.iconst 1, 0, 0)), (3, (.iushr, 0, 0)), (4, (.ldc_w 265, 1431655765, 0)), (7, (.iand, 0, 0)), (8, (.isub, 0, 0)), (9, (.istore_n 0, 0, 0)), (10, (.iload_n 0, 0, 0)), (11, (.ldc_w 266, 858993459, 0)), (14, (.iand, 0, 0)), (15, (.iload_n 0, 0, 0)), (16, (.iconst 2, 0, 0)), (17, (.iushr, 0, 0)), (18, (.ldc_w 266, 858993459, 0)), (21, (.iand, 0, 0)), (22, (.iadd, 0, 0)), (23, (.istore_n 0, 0, 0)), (24, (.iload_n 0, 0, 0)), (25, (.iload_n 0, 0, 0)), (26, (.iconst 4, 0, 0)), (27, (.iushr, 0, 0)), (28, (.iadd, 0, 0)), (29, (.ldc_w 267, 252645135, 0)), (32, (.iand, 0, 0)), (33, (.istore_n 0, 0, 0)), (34, (.iload_n 0, 0, 0)), (35, (.iload_n 0, 0, 0)), (36, (.bipush 8, 0, 0)), (38, (.iushr, 0, 0)), (39, (.iadd, 0, 0)), (40, (.istore_n 0, 0, 0)), (41, (.iload_n 0, 0, 0)), (42, (.iload_n 0, 0, 0)), (43, (.bipush 16, 0, 0)), (45, (.iushr, 0, 0)), (46, (.iadd, 0, 0)), (47, (.istore_n 0, 0, 0)), (48, (.iload_n 0, 0, 0)), (49, (.bipush 63, 0, 0)), (51, (.iand, 0, 0)), (52, (.ireturn, 0, 0))]
/-- java/lang/Long.numberOfTrailingZeros(J)I -/
def k_290 : List (Nat × tm_N) := [(0, (.lload_n 0, 0, 0)), (1, (.l2i, 0, 0)), (2, (.istore_n 2, 0, 0)), (3, (.iload_n 2, 0, 0)), (4, (.ifCond .ne 17, 21, 0)), (7, (.bipush 32, 0, 0)), (9, (.lload_n 0, 0, 0)), (10, (.bipush 32, 0, 0)), (12, (.lushr, 0, 0)), (13, (.l2i, 0, 0)), (14, (.invokestatic 311, 288, 1)), (17, (.iadd, 0, 0)), (18, (.goto 7, 25, 0)), (21, (.iload_n 2, 0, 0)), (22, (.invokestatic 311, 288, 1)), (25, (.ireturn, 0, 0))]
/-- java/util/Arrays.fill([II)V -/
def k_291 : List (Nat × tm_N) := [(0, (.iconst 0, 0, 0)), (1, (.istore_n 2, 0, 0)), (2, (.aload_n 0, 0, 0)), (3, (.arraylength, 0, 0)), (4, (.istore_n 3, 0, 0)), (5, (.iload_n 2, 0, 0)), (6, (.iload_n 3, 0, 0)), (7, (.if_icmp .ge 13, 20, 0)), (10, (.aload_n 0, 0, 0)), (11, (.iload_n 2, 0, 0)), (12, (.iload_n 1, 0, 0)), (13, (.iastore, 0, 0)), (14, (.iinc 2 1, 0, 0)), (17, (.goto (-12), 5, 0)), (20, (.return_, 0, 0))]
def g_ct (M : Nat) : List (Nat × tm_N) := bif Nat.blt M 292 then (bif Nat.blt M 146 then (bif Nat.blt M 73 then (bif Nat.blt M 36 then (bif Nat.blt M 18 then (bif Nat.blt M 9 then (bif Nat.blt M 4 then (bif Nat.blt M 2 then (bif Nat.blt M 1 then k_0 else k_1) else (bif Nat.blt M 3 then k_2 else k_3)) else (bif Nat.blt M 6 then (bif Nat.blt M 5 then k_4 else k_5) else (bif Nat.blt M 7 then k_6 else (bif Nat.blt M 8 then k_7 else k_8)))) else (bif Nat.blt M 13 then (bif Nat.blt M 11 then (bif Nat.blt M 10 then k_9 else k_10) else (bif Nat.blt M 12 then k_11 else k_12)) else (bif Nat.blt M 15 then (bif Nat.blt M 14 then k_13 else k_14) else (bif Nat.blt M 16 then k_15 else (bif Nat.blt M 17 then k_16 else k_17))))) else (bif Nat.blt M 27 then (bif Nat.blt M 22 then (bif Nat.blt M 20 then (bif Nat.blt M 19 then k_18 else k_19) else (bif Nat.blt M 21 then k_20 else k_21)) else (bif Nat.blt M 24 then (bif Nat.blt M 23 then k_22 else k_23) else (bif Nat.blt M 25 then k_24 else (bif Nat.blt M 26 then k_25 else k_26)))) else (bif Nat.blt M 31 then (bif Nat.blt M 29 then (bif Nat.blt M 28 then k_27 else k_28) else (bif Nat.blt M 30 then k_29 else k_30)) else (bif Nat.blt M 33 then (bif Nat.blt M 32 then k_31 else k_32) else (bif Nat.blt M 34 then k_33 else (bif Nat.blt M 35 then k_34 else k_35)))))) else (bif Nat.blt M 54 then (bif Nat.blt M 45 then (bif Nat.blt M 40 then (bif Nat.blt M 38 then (bif Nat.blt M 37 then k_36 else k_37) else (bif Nat.blt M 39 then k_38 else k_39)) else (bif Nat.blt M 42 then (bif Nat.blt M 41 then k_40 else k_41) else (bif Nat.blt M 43 then k_42 else (bif Nat.blt M 44 then k_43 else k_44)))) else (bif Nat.blt M 49 then (bif Nat.blt M 47 then (bif Nat.blt M 46 then k_45 else k_46) else (bif Nat.blt M 48 then k_47 else k_48)) else (bif Nat.blt M 51 then (bif Nat.blt M 50 then k_49 else k_50) else (bif Nat.blt M 52 then k_51 else (bif Nat.blt M 53 then k_52 else k_53))))) else (bif Nat.blt M 63 then (bif Nat.blt M 58 then (bif Nat.blt M 56 then (bif Nat.blt M 55 then k_54 else k_55) else (bif Nat.blt M 57 then k_56 else k_57)) else (bif Nat.blt M 60 then (bif Nat.blt M 59 then k_58 else k_59) else (bif Nat.blt M 61 then k_60 else (bif Nat.blt M 62 then k_61 else k_62)))) else (bif Nat.blt M 68 then (bif Nat.blt M 65 then (bif Nat.blt M 64 then k_63 else k_64) else (bif Nat.blt M 66 then k_65 else (bif Nat.blt M 67 then k_66 else k_67))) else (bif Nat.blt M 70 then (bif Nat.blt M 69 then k_68 else k_69) else (bif Nat.blt M 71 then k_70 else (bif Nat.blt M 72 then k_71 else k_72))))))) else (bif Nat.blt M 109 then (bif Nat.blt M 91 then (bif Nat.blt M 82 then (bif Nat.blt M 77 then (bif Nat.blt M 75 then (bif Nat.blt M 74 then k_73 else k_74) else (bif Nat.blt M 76 then k_75 else k_76)) else (bif Nat.blt M 79 then (bif Nat.blt M 78 then k_77 else k_78) else (bif Nat.blt M 80 then k_79 else (bif Nat.blt M 81 then k_80 else k_81)))) else (bif Nat.blt M 86 then (bif Nat.blt M 84 then (bif Nat.blt M 83 then k_82 else k_83) else (bif Nat.blt M 85 then k_84 else k_85)) else (bif Nat.blt M 88 then (bif Nat.blt M 87 then k_86 else k_87) else (bif Nat.blt M 89 then k_88 else (bif Nat.blt M 90 then k_89 else k_90))))) else (bif Nat.blt M 100 then (bif Nat.blt M 95 then (bif Nat.blt M 93 then (bif Nat.blt M 92 then k_91 else k_92) else (bif Nat.blt M 94 then k_93 else k_94)) else (bif Nat.blt M 97 then (bif Nat.blt M 96 then k_95 else k_96) else (bif Nat.blt M 98 then k_97 else (bif Nat.blt M 99 then k_98 else k_99)))) else (bif Nat.blt M 104 then (bif Nat.blt M 102 then (bif Nat.blt M 101 then k_100 else k_101) else (bif Nat.blt M 103 then k_102 else k_103)) else (bif Nat.blt M 106 then (bif Nat.blt M 105 then k_104 else k_105) else (bif Nat.blt M 107 then k_106 else (bif Nat.blt M 108 then k_107 else k_108)))))) else (bif Nat.blt M 127 then (bif Nat.blt M 118 then (bif Nat.blt M 113 then (bif Nat.blt M 111 then (bif Nat.blt M 110 then k_109 else k_110) else (bif Nat.blt M 112 then k_111 else k_112)) else (bif Nat.blt M 115 then (bif Nat.blt M 114 then k_113 else k_114) else (bif Nat.blt M 116 then k_115 else (bif Nat.blt M 117 then k_116 else k_117)))) else (bif Nat.blt M 122 then (bif Nat.blt M 120 then (bif Nat.blt M 119 then k_118 else k_119) else (bif Nat.blt M 121 then k_120 else k_121)) else (bif Nat.blt M 124 then (bif Nat.blt M 123 then k_122 else k_123) else (bif Nat.blt M 125 then k_124 else (bif Nat.blt M 126 then k_125 else k_126))))) else (bif Nat.blt M 136 then (bif Nat.blt M 131 then (bif Nat.blt M 129 then (bif Nat.blt M 128 then k_127 else k_128) else (bif Nat.blt M 130 then k_129 else k_130)) else (bif Nat.blt M 133 then (bif Nat.blt M 132 then k_131 else k_132) else (bif Nat.blt M 134 then k_133 else (bif Nat.blt M 135 then k_134 else k_135)))) else (bif Nat.blt M 141 then (bif Nat.blt M 138 then (bif Nat.blt M 137 then k_136 else k_137) else (bif Nat.blt M 139 then k_138 else (bif Nat.blt M 140 then k_139 else k_140))) else (bif Nat.blt M 143 then (bif Nat.blt M 142 then k_141 else k_142) else (bif Nat.blt M 144 then k_143 else (bif Nat.blt M 145 then k_144 else k_145)))))))) else (bif Nat.blt M 219 then (bif Nat.blt M 182 then (bif Nat.blt M 164 then (bif Nat.blt M 155 then (bif Nat.blt M 150 then (bif Nat.blt M 148 then (bif Nat.blt M 147 then k_146 else k_147) else (bif Nat.blt M 149 then k_148 else k_149)) else (bif Nat.blt M 152 then (bif Nat.blt M 151 then k_150 else k_151) else (bif Nat.blt M 153 then k_152 else (bif Nat.blt M 154 then k_153 else k_154)))) else (bif Nat.blt M 159 then (bif Nat.blt M 157 then (bif Nat.blt M 156 then k_155 else k_156) else (bif Nat.blt M 158 then k_157 else k_158)) else (bif Nat.blt M 161 then (bif Nat.blt M 160 then k_159 else k_160) else (bif Nat.blt M 162 then k_161 else (bif Nat.blt M 163 then k_162 else k_163))))) else (bif Nat.blt M 173 then (bif Nat.blt M 168 then (bif Nat.blt M 166 then (bif Nat.blt M 165 then k_164 else k_165) else (bif Nat.blt M 167 then k_166 else k_167)) else (bif Nat.blt M 170 then (bif Nat.blt M 169 then k_168 else k_169) else (bif Nat.blt M 171 then k_170 else (bif Nat.blt M 172 then k_171 else k_172)))) else (bif Nat.blt M 177 then (bif Nat.blt M 175 then (bif Nat.blt M 174 then k_173 else k_174) else (bif Nat.blt M 176 then k_175 else k_176)) else (bif Nat.blt M 179 then (bif Nat.blt M 178 then k_177 else k_178) else (bif Nat.blt M 180 then k_179 else (bif Nat.blt M 181 then k_180 else k_181)))))) else (bif Nat.blt M 200 then (bif Nat.blt M 191 then (bif Nat.blt M 186 then (bif Nat.blt M 184 then (bif Nat.blt M 183 then k_182 else k_183) else (bif Nat.blt M 185 then k_184 else k_185)) else (bif Nat.blt M 188 then (bif Nat.blt M 187 then k_186 else k_187) else (bif Nat.blt M 189 then k_188 else (bif Nat.blt M 190 then k_189 else k_190)))) else (bif Nat.blt M 195 then (bif Nat.blt M 193 then (bif Nat.blt M 192 then k_191 else k_192) else (bif Nat.blt M 194 then k_193 else k_194)) else (bif Nat.blt M 197 then (bif Nat.blt M 196 then k_195 else k_196) else (bif Nat.blt M 198 then k_197 else (bif Nat.blt M 199 then k_198 else k_199))))) else (bif Nat.blt M 209 then (bif Nat.blt M 204 then (bif Nat.blt M 202 then (bif Nat.blt M 201 then k_200 else k_201) else (bif Nat.blt M 203 then k_202 else k_203)) else (bif Nat.blt M 206 then (bif Nat.blt M 205 then k_204 else k_205) else (bif Nat.blt M 207 then k_206 else (bif Nat.blt M 208 then k_207 else k_208)))) else (bif Nat.blt M 214 then (bif Nat.blt M 211 then (bif Nat.blt M 210 then k_209 else k_210) else (bif Nat.blt M 212 then k_211 else (bif Nat.blt M 213 then k_212 else k_213))) else (bif Nat.blt M 216 then (bif Nat.blt M 215 then k_214 else k_215) else (bif Nat.blt M 217 then k_216 else (bif Nat.blt M 218 then k_217 else k_218))))))) else (bif Nat.blt M 255 then (bif Nat.blt M 237 then (bif Nat.blt M 228 then (bif Nat.blt M 223 then (bif Nat.blt M 221 then (bif Nat.blt M 220 then k_219 else k_220) else (bif Nat.blt M 222 then k_221 else k_222)) else (bif Nat.blt M 225 then (bif Nat.blt M 224 then k_223 else k_224) else (bif Nat.blt M 226 then k_225 else (bif Nat.blt M 227 then k_226 else k_227)))) else (bif Nat.blt M 232 then (bif Nat.blt M 230 then (bif Nat.blt M 229 then k_228 else k_229) else (bif Nat.blt M 231 then k_230 else k_231)) else (bif Nat.blt M 234 then (bif Nat.blt M 233 then k_232 else k_233) else (bif Nat.blt M 235 then k_234 else (bif Nat.blt M 236 then k_235 else k_236))))) else (bif Nat.blt M 246 then (bif Nat.blt M 241 then (bif Nat.blt M 239 then (bif Nat.blt M 238 then k_237 else k_238) else (bif Nat.blt M 240 then k_239 else k_240)) else (bif Nat.blt M 243 then (bif Nat.blt M 242 then k_241 else k_242) else (bif Nat.blt M 244 then k_243 else (bif Nat.blt M 245 then k_244 else k_245)))) else (bif Nat.blt M 250 then (bif Nat.blt M 248 then (bif Nat.blt M 247 then k_246 else k_247) else (bif Nat.blt M 249 then k_248 else k_249)) else (bif Nat.blt M 252 then (bif Nat.blt M 251 then k_250 else k_251) else (bif Nat.blt M 253 then k_252 else (bif Nat.blt M 254 then k_253 else k_254)))))) else (bif Nat.blt M 273 then (bif Nat.blt M 264 then (bif Nat.blt M 259 then (bif Nat.blt M 257 then (bif Nat.blt M 256 then k_255 else k_256) else (bif Nat.blt M 258 then k_257 else k_258)) else (bif Nat.blt M 261 then (bif Nat.blt M 260 then k_259 else k_260) else (bif Nat.blt M 262 then k_261 else (bif Nat.blt M 263 then k_262 else k_263)))) else (bif Nat.blt M 268 then (bif Nat.blt M 266 then (bif Nat.blt M 265 then k_264 else k_265) else (bif Nat.blt M 267 then k_266 else k_267)) else (bif Nat.blt M 270 then (bif Nat.blt M 269 then k_268 else k_269) else (bif Nat.blt M 271 then k_270 else (bif Nat.blt M 272 then k_271 else k_272))))) else (bif Nat.blt M 282 then (bif Nat.blt M 277 then (bif Nat.blt M 275 then (bif Nat.blt M 274 then k_273 else k_274) else (bif Nat.blt M 276 then k_275 else k_276)) else (bif Nat.blt M 279 then (bif Nat.blt M 278 then k_277 else k_278) else (bif Nat.blt M 280 then k_279 else (bif Nat.blt M 281 then k_280 else k_281)))) else (bif Nat.blt M 287 then (bif Nat.blt M 284 then (bif Nat.blt M 283 then k_282 else k_283) else (bif Nat.blt M 285 then k_284 else (bif Nat.blt M 286 then k_285 else k_286))) else (bif Nat.blt M 289 then (bif Nat.blt M 288 then k_287 else k_288) else (bif Nat.blt M 290 then k_289 else (bif Nat.blt M 291 then k_290 else k_291))))))))) else []
def g_ft (M pc : Nat) : Option tm_N := (g_ct M).lookup pc
def g_mt1 (M : Nat) : tm_M := bif Nat.blt M 292 then (bif Nat.blt M 146 then (bif Nat.blt M 73 then (bif Nat.blt M 36 then (bif Nat.blt M 18 then (bif Nat.blt M 9 then (bif Nat.blt M 4 then (bif Nat.blt M 2 then (bif Nat.blt M 1 then (yL_law, cL_law, 8, (some .boolean), 99) else (yX0_init, cX0_init, 1, none, 0)) else (bif Nat.blt M 3 then (yX0_read, cX0_read, 5, (some .int), 0) else (yX0_putApart, cX0_putApart, 3, none, 0))) else (bif Nat.blt M 6 then (bif Nat.blt M 5 then (yX0_fewest, cX0_fewest, 2, (some .int), 0) else (yX0_placeFrom, cX0_placeFrom, 5, (some .boolean), 0)) else (bif Nat.blt M 7 then (yX0_mayStand, cX0_mayStand, 4, (some .boolean), 0) else (bif Nat.blt M 8 then (yX1_init, cX1_init, 1, none, 1) else (yX1_leftOfWin, cX1_leftOfWin, 3, (some .int), 1))))) else (bif Nat.blt M 13 then (bif Nat.blt M 11 then (bif Nat.blt M 10 then (yX1_learn, cX1_learn, 6, none, 1) else (yX2_init, cX2_init, 1, none, 2)) else (bif Nat.blt M 12 then (yX2_size, cX2_size, 1, (some .int), 2) else (yX2_hear, cX2_hear, 3, (some .int), 2))) else (bif Nat.blt M 15 then (bif Nat.blt M 14 then (yX2_clear, cX2_clear, 2, (some .int), 2) else (yX2_mostOf, cX2_mostOf, 1, (some .int), 2)) else (bif Nat.blt M 16 then (yX2_fitting, cX2_fitting, 4, (some .int), 2) else (bif Nat.blt M 17 then (yX2_answering, cX2_answering, 4, (some .int), 2) else (yX2_isSo, cX2_isSo, 4, (some .boolean), 2)))))) else (bif Nat.blt M 27 then (bif Nat.blt M 22 then (bif Nat.blt M 20 then (bif Nat.blt M 19 then (yX2_leftAtMost, cX2_leftAtMost, 5, (some .int), 2) else (yX2_bestQuestion, cX2_bestQuestion, 8, (some .int), 2)) else (bif Nat.blt M 21 then (yX3_init, cX3_init, 1, none, 3) else (yX3_read, cX3_read, 5, (some .int), 3))) else (bif Nat.blt M 24 then (bif Nat.blt M 23 then (yX3_gather, cX3_gather, 3, (some .int), 3) else (yX3_suits, cX3_suits, 3, (some .boolean), 3)) else (bif Nat.blt M 25 then (yX4_init, cX4_init, 1, none, 4) else (bif Nat.blt M 26 then (yX4_size, cX4_size, 1, (some .int), 4) else (yX4_see, cX4_see, 4, (some .int), 4))))) else (bif Nat.blt M 31 then (bif Nat.blt M 29 then (bif Nat.blt M 28 then (yX4_clear, cX4_clear, 2, (some .int), 4) else (yX4_upperOf, cX4_upperOf, 1, (some .int), 4)) else (bif Nat.blt M 30 then (yX4_lowerOf, cX4_lowerOf, 1, (some .int), 4) else (yX4_becomes, cX4_becomes, 3, (some .int), 4))) else (bif Nat.blt M 33 then (bif Nat.blt M 32 then (yX4_fitting, cX4_fitting, 3, (some .int), 4) else (yX4_fitsAll, cX4_fitsAll, 3, (some .boolean), 4)) else (bif Nat.blt M 34 then (yX4_leftAtMost, cX4_leftAtMost, 6, (some .int), 4) else (bif Nat.blt M 35 then (yX4_bestLook, cX4_bestLook, 6, (some .int), 4) else (yX5_init, cX5_init, 1, none, 5))))))) else (bif Nat.blt M 54 then (bif Nat.blt M 45 then (bif Nat.blt M 40 then (bif Nat.blt M 38 then (bif Nat.blt M 37 then (yX5_clear, cX5_clear, 1, none, 5) else (yX5_add, cX5_add, 3, none, 5)) else (bif Nat.blt M 39 then (yX5_tell, cX5_tell, 3, none, 5) else (yX5_tell_, cX5_tell_, 5, none, 5))) else (bif Nat.blt M 42 then (bif Nat.blt M 41 then (yX5_tell__, cX5_tell__, 7, none, 5) else (yX5_size, cX5_size, 1, (some .int), 5)) else (bif Nat.blt M 43 then (yX5_has, cX5_has, 2, (some .boolean), 5) else (bif Nat.blt M 44 then (yX5_at, cX5_at, 2, (some .long), 5) else (yX6_init, cX6_init, 2, none, 6))))) else (bif Nat.blt M 49 then (bif Nat.blt M 47 then (bif Nat.blt M 46 then (yX6_size, cX6_size, 1, (some .int), 6) else (yX6_clear, cX6_clear, 1, none, 6)) else (bif Nat.blt M 48 then (yX6_push, cX6_push, 2, none, 6) else (yX6_pop, cX6_pop, 2, (some .boolean), 6))) else (bif Nat.blt M 51 then (bif Nat.blt M 50 then (yX6_keepUnder, cX6_keepUnder, 3, (some .boolean), 6) else (yX6_bringBack, cX6_bringBack, 3, (some .boolean), 6)) else (bif Nat.blt M 52 then (yX7_init, cX7_init, 1, none, 7) else (bif Nat.blt M 53 then (yX7_looksAtNight, cX7_looksAtNight, 1, (some .boolean), 7) else (yX7_read, cX7_read, 2, (some .int), 7)))))) else (bif Nat.blt M 63 then (bif Nat.blt M 58 then (bif Nat.blt M 56 then (bif Nat.blt M 55 then (yX7_putFirstRule, cX7_putFirstRule, 1, none, 7) else (yX7_put, cX7_put, 2, none, 7)) else (bif Nat.blt M 57 then (yX7_putThing, cX7_putThing, 2, none, 7) else (yX7_readJoined, cX7_readJoined, 8, (some .boolean), 7))) else (bif Nat.blt M 60 then (bif Nat.blt M 59 then (yX7_bindingOf, cX7_bindingOf, 1, (some .int), 7) else (yX7_readThing, cX7_readThing, 6, (some .boolean), 7)) else (bif Nat.blt M 61 then (yX7_readNumber, cX7_readNumber, 4, none, 7) else (bif Nat.blt M 62 then (yX7_readInner, cX7_readInner, 3, (some .boolean), 7) else (yX7_value, cX7_value, 6, (some .int), 7))))) else (bif Nat.blt M 68 then (bif Nat.blt M 65 then (bif Nat.blt M 64 then (yX8_init, cX8_init, 1, none, 8) else (yX8_append, cX8_append, 3, (some .int), 8)) else (bif Nat.blt M 66 then (yX8_cut, cX8_cut, 2, (some .boolean), 8) else (bif Nat.blt M 67 then (yX8_clear, cX8_clear, 1, none, 8) else (yX8_size, cX8_size, 1, (some .int), 8)))) else (bif Nat.blt M 70 then (bif Nat.blt M 69 then (yX8_at, cX8_at, 2, (some .int), 8) else (yX8_letterAt, cX8_letterAt, 2, (some .int), 8)) else (bif Nat.blt M 71 then (yX8_digitAt, cX8_digitAt, 2, (some .int), 8) else (bif Nat.blt M 72 then (yX8_twoDigitsAt, cX8_twoDigitsAt, 2, (some .int), 8) else (yX8_signedDigitAt, cX8_signedDigitAt, 2, (some .int), 8)))))))) else (bif Nat.blt M 109 then (bif Nat.blt M 91 then (bif Nat.blt M 82 then (bif Nat.blt M 77 then (bif Nat.blt M 75 then (bif Nat.blt M 74 then (yX8_misfit, cX8_misfit, 5, (some .int), 8) else (yX8_stands, cX8_stands, 2, (some .boolean), 8)) else (bif Nat.blt M 76 then (yX9_init, cX9_init, 1, none, 9) else (yX9_copy, cX9_copy, 2, none, 9))) else (bif Nat.blt M 79 then (bif Nat.blt M 78 then (yX9_add, cX9_add, 4, none, 9) else (yX9_has, cX9_has, 2, (some .boolean), 9)) else (bif Nat.blt M 80 then (yX9_all, cX9_all, 1, (some .int), 9) else (bif Nat.blt M 81 then (yX9_free, cX9_free, 1, (some .int), 9) else (yX9_ofLetter, cX9_ofLetter, 2, (some .int), 9))))) else (bif Nat.blt M 86 then (bif Nat.blt M 84 then (bif Nat.blt M 83 then (yX9_freeOf, cX9_freeOf, 2, (some .int), 9) else (yX9_inBox, cX9_inBox, 2, (some .int), 9)) else (bif Nat.blt M 85 then (yX9_whose, cX9_whose, 5, (some .int), 9) else (yX9_moodsOf, cX9_moodsOf, 4, (some .int), 9))) else (bif Nat.blt M 88 then (bif Nat.blt M 87 then (yX9_moodsOfAll, cX9_moodsOfAll, 1, (some .int), 9) else (yX9_farFromRest, cX9_farFromRest, 3, (some .int), 9)) else (bif Nat.blt M 89 then (yX9_wearOfAll, cX9_wearOfAll, 3, (some .int), 9) else (bif Nat.blt M 90 then (yX9_atHome, cX9_atHome, 3, (some .int), 9) else (yX9_hasTwoLetters, cX9_hasTwoLetters, 2, (some .boolean), 9)))))) else (bif Nat.blt M 100 then (bif Nat.blt M 95 then (bif Nat.blt M 93 then (bif Nat.blt M 92 then (yX9_lettersOf, cX9_lettersOf, 4, (some .int), 9) else (yX9_packedMoods, cX9_packedMoods, 4, (some .long), 9)) else (bif Nat.blt M 94 then (yX9_wouldTake, cX9_wouldTake, 6, (some .int), 9) else (yX9_leastWorn, cX9_leastWorn, 4, (some .int), 9))) else (bif Nat.blt M 97 then (bif Nat.blt M 96 then (yX9_setSorts, cX9_setSorts, 4, none, 9) else (yX9_moveTo, cX9_moveTo, 4, (some .int), 9)) else (bif Nat.blt M 98 then (yX9_clean, cX9_clean, 3, (some .int), 9) else (bif Nat.blt M 99 then (yX9_castAnew, cX9_castAnew, 3, (some .int), 9) else (yX9_distribute, cX9_distribute, 2, none, 9))))) else (bif Nat.blt M 104 then (bif Nat.blt M 102 then (bif Nat.blt M 101 then (yX9_passNights, cX9_passNights, 6, none, 9) else (yX9_passNight, cX9_passNight, 6, (some .boolean), 9)) else (bif Nat.blt M 103 then (yX9_turnNow, cX9_turnNow, 3, (some .int), 9) else (yX9_weighBoxes, cX9_weighBoxes, 2, none, 9))) else (bif Nat.blt M 106 then (bif Nat.blt M 105 then (yX9_turn, cX9_turn, 3, (some .int), 9) else (yX10_init, cX10_init, 1, none, 10)) else (bif Nat.blt M 107 then (yX10_read, cX10_read, 5, (some .int), 10) else (bif Nat.blt M 108 then (yX10_mostAtOnce, cX10_mostAtOnce, 4, (some .int), 10) else (yX10_canBeSet, cX10_canBeSet, 5, (some .boolean), 10))))))) else (bif Nat.blt M 127 then (bif Nat.blt M 118 then (bif Nat.blt M 113 then (bif Nat.blt M 111 then (bif Nat.blt M 110 then (yX11_init, cX11_init, 1, none, 11) else (yX11_sign, cX11_sign, 2, (some .int), 11)) else (bif Nat.blt M 112 then (yX11_end, cX11_end, 2, (some .boolean), 11) else (yX11_sorts, cX11_sorts, 3, (some .int), 11))) else (bif Nat.blt M 115 then (bif Nat.blt M 114 then (yX11_rule, cX11_rule, 3, (some .int), 11) else (yX11_sort, cX11_sort, 3, (some .int), 11)) else (bif Nat.blt M 116 then (yX11_box, cX11_box, 3, (some .int), 11) else (bif Nat.blt M 117 then (yX11_sheet, cX11_sheet, 7, (some .int), 11) else (yX11_sets, cX11_sets, 5, (some .int), 11))))) else (bif Nat.blt M 122 then (bif Nat.blt M 120 then (bif Nat.blt M 119 then (yX11_nights, cX11_nights, 2, (some .int), 11) else (yX11_moves, cX11_moves, 3, (some .int), 11)) else (bif Nat.blt M 121 then (yX11_cleans, cX11_cleans, 2, (some .int), 11) else (yX11_casts, cX11_casts, 2, (some .int), 11))) else (bif Nat.blt M 124 then (bif Nat.blt M 123 then (yX11_week, cX11_week, 7, (some .int), 11) else (yX11_undo, cX11_undo, 1, (some .int), 11)) else (bif Nat.blt M 125 then (yX11_tells, cX11_tells, 3, (some .int), 11) else (bif Nat.blt M 126 then (yX11_often, cX11_often, 5, (some .int), 11) else (yX11_shortest, cX11_shortest, 3, (some .int), 11)))))) else (bif Nat.blt M 136 then (bif Nat.blt M 131 then (bif Nat.blt M 129 then (bif Nat.blt M 128 then (yX11_bears, cX11_bears, 6, (some .int), 11) else (yX11_spans, cX11_spans, 7, (some .int), 11)) else (bif Nat.blt M 130 then (yX11_packs, cX11_packs, 3, (some .int), 11) else (yX11_later, cX11_later, 3, (some .int), 11))) else (bif Nat.blt M 133 then (bif Nat.blt M 132 then (yX11_settles, cX11_settles, 3, (some .int), 11) else (yX11_round, cX11_round, 4, (some .int), 11)) else (bif Nat.blt M 134 then (yX11_gravest, cX11_gravest, 4, (some .int), 11) else (bif Nat.blt M 135 then (yX11_blows, cX11_blows, 6, (some .int), 11) else (yX11_parts, cX11_parts, 4, (some .int), 11))))) else (bif Nat.blt M 141 then (bif Nat.blt M 138 then (bif Nat.blt M 137 then (yX11_mixed, cX11_mixed, 3, (some .int), 11) else (yX11_rubs, cX11_rubs, 5, (some .int), 11)) else (bif Nat.blt M 139 then (yX11_chord, cX11_chord, 7, (some .int), 11) else (bif Nat.blt M 140 then (yX11_heard, cX11_heard, 3, (some .int), 11) else (yX11_forget, cX11_forget, 1, (some .int), 11)))) else (bif Nat.blt M 143 then (bif Nat.blt M 142 then (yX11_fits, cX11_fits, 2, (some .int), 11) else (yX11_asks, cX11_asks, 3, (some .int), 11)) else (bif Nat.blt M 144 then (yX11_saw, cX11_saw, 4, (some .int), 11) else (bif Nat.blt M 145 then (yX11_denies, cX11_denies, 1, (some .int), 11) else (yX11_laws, cX11_laws, 3, (some .int), 11))))))))) else (bif Nat.blt M 219 then (bif Nat.blt M 182 then (bif Nat.blt M 164 then (bif Nat.blt M 155 then (bif Nat.blt M 150 then (bif Nat.blt M 148 then (bif Nat.blt M 147 then (yX11_looks, cX11_looks, 3, (some .int), 11) else (yX11_reads, cX11_reads, 11, (some .int), 11)) else (bif Nat.blt M 149 then (yX11_galley, cX11_galley, 3, (some .int), 11) else (yX11_rests, cX11_rests, 5, (some .int), 11))) else (bif Nat.blt M 152 then (bif Nat.blt M 151 then (yX11_law, cX11_law, 5, (some .int), 11) else (yX11_years, cX11_years, 7, (some .int), 11)) else (bif Nat.blt M 153 then (yX11_keep, cX11_keep, 2, (some .boolean), 11) else (bif Nat.blt M 154 then (yX11_again, cX11_again, 2, (some .boolean), 11) else (yX11_count, cX11_count, 2, (some .int), 11))))) else (bif Nat.blt M 159 then (bif Nat.blt M 157 then (bif Nat.blt M 156 then (yX11_row, cX11_row, 2, (some .long), 11) else (yX11_isMood, cX11_isMood, 1, (some .boolean), 11)) else (bif Nat.blt M 158 then (yX11_isBox, cX11_isBox, 1, (some .boolean), 11) else (yX11_putToMood, cX11_putToMood, 1, (some .int), 11))) else (bif Nat.blt M 161 then (bif Nat.blt M 160 then (yX11_readLetters, cX11_readLetters, 2, (some .int), 11) else (yX11_undoable, cX11_undoable, 2, (some .int), 11)) else (bif Nat.blt M 162 then (yX11_faultOfLines, cX11_faultOfLines, 5, (some .int), 11) else (bif Nat.blt M 163 then (yX11_addLines, cX11_addLines, 3, (some .int), 11) else (yX11_entryOf, cX11_entryOf, 2, (some .int), 11)))))) else (bif Nat.blt M 173 then (bif Nat.blt M 168 then (bif Nat.blt M 166 then (bif Nat.blt M 165 then (yX11_faultOfWeek, cX11_faultOfWeek, 5, (some .int), 11) else (yX11_behindAct, cX11_behindAct, 8, (some .int), 11)) else (bif Nat.blt M 167 then (yX11_shapeOfAct, cX11_shapeOfAct, 1, (some (.object "java/lang/String")), 11) else (yX11_doAct, cX11_doAct, 3, (some .int), 11))) else (bif Nat.blt M 170 then (bif Nat.blt M 169 then (yX11_setLetters, cX11_setLetters, 3, (some .int), 11) else (yX11_fewestToClean, cX11_fewestToClean, 7, (some .int), 11)) else (bif Nat.blt M 171 then (yX11_calms, cX11_calms, 6, (some .boolean), 11) else (bif Nat.blt M 172 then (yX11_commonDivisor, cX11_commonDivisor, 11, (some .long), 11) else (yX11_sells, cX11_sells, 4, (some .int), 11))))) else (bif Nat.blt M 177 then (bif Nat.blt M 175 then (bif Nat.blt M 174 then (yX11_isContent, cX11_isContent, 4, (some .boolean), 11) else (yX11_nextDraw, cX11_nextDraw, 1, (some .int), 11)) else (bif Nat.blt M 176 then (yX11_drawOf, cX11_drawOf, 2, (some .int), 11) else (yX12_init, cX12_init, 1, none, 12))) else (bif Nat.blt M 179 then (bif Nat.blt M 178 then (yX12_thrown, cX12_thrown, 1, (some .int), 12) else (yX12_in, cX12_in, 3, (some .boolean), 12)) else (bif Nat.blt M 180 then (yX12_has, cX12_has, 2, (some .boolean), 12) else (bif Nat.blt M 181 then (yX12_put, cX12_put, 1, (some .int), 12) else (yX12_lost, cX12_lost, 1, (some .int), 12))))))) else (bif Nat.blt M 200 then (bif Nat.blt M 191 then (bif Nat.blt M 186 then (bif Nat.blt M 184 then (bif Nat.blt M 183 then (yX12_tell, cX12_tell, 3, none, 12) else (yX12_isSort, cX12_isSort, 2, (some .boolean), 12)) else (bif Nat.blt M 185 then (yX12_all, cX12_all, 1, (some .int), 12) else (yX12_sign, cX12_sign, 3, (some .int), 12))) else (bif Nat.blt M 188 then (bif Nat.blt M 187 then (yX12_end, cX12_end, 2, (some .boolean), 12) else (yX12_begin, cX12_begin, 4, none, 12)) else (bif Nat.blt M 189 then (yX12_beginText, cX12_beginText, 2, none, 12) else (bif Nat.blt M 190 then (yX12_here, cX12_here, 1, (some .int), 12) else (yX12_fine, cX12_fine, 1, (some .boolean), 12))))) else (bif Nat.blt M 195 then (bif Nat.blt M 193 then (bif Nat.blt M 192 then (yX12_fault, cX12_fault, 2, none, 12) else (yX12_passes, cX12_passes, 2, (some .boolean), 12)) else (bif Nat.blt M 194 then (yX12_need, cX12_need, 2, none, 12) else (yX12_oneOf, cX12_oneOf, 3, (some .int), 12))) else (bif Nat.blt M 197 then (bif Nat.blt M 196 then (yX12_number, cX12_number, 4, (some .int), 12) else (yX12_wasRight, cX12_wasRight, 1, (some .boolean), 12)) else (bif Nat.blt M 198 then (yX12_signedOf, cX12_signedOf, 3, (some .int), 12) else (bif Nat.blt M 199 then (yX12_sorts, cX12_sorts, 4, (some .int), 12) else (yX12_held, cX12_held, 3, (some .int), 12)))))) else (bif Nat.blt M 209 then (bif Nat.blt M 204 then (bif Nat.blt M 202 then (bif Nat.blt M 201 then (yX12_sum, cX12_sum, 5, (some .int), 12) else (yX12_product, cX12_product, 5, (some .int), 12)) else (bif Nat.blt M 203 then (yX12_letterOf, cX12_letterOf, 1, (some .int), 12) else (yX12_thing, cX12_thing, 4, (some .int), 12))) else (bif Nat.blt M 206 then (bif Nat.blt M 205 then (yX12_readRule, cX12_readRule, 1, (some .boolean), 12) else (yX12_rule, cX12_rule, 3, (some .int), 12)) else (bif Nat.blt M 207 then (yX12_turnOf, cX12_turnOf, 6, (some .int), 12) else (bif Nat.blt M 208 then (yX12_sort, cX12_sort, 3, (some .int), 12) else (yX12_inBox, cX12_inBox, 5, (some .int), 12))))) else (bif Nat.blt M 214 then (bif Nat.blt M 211 then (bif Nat.blt M 210 then (yX12_moodsOf, cX12_moodsOf, 5, (some .int), 12) else (yX12_box, cX12_box, 3, (some .int), 12)) else (bif Nat.blt M 212 then (yX12_wears, cX12_wears, 3, (some .int), 12) else (bif Nat.blt M 213 then (yX12_sheet, cX12_sheet, 8, (some .int), 12) else (yX12_lay, cX12_lay, 4, none, 12)))) else (bif Nat.blt M 216 then (bif Nat.blt M 215 then (yX12_remember, cX12_remember, 3, none, 12) else (yX12_layNeed, cX12_layNeed, 2, none, 12)) else (bif Nat.blt M 217 then (yX12_readLine, cX12_readLine, 2, (some .boolean), 12) else (bif Nat.blt M 218 then (yX12_takes, cX12_takes, 5, (some .int), 12) else (yX12_goSet, cX12_goSet, 6, (some .int), 12)))))))) else (bif Nat.blt M 255 then (bif Nat.blt M 237 then (bif Nat.blt M 228 then (bif Nat.blt M 223 then (bif Nat.blt M 221 then (bif Nat.blt M 220 then (yX12_wouldTake, cX12_wouldTake, 1, (some .int), 12) else (yX12_sets, cX12_sets, 3, (some .int), 12)) else (bif Nat.blt M 222 then (yX12_goNight, cX12_goNight, 3, none, 12) else (yX12_goNights, cX12_goNights, 4, none, 12))) else (bif Nat.blt M 225 then (bif Nat.blt M 224 then (yX12_atHome, cX12_atHome, 4, (some .int), 12) else (yX12_nights, cX12_nights, 2, (some .int), 12)) else (bif Nat.blt M 226 then (yX12_refusesMove, cX12_refusesMove, 4, (some .int), 12) else (bif Nat.blt M 227 then (yX12_moves, cX12_moves, 5, (some .int), 12) else (yX12_refusesClean, cX12_refusesClean, 2, (some .int), 12))))) else (bif Nat.blt M 232 then (bif Nat.blt M 230 then (bif Nat.blt M 229 then (yX12_cleans, cX12_cleans, 4, (some .int), 12) else (yX12_refusesCast, cX12_refusesCast, 2, (some .int), 12)) else (bif Nat.blt M 231 then (yX12_casts, cX12_casts, 4, (some .int), 12) else (yX12_week, cX12_week, 3, (some .int), 12))) else (bif Nat.blt M 234 then (bif Nat.blt M 233 then (yX12_readAct, cX12_readAct, 3, none, 12) else (yX12_act, cX12_act, 5, (some .boolean), 12)) else (bif Nat.blt M 235 then (yX12_undo, cX12_undo, 2, (some .int), 12) else (bif Nat.blt M 236 then (yX12_tells, cX12_tells, 2, (some .int), 12) else (yX12_free, cX12_free, 4, (some .int), 12)))))) else (bif Nat.blt M 246 then (bif Nat.blt M 241 then (bif Nat.blt M 239 then (bif Nat.blt M 238 then (yX12_often, cX12_often, 4, (some .int), 12) else (yX12_shortest, cX12_shortest, 4, (some .int), 12)) else (bif Nat.blt M 240 then (yX12_isText, cX12_isText, 3, (some .boolean), 12) else (yX12_bears, cX12_bears, 4, (some .int), 12))) else (bif Nat.blt M 243 then (bif Nat.blt M 242 then (yX12_spans, cX12_spans, 4, (some .int), 12) else (yX12_canSet, cX12_canSet, 5, (some .boolean), 12)) else (bif Nat.blt M 244 then (yX12_packs, cX12_packs, 5, (some .int), 12) else (bif Nat.blt M 245 then (yX12_goThen, cX12_goThen, 2, none, 12) else (yX12_later, cX12_later, 3, (some .int), 12))))) else (bif Nat.blt M 250 then (bif Nat.blt M 248 then (bif Nat.blt M 247 then (yX12_layTrail, cX12_layTrail, 2, none, 12) else (yX12_areLike, cX12_areLike, 6, (some .boolean), 12)) else (bif Nat.blt M 249 then (yX12_settles, cX12_settles, 5, (some .int), 12) else (yX12_round, cX12_round, 3, (some .int), 12))) else (bif Nat.blt M 252 then (bif Nat.blt M 251 then (yX12_gravest, cX12_gravest, 4, (some .int), 12) else (yX12_isCalm, cX12_isCalm, 5, (some .boolean), 12)) else (bif Nat.blt M 253 then (yX12_blows, cX12_blows, 5, (some .int), 12) else (bif Nat.blt M 254 then (yX12_canBox, cX12_canBox, 6, (some .boolean), 12) else (yX12_parts, cX12_parts, 4, (some .int), 12))))))) else (bif Nat.blt M 273 then (bif Nat.blt M 264 then (bif Nat.blt M 259 then (bif Nat.blt M 257 then (bif Nat.blt M 256 then (yX12_mixed, cX12_mixed, 4, (some .int), 12) else (yX12_rubs, cX12_rubs, 6, (some .int), 12)) else (bif Nat.blt M 258 then (yX12_isChord, cX12_isChord, 3, (some .boolean), 12) else (yX12_chord, cX12_chord, 4, (some .int), 12))) else (bif Nat.blt M 261 then (bif Nat.blt M 260 then (yX12_highOf, cX12_highOf, 1, (some .int), 12) else (yX12_heard, cX12_heard, 3, (some .int), 12)) else (bif Nat.blt M 262 then (yX12_forget, cX12_forget, 2, (some .int), 12) else (bif Nat.blt M 263 then (yX12_isSo, cX12_isSo, 4, (some .boolean), 12) else (yX12_fitting, cX12_fitting, 5, (some .int), 12))))) else (bif Nat.blt M 268 then (bif Nat.blt M 266 then (bif Nat.blt M 265 then (yX12_fits, cX12_fits, 2, (some .int), 12) else (yX12_asks, cX12_asks, 7, (some .int), 12)) else (bif Nat.blt M 267 then (yX12_isMood, cX12_isMood, 1, (some .boolean), 12) else (yX12_saw, cX12_saw, 4, (some .int), 12))) else (bif Nat.blt M 270 then (bif Nat.blt M 269 then (yX12_denies, cX12_denies, 2, (some .int), 12) else (yX12_becomes, cX12_becomes, 3, (some .int), 12)) else (bif Nat.blt M 271 then (yX12_isLaw, cX12_isLaw, 3, (some .boolean), 12) else (bif Nat.blt M 272 then (yX12_laws, cX12_laws, 3, (some .int), 12) else (yX12_looks, cX12_looks, 8, (some .int), 12)))))) else (bif Nat.blt M 282 then (bif Nat.blt M 277 then (bif Nat.blt M 275 then (bif Nat.blt M 274 then (yX12_common, cX12_common, 4, (some .long), 12) else (yX12_power, cX12_power, 6, (some .long), 12)) else (bif Nat.blt M 276 then (yX12_reads, cX12_reads, 8, (some .int), 12) else (yX12_galley, cX12_galley, 6, (some .int), 12))) else (bif Nat.blt M 279 then (bif Nat.blt M 278 then (yX12_gets, cX12_gets, 4, (some .int), 12) else (yX12_isBest, cX12_isBest, 4, (some .boolean), 12)) else (bif Nat.blt M 280 then (yX12_rests, cX12_rests, 5, (some .int), 12) else (bif Nat.blt M 281 then (yX12_farBehind5, cX12_farBehind5, 3, (some .int), 12) else (yX12_law, cX12_law, 7, (some .int), 12))))) else (bif Nat.blt M 287 then (bif Nat.blt M 284 then (bif Nat.blt M 283 then (yX12_draw, cX12_draw, 2, (some .int), 12) else (yX12_years, cX12_years, 7, (some .int), 12)) else (bif Nat.blt M 285 then (yX12_keep, cX12_keep, 2, (some .boolean), 12) else (bif Nat.blt M 286 then (yX12_again, cX12_again, 3, (some .boolean), 12) else (yX12_count, cX12_count, 2, (some .int), 12)))) else (bif Nat.blt M 289 then (bif Nat.blt M 288 then (yX12_row, cX12_row, 2, (some .long), 12) else (yJ6_numberOfTrailingZeros_0f7a4, cJ6_numberOfTrailingZeros_0f7a4, 2, (some .int), 99)) else (bif Nat.blt M 290 then (yJ6_bitCount_0f7a4, cJ6_bitCount_0f7a4, 1, (some .int), 99) else (bif Nat.blt M 291 then (yJ13_numberOfTrailingZeros_95d88, cJ13_numberOfTrailingZeros_95d88, 3, (some .int), 99) else (yJ7_fill_53178, cJ7_fill_53178, 4, none, 99)))))))))) else (yL_law, cL_law, 8, some .boolean, 99)
def g_mt2 (M : Nat) : tm_M := (bif Nat.blt M 1003 then (bif Nat.blt M 1001 then (yJ0_length_8abf5, cJ0_length_8abf5, 1, (some .int), 99) else (bif Nat.blt M 1002 then (yJ0_isEmpty_aae02, cJ0_isEmpty_aae02, 1, (some .boolean), 99) else (yJ0_charAt_5068e, cJ0_charAt_5068e, 2, (some .char), 99))) else (bif Nat.blt M 1005 then (bif Nat.blt M 1004 then (yJ0_indexOf_0f7a4, cJ0_indexOf_0f7a4, 2, (some .int), 99) else (yL_sort, cL_sort, 5, (some .int), 99)) else (bif Nat.blt M 1006 then (yL_box, cL_box, 5, (some .int), 99) else (yL_row, cL_row, 4, (some .int), 99))))
def g_mt (M : Nat) : tm_M := bif Nat.blt M 1000 then g_mt1 M else g_mt2 M
def g_fy (ci k : Nat) : FieldType := (bif Nat.blt ci 6 then (bif Nat.blt ci 3 then (bif Nat.blt ci 1 then tyX0 k else (bif Nat.blt ci 2 then tyX1 k else tyX2 k)) else (bif Nat.blt ci 4 then tyX3 k else (bif Nat.blt ci 5 then tyX4 k else tyX5 k))) else (bif Nat.blt ci 9 then (bif Nat.blt ci 7 then tyX6 k else (bif Nat.blt ci 8 then tyX7 k else tyX8 k)) else (bif Nat.blt ci 11 then (bif Nat.blt ci 10 then tyX9 k else tyX10 k) else (bif Nat.blt ci 12 then tyX11 k else tyX12 k))))
def g_dv (ci : Nat) : List Value := (bif Nat.blt ci 6 then (bif Nat.blt ci 3 then (bif Nat.blt ci 1 then [.null, .null] else (bif Nat.blt ci 2 then [.null, .int 0] else [.null, .int 0])) else (bif Nat.blt ci 4 then [.null, .int 0, .null, .int 0] else (bif Nat.blt ci 5 then [.null, .null, .null, .null, .int 0] else [.null, .int 0]))) else (bif Nat.blt ci 9 then (bif Nat.blt ci 7 then [.null, .null, .null, .int 0, .int 0] else (bif Nat.blt ci 8 then [.null, .null, .null, .int 0, .int 0, .int 0, .int 0] else [.null, .int 0])) else (bif Nat.blt ci 11 then (bif Nat.blt ci 10 then [.null, .null, .null, .null, .int 0, .int 0, .int 0, .null, .null] else [.null, .null, .int 0]) else (bif Nat.blt ci 12 then [.null, .null, .null, .null, .null, .null, .null, .null, .null, .null, .null, .null, .null, .null, .null, .null] else [.null, .int 0, .null, .null, .int 0, .null, .int 0, .int 0, .null, .int 0, .int 0, .int 0, .int 0, .null, .null, .null, .int 0, .int 0, .null, .null, .int 0, .null, .null, .null, .int 0, .null, .null, .null, .int 0, .null, .null, .null, .null, .null, .null, .int 0, .null, .null, .null, .int 0, .null, .null, .int 0, .int 0, .null, .null, .null]))))
/-- the tables of this program; free: where the strings lie, the script, what is known of the methods 1000 and on -/
def g_G (sa : Nat → Nat) (sc : Nat × Nat × (Nat → Int32)) (xt : Nat → Nat → List Value → tm_H → Option (Option Value × tm_H)) : tm_G := (g_ft, g_mt, g_fy, g_dv, sa, sc, xt)
def g_tbl : List Cond := lw_tbl.filter goodWord
theorem g_good : tm_good g_tbl := fun w hw => good_of_word (List.mem_filter.mp hw).2
theorem g_mem {w : Cond} (i : Nat) (h : lw_tbl[i]? = some w) (hg : goodWord w = true) : w ∈ g_tbl := List.mem_filter.mpr ⟨List.mem_of_getElem? h, hg⟩
theorem g_in {ws : List Cond} (ps : List Nat) (hp : ws = ps.filterMap (fun i => lw_tbl[i]?)) (hg : ws.all goodWord = true) : ∀ w ∈ ws, w ∈ g_tbl := fun w hw => by
  have h1 := List.all_eq_true.mp hg w hw
  rw [hp] at hw
  obtain ⟨i, -, hi⟩ := List.mem_filterMap.mp hw
  exact g_mem i hi h1
end
section
def g_sw (i : Instr) : Bool := match i with
  | .tableswitch _ _ _ _ => true
  | .lookupswitch _ _ => true
  | _ => false
def g_c1 (S : List UInt8) (e : tm_N) : Bool := match decode ⟨⟨S⟩⟩ 0 with
  | .ok (i, n) => decide (i = e.1) && (decide (tm_len i = 0) || decide (n = tm_len i))
  | .error _ => false
def g_hd (S : List UInt8) : Bool := match S with
  | b :: _ => b != 170 && b != 171 && b != 185 && b != 186 && b != 196 && b != 197
  | [] => false
/-- the entries of a code, in their order, by the bytes from pc on -/
def g_ck : List UInt8 → Nat → List (Nat × tm_N) → Bool
  | _, _, [] => true
  | S, pc, (p, e) :: t => decide (pc ≤ p) && (g_sw e.1 || (g_hd (S.drop (p - pc)) && g_c1 ((S.drop (p - pc)).take 5) e)) && g_ck (S.drop (p - pc)) p t
theorem g_ck_ok {L : List UInt8} : ∀ (es : List (Nat × tm_N)) (S : List UInt8) (pc : Nat), S = L.drop pc → g_ck S pc es = true → ∀ q ∈ es, g_sw q.2.1 = false → ∃ n, decode ⟨⟨L⟩⟩ q.1 = .ok (q.2.1, n) ∧ (tm_len q.2.1 = 0 ∨ n = tm_len q.2.1)
  | [], _, _, _, _ => fun q hq => by cases hq
  | (p, e) :: t, S, pc, hS, h => by
    simp only [g_ck, Bool.and_eq_true, Bool.or_eq_true, decide_eq_true_eq] at h
    obtain ⟨⟨h1, h2⟩, h3⟩ := h
    have hd : S.drop (p - pc) = L.drop p := by rw [hS, List.drop_drop]; congr 1; omega
    intro q hq hs
    rcases List.mem_cons.mp hq with rfl | hq
    · rcases h2 with h2 | ⟨h2, h4⟩
      · dsimp only at hs
        rw [hs] at h2
        cases h2
      · unfold g_c1 at h4
        split at h4
        · rename_i i n hdec
          simp only [Bool.and_eq_true, Bool.or_eq_true, decide_eq_true_eq] at h4
          obtain ⟨rfl, h5⟩ := h4
          refine ⟨n, rd_decode (T := (S.drop (p - pc)).drop 5) (by rw [List.take_append_drop, hd]) ?_ hdec, h5⟩
          unfold g_hd at h2
          cases hl : S.drop (p - pc) with
          | nil => rw [hl] at h2; cases h2
          | cons b r =>
            rw [hl] at h2
            simp only [Bool.and_eq_true, bne_iff_ne, ne_eq] at h2
            obtain ⟨⟨⟨⟨⟨g1, g2⟩, g3⟩, g4⟩, g5⟩, g6⟩ := h2
            simp only [List.take_succ_cons, List.head?_cons, ne_eq, Option.some.injEq]
            exact ⟨g1, g2, g3, g4, g5, g6⟩
        · cases h4
    · exact g_ck_ok t (S.drop (p - pc)) p hd h3 q hq hs
theorem g_eta (cc : ByteArray) : cc = ⟨⟨cc.data.toList⟩⟩ := rfl

theorem q_0 : g_ck (cL_law).data.toList 0 k_0 = true := by decide +kernel
theorem q_1 : g_ck (cX0_init).data.toList 0 k_1 = true := by decide +kernel
theorem q_2 : g_ck (cX0_read).data.toList 0 k_2 = true := by decide +kernel
theorem q_3 : g_ck (cX0_putApart).data.toList 0 k_3 = true := by decide +kernel
theorem q_4 : g_ck (cX0_fewest).data.toList 0 k_4 = true := by decide +kernel
theorem q_5 : g_ck (cX0_placeFrom).data.toList 0 k_5 = true := by decide +kernel
theorem q_6 : g_ck (cX0_mayStand).data.toList 0 k_6 = true := by decide +kernel
theorem q_7 : g_ck (cX1_init).data.toList 0 k_7 = true := by decide +kernel
theorem q_8 : g_ck (cX1_leftOfWin).data.toList 0 k_8 = true := by decide +kernel
theorem q_9 : g_ck (cX1_learn).data.toList 0 k_9 = true := by decide +kernel
theorem q_10 : g_ck (cX2_init).data.toList 0 k_10 = true := by decide +kernel
theorem q_11 : g_ck (cX2_size).data.toList 0 k_11 = true := by decide +kernel
theorem q_12 : g_ck (cX2_hear).data.toList 0 k_12 = true := by decide +kernel
theorem q_13 : g_ck (cX2_clear).data.toList 0 k_13 = true := by decide +kernel
theorem q_14 : g_ck (cX2_mostOf).data.toList 0 k_14 = true := by decide +kernel
theorem q_15 : g_ck (cX2_fitting).data.toList 0 k_15 = true := by decide +kernel
theorem q_16 : g_ck (cX2_answering).data.toList 0 k_16 = true := by decide +kernel
theorem q_17 : g_ck (cX2_isSo).data.toList 0 k_17 = true := by decide +kernel
theorem q_18 : g_ck (cX2_leftAtMost).data.toList 0 k_18 = true := by decide +kernel
theorem q_19 : g_ck (cX2_bestQuestion).data.toList 0 k_19 = true := by decide +kernel
theorem q_20 : g_ck (cX3_init).data.toList 0 k_20 = true := by decide +kernel
theorem q_21 : g_ck (cX3_read).data.toList 0 k_21 = true := by decide +kernel
theorem q_22 : g_ck (cX3_gather).data.toList 0 k_22 = true := by decide +kernel
theorem q_23 : g_ck (cX3_suits).data.toList 0 k_23 = true := by decide +kernel
theorem q_24 : g_ck (cX4_init).data.toList 0 k_24 = true := by decide +kernel
theorem q_25 : g_ck (cX4_size).data.toList 0 k_25 = true := by decide +kernel
theorem q_26 : g_ck (cX4_see).data.toList 0 k_26 = true := by decide +kernel
theorem q_27 : g_ck (cX4_clear).data.toList 0 k_27 = true := by decide +kernel
theorem q_28 : g_ck (cX4_upperOf).data.toList 0 k_28 = true := by decide +kernel
theorem q_29 : g_ck (cX4_lowerOf).data.toList 0 k_29 = true := by decide +kernel
theorem q_30 : g_ck (cX4_becomes).data.toList 0 k_30 = true := by decide +kernel
theorem q_31 : g_ck (cX4_fitting).data.toList 0 k_31 = true := by decide +kernel
theorem q_32 : g_ck (cX4_fitsAll).data.toList 0 k_32 = true := by decide +kernel
theorem q_33 : g_ck (cX4_leftAtMost).data.toList 0 k_33 = true := by decide +kernel
theorem q_34 : g_ck (cX4_bestLook).data.toList 0 k_34 = true := by decide +kernel
theorem q_35 : g_ck (cX5_init).data.toList 0 k_35 = true := by decide +kernel
theorem q_36 : g_ck (cX5_clear).data.toList 0 k_36 = true := by decide +kernel
theorem q_37 : g_ck (cX5_add).data.toList 0 k_37 = true := by decide +kernel
theorem q_38 : g_ck (cX5_tell).data.toList 0 k_38 = true := by decide +kernel
theorem q_39 : g_ck (cX5_tell_).data.toList 0 k_39 = true := by decide +kernel
theorem q_40 : g_ck (cX5_tell__).data.toList 0 k_40 = true := by decide +kernel
theorem q_41 : g_ck (cX5_size).data.toList 0 k_41 = true := by decide +kernel
theorem q_42 : g_ck (cX5_has).data.toList 0 k_42 = true := by decide +kernel
theorem q_43 : g_ck (cX5_at).data.toList 0 k_43 = true := by decide +kernel
theorem q_44 : g_ck (cX6_init).data.toList 0 k_44 = true := by decide +kernel
theorem q_45 : g_ck (cX6_size).data.toList 0 k_45 = true := by decide +kernel
theorem q_46 : g_ck (cX6_clear).data.toList 0 k_46 = true := by decide +kernel
theorem q_47 : g_ck (cX6_push).data.toList 0 k_47 = true := by decide +kernel
theorem q_48 : g_ck (cX6_pop).data.toList 0 k_48 = true := by decide +kernel
theorem q_49 : g_ck (cX6_keepUnder).data.toList 0 k_49 = true := by decide +kernel
theorem q_50 : g_ck (cX6_bringBack).data.toList 0 k_50 = true := by decide +kernel
theorem q_51 : g_ck (cX7_init).data.toList 0 k_51 = true := by decide +kernel
theorem q_52 : g_ck (cX7_looksAtNight).data.toList 0 k_52 = true := by decide +kernel
theorem q_53 : g_ck (cX7_read).data.toList 0 k_53 = true := by decide +kernel
theorem q_54 : g_ck (cX7_putFirstRule).data.toList 0 k_54 = true := by decide +kernel
theorem q_55 : g_ck (cX7_put).data.toList 0 k_55 = true := by decide +kernel
theorem q_56 : g_ck (cX7_putThing).data.toList 0 k_56 = true := by decide +kernel
theorem q_57 : g_ck (cX7_readJoined).data.toList 0 k_57 = true := by decide +kernel
theorem q_58 : g_ck (cX7_bindingOf).data.toList 0 k_58 = true := by decide +kernel
theorem q_59 : g_ck (cX7_readThing).data.toList 0 k_59 = true := by decide +kernel
theorem q_60 : g_ck (cX7_readNumber).data.toList 0 k_60 = true := by decide +kernel
theorem q_61 : g_ck (cX7_readInner).data.toList 0 k_61 = true := by decide +kernel
theorem q_62 : g_ck (cX7_value).data.toList 0 k_62 = true := by decide +kernel
theorem q_63 : g_ck (cX8_init).data.toList 0 k_63 = true := by decide +kernel
theorem q_64 : g_ck (cX8_append).data.toList 0 k_64 = true := by decide +kernel
theorem q_65 : g_ck (cX8_cut).data.toList 0 k_65 = true := by decide +kernel
theorem q_66 : g_ck (cX8_clear).data.toList 0 k_66 = true := by decide +kernel
theorem q_67 : g_ck (cX8_size).data.toList 0 k_67 = true := by decide +kernel
theorem q_68 : g_ck (cX8_at).data.toList 0 k_68 = true := by decide +kernel
theorem q_69 : g_ck (cX8_letterAt).data.toList 0 k_69 = true := by decide +kernel
theorem q_70 : g_ck (cX8_digitAt).data.toList 0 k_70 = true := by decide +kernel
theorem q_71 : g_ck (cX8_twoDigitsAt).data.toList 0 k_71 = true := by decide +kernel
theorem q_72 : g_ck (cX8_signedDigitAt).data.toList 0 k_72 = true := by decide +kernel
theorem q_73 : g_ck (cX8_misfit).data.toList 0 k_73 = true := by decide +kernel
theorem q_74 : g_ck (cX8_stands).data.toList 0 k_74 = true := by decide +kernel
theorem q_75 : g_ck (cX9_init).data.toList 0 k_75 = true := by decide +kernel
theorem q_76 : g_ck (cX9_copy).data.toList 0 k_76 = true := by decide +kernel
theorem q_77 : g_ck (cX9_add).data.toList 0 k_77 = true := by decide +kernel
theorem q_78 : g_ck (cX9_has).data.toList 0 k_78 = true := by decide +kernel
theorem q_79 : g_ck (cX9_all).data.toList 0 k_79 = true := by decide +kernel
theorem q_80 : g_ck (cX9_free).data.toList 0 k_80 = true := by decide +kernel
theorem q_81 : g_ck (cX9_ofLetter).data.toList 0 k_81 = true := by decide +kernel
theorem q_82 : g_ck (cX9_freeOf).data.toList 0 k_82 = true := by decide +kernel
theorem q_83 : g_ck (cX9_inBox).data.toList 0 k_83 = true := by decide +kernel
theorem q_84 : g_ck (cX9_whose).data.toList 0 k_84 = true := by decide +kernel
theorem q_85 : g_ck (cX9_moodsOf).data.toList 0 k_85 = true := by decide +kernel
theorem q_86 : g_ck (cX9_moodsOfAll).data.toList 0 k_86 = true := by decide +kernel
theorem q_87 : g_ck (cX9_farFromRest).data.toList 0 k_87 = true := by decide +kernel
theorem q_88 : g_ck (cX9_wearOfAll).data.toList 0 k_88 = true := by decide +kernel
theorem q_89 : g_ck (cX9_atHome).data.toList 0 k_89 = true := by decide +kernel
theorem q_90 : g_ck (cX9_hasTwoLetters).data.toList 0 k_90 = true := by decide +kernel
theorem q_91 : g_ck (cX9_lettersOf).data.toList 0 k_91 = true := by decide +kernel
theorem q_92 : g_ck (cX9_packedMoods).data.toList 0 k_92 = true := by decide +kernel
theorem q_93 : g_ck (cX9_wouldTake).data.toList 0 k_93 = true := by decide +kernel
theorem q_94 : g_ck (cX9_leastWorn).data.toList 0 k_94 = true := by decide +kernel
theorem q_95 : g_ck (cX9_setSorts).data.toList 0 k_95 = true := by decide +kernel
theorem q_96 : g_ck (cX9_moveTo).data.toList 0 k_96 = true := by decide +kernel
theorem q_97 : g_ck (cX9_clean).data.toList 0 k_97 = true := by decide +kernel
theorem q_98 : g_ck (cX9_castAnew).data.toList 0 k_98 = true := by decide +kernel
theorem q_99 : g_ck (cX9_distribute).data.toList 0 k_99 = true := by decide +kernel
theorem q_100 : g_ck (cX9_passNights).data.toList 0 k_100 = true := by decide +kernel
theorem q_101 : g_ck (cX9_passNight).data.toList 0 k_101 = true := by decide +kernel
theorem q_102 : g_ck (cX9_turnNow).data.toList 0 k_102 = true := by decide +kernel
theorem q_103 : g_ck (cX9_weighBoxes).data.toList 0 k_103 = true := by decide +kernel
theorem q_104 : g_ck (cX9_turn).data.toList 0 k_104 = true := by decide +kernel
theorem q_105 : g_ck (cX10_init).data.toList 0 k_105 = true := by decide +kernel
theorem q_106 : g_ck (cX10_read).data.toList 0 k_106 = true := by decide +kernel
theorem q_107 : g_ck (cX10_mostAtOnce).data.toList 0 k_107 = true := by decide +kernel
theorem q_108 : g_ck (cX10_canBeSet).data.toList 0 k_108 = true := by decide +kernel
theorem q_109 : g_ck (cX11_init).data.toList 0 k_109 = true := by decide +kernel
theorem q_110 : g_ck (cX11_sign).data.toList 0 k_110 = true := by decide +kernel
theorem q_111 : g_ck (cX11_end).data.toList 0 k_111 = true := by decide +kernel
theorem q_112 : g_ck (cX11_sorts).data.toList 0 k_112 = true := by decide +kernel
theorem q_113 : g_ck (cX11_rule).data.toList 0 k_113 = true := by decide +kernel
theorem q_114 : g_ck (cX11_sort).data.toList 0 k_114 = true := by decide +kernel
theorem q_115 : g_ck (cX11_box).data.toList 0 k_115 = true := by decide +kernel
theorem q_116 : g_ck (cX11_sheet).data.toList 0 k_116 = true := by decide +kernel
theorem q_117 : g_ck (cX11_sets).data.toList 0 k_117 = true := by decide +kernel
theorem q_118 : g_ck (cX11_nights).data.toList 0 k_118 = true := by decide +kernel
theorem q_119 : g_ck (cX11_moves).data.toList 0 k_119 = true := by decide +kernel
theorem q_120 : g_ck (cX11_cleans).data.toList 0 k_120 = true := by decide +kernel
theorem q_121 : g_ck (cX11_casts).data.toList 0 k_121 = true := by decide +kernel
theorem q_122 : g_ck (cX11_week).data.toList 0 k_122 = true := by decide +kernel
theorem q_123 : g_ck (cX11_undo).data.toList 0 k_123 = true := by decide +kernel
theorem q_124 : g_ck (cX11_tells).data.toList 0 k_124 = true := by decide +kernel
theorem q_125 : g_ck (cX11_often).data.toList 0 k_125 = true := by decide +kernel
theorem q_126 : g_ck (cX11_shortest).data.toList 0 k_126 = true := by decide +kernel
theorem q_127 : g_ck (cX11_bears).data.toList 0 k_127 = true := by decide +kernel
theorem q_128 : g_ck (cX11_spans).data.toList 0 k_128 = true := by decide +kernel
theorem q_129 : g_ck (cX11_packs).data.toList 0 k_129 = true := by decide +kernel
theorem q_130 : g_ck (cX11_later).data.toList 0 k_130 = true := by decide +kernel
theorem q_131 : g_ck (cX11_settles).data.toList 0 k_131 = true := by decide +kernel
theorem q_132 : g_ck (cX11_round).data.toList 0 k_132 = true := by decide +kernel
theorem q_133 : g_ck (cX11_gravest).data.toList 0 k_133 = true := by decide +kernel
theorem q_134 : g_ck (cX11_blows).data.toList 0 k_134 = true := by decide +kernel
theorem q_135 : g_ck (cX11_parts).data.toList 0 k_135 = true := by decide +kernel
theorem q_136 : g_ck (cX11_mixed).data.toList 0 k_136 = true := by decide +kernel
theorem q_137 : g_ck (cX11_rubs).data.toList 0 k_137 = true := by decide +kernel
theorem q_138 : g_ck (cX11_chord).data.toList 0 k_138 = true := by decide +kernel
theorem q_139 : g_ck (cX11_heard).data.toList 0 k_139 = true := by decide +kernel
theorem q_140 : g_ck (cX11_forget).data.toList 0 k_140 = true := by decide +kernel
theorem q_141 : g_ck (cX11_fits).data.toList 0 k_141 = true := by decide +kernel
theorem q_142 : g_ck (cX11_asks).data.toList 0 k_142 = true := by decide +kernel
theorem q_143 : g_ck (cX11_saw).data.toList 0 k_143 = true := by decide +kernel
theorem q_144 : g_ck (cX11_denies).data.toList 0 k_144 = true := by decide +kernel
theorem q_145 : g_ck (cX11_laws).data.toList 0 k_145 = true := by decide +kernel
theorem q_146 : g_ck (cX11_looks).data.toList 0 k_146 = true := by decide +kernel
theorem q_147 : g_ck (cX11_reads).data.toList 0 k_147 = true := by decide +kernel
theorem q_148 : g_ck (cX11_galley).data.toList 0 k_148 = true := by decide +kernel
theorem q_149 : g_ck (cX11_rests).data.toList 0 k_149 = true := by decide +kernel
theorem q_150 : g_ck (cX11_law).data.toList 0 k_150 = true := by decide +kernel
theorem q_151 : g_ck (cX11_years).data.toList 0 k_151 = true := by decide +kernel
theorem q_152 : g_ck (cX11_keep).data.toList 0 k_152 = true := by decide +kernel
theorem q_153 : g_ck (cX11_again).data.toList 0 k_153 = true := by decide +kernel
theorem q_154 : g_ck (cX11_count).data.toList 0 k_154 = true := by decide +kernel
theorem q_155 : g_ck (cX11_row).data.toList 0 k_155 = true := by decide +kernel
theorem q_156 : g_ck (cX11_isMood).data.toList 0 k_156 = true := by decide +kernel
theorem q_157 : g_ck (cX11_isBox).data.toList 0 k_157 = true := by decide +kernel
theorem q_158 : g_ck (cX11_putToMood).data.toList 0 k_158 = true := by decide +kernel
theorem q_159 : g_ck (cX11_readLetters).data.toList 0 k_159 = true := by decide +kernel
theorem q_160 : g_ck (cX11_undoable).data.toList 0 k_160 = true := by decide +kernel
theorem q_161 : g_ck (cX11_faultOfLines).data.toList 0 k_161 = true := by decide +kernel
theorem q_162 : g_ck (cX11_addLines).data.toList 0 k_162 = true := by decide +kernel
theorem q_163 : g_ck (cX11_entryOf).data.toList 0 k_163 = true := by decide +kernel
theorem q_164 : g_ck (cX11_faultOfWeek).data.toList 0 k_164 = true := by decide +kernel
theorem q_165 : g_ck (cX11_behindAct).data.toList 0 k_165 = true := by decide +kernel
theorem q_166 : g_ck (cX11_shapeOfAct).data.toList 0 k_166 = true := by decide +kernel
theorem q_167 : g_ck (cX11_doAct).data.toList 0 k_167 = true := by decide +kernel
theorem q_168 : g_ck (cX11_setLetters).data.toList 0 k_168 = true := by decide +kernel
theorem q_169 : g_ck (cX11_fewestToClean).data.toList 0 k_169 = true := by decide +kernel
theorem q_170 : g_ck (cX11_calms).data.toList 0 k_170 = true := by decide +kernel
theorem q_171 : g_ck (cX11_commonDivisor).data.toList 0 k_171 = true := by decide +kernel
theorem q_172 : g_ck (cX11_sells).data.toList 0 k_172 = true := by decide +kernel
theorem q_173 : g_ck (cX11_isContent).data.toList 0 k_173 = true := by decide +kernel
theorem q_174 : g_ck (cX11_nextDraw).data.toList 0 k_174 = true := by decide +kernel
theorem q_175 : g_ck (cX11_drawOf).data.toList 0 k_175 = true := by decide +kernel
theorem q_176 : g_ck (cX12_init).data.toList 0 k_176 = true := by decide +kernel
theorem q_177 : g_ck (cX12_thrown).data.toList 0 k_177 = true := by decide +kernel
theorem q_178 : g_ck (cX12_in).data.toList 0 k_178 = true := by decide +kernel
theorem q_179 : g_ck (cX12_has).data.toList 0 k_179 = true := by decide +kernel
theorem q_180 : g_ck (cX12_put).data.toList 0 k_180 = true := by decide +kernel
theorem q_181 : g_ck (cX12_lost).data.toList 0 k_181 = true := by decide +kernel
theorem q_182 : g_ck (cX12_tell).data.toList 0 k_182 = true := by decide +kernel
theorem q_183 : g_ck (cX12_isSort).data.toList 0 k_183 = true := by decide +kernel
theorem q_184 : g_ck (cX12_all).data.toList 0 k_184 = true := by decide +kernel
theorem q_185 : g_ck (cX12_sign).data.toList 0 k_185 = true := by decide +kernel
theorem q_186 : g_ck (cX12_end).data.toList 0 k_186 = true := by decide +kernel
theorem q_187 : g_ck (cX12_begin).data.toList 0 k_187 = true := by decide +kernel
theorem q_188 : g_ck (cX12_beginText).data.toList 0 k_188 = true := by decide +kernel
theorem q_189 : g_ck (cX12_here).data.toList 0 k_189 = true := by decide +kernel
theorem q_190 : g_ck (cX12_fine).data.toList 0 k_190 = true := by decide +kernel
theorem q_191 : g_ck (cX12_fault).data.toList 0 k_191 = true := by decide +kernel
theorem q_192 : g_ck (cX12_passes).data.toList 0 k_192 = true := by decide +kernel
theorem q_193 : g_ck (cX12_need).data.toList 0 k_193 = true := by decide +kernel
theorem q_194 : g_ck (cX12_oneOf).data.toList 0 k_194 = true := by decide +kernel
theorem q_195 : g_ck (cX12_number).data.toList 0 k_195 = true := by decide +kernel
theorem q_196 : g_ck (cX12_wasRight).data.toList 0 k_196 = true := by decide +kernel
theorem q_197 : g_ck (cX12_signedOf).data.toList 0 k_197 = true := by decide +kernel
theorem q_198 : g_ck (cX12_sorts).data.toList 0 k_198 = true := by decide +kernel
theorem q_199 : g_ck (cX12_held).data.toList 0 k_199 = true := by decide +kernel
theorem q_200 : g_ck (cX12_sum).data.toList 0 k_200 = true := by decide +kernel
theorem q_201 : g_ck (cX12_product).data.toList 0 k_201 = true := by decide +kernel
theorem q_202 : g_ck (cX12_letterOf).data.toList 0 k_202 = true := by decide +kernel
theorem q_203 : g_ck (cX12_thing).data.toList 0 k_203 = true := by decide +kernel
theorem q_204 : g_ck (cX12_readRule).data.toList 0 k_204 = true := by decide +kernel
theorem q_205 : g_ck (cX12_rule).data.toList 0 k_205 = true := by decide +kernel
theorem q_206 : g_ck (cX12_turnOf).data.toList 0 k_206 = true := by decide +kernel
theorem q_207 : g_ck (cX12_sort).data.toList 0 k_207 = true := by decide +kernel
theorem q_208 : g_ck (cX12_inBox).data.toList 0 k_208 = true := by decide +kernel
theorem q_209 : g_ck (cX12_moodsOf).data.toList 0 k_209 = true := by decide +kernel
theorem q_210 : g_ck (cX12_box).data.toList 0 k_210 = true := by decide +kernel
theorem q_211 : g_ck (cX12_wears).data.toList 0 k_211 = true := by decide +kernel
theorem q_212 : g_ck (cX12_sheet).data.toList 0 k_212 = true := by decide +kernel
theorem q_213 : g_ck (cX12_lay).data.toList 0 k_213 = true := by decide +kernel
theorem q_214 : g_ck (cX12_remember).data.toList 0 k_214 = true := by decide +kernel
theorem q_215 : g_ck (cX12_layNeed).data.toList 0 k_215 = true := by decide +kernel
theorem q_216 : g_ck (cX12_readLine).data.toList 0 k_216 = true := by decide +kernel
theorem q_217 : g_ck (cX12_takes).data.toList 0 k_217 = true := by decide +kernel
theorem q_218 : g_ck (cX12_goSet).data.toList 0 k_218 = true := by decide +kernel
theorem q_219 : g_ck (cX12_wouldTake).data.toList 0 k_219 = true := by decide +kernel
theorem q_220 : g_ck (cX12_sets).data.toList 0 k_220 = true := by decide +kernel
theorem q_221 : g_ck (cX12_goNight).data.toList 0 k_221 = true := by decide +kernel
theorem q_222 : g_ck (cX12_goNights).data.toList 0 k_222 = true := by decide +kernel
theorem q_223 : g_ck (cX12_atHome).data.toList 0 k_223 = true := by decide +kernel
theorem q_224 : g_ck (cX12_nights).data.toList 0 k_224 = true := by decide +kernel
theorem q_225 : g_ck (cX12_refusesMove).data.toList 0 k_225 = true := by decide +kernel
theorem q_226 : g_ck (cX12_moves).data.toList 0 k_226 = true := by decide +kernel
theorem q_227 : g_ck (cX12_refusesClean).data.toList 0 k_227 = true := by decide +kernel
theorem q_228 : g_ck (cX12_cleans).data.toList 0 k_228 = true := by decide +kernel
theorem q_229 : g_ck (cX12_refusesCast).data.toList 0 k_229 = true := by decide +kernel
theorem q_230 : g_ck (cX12_casts).data.toList 0 k_230 = true := by decide +kernel
theorem q_231 : g_ck (cX12_week).data.toList 0 k_231 = true := by decide +kernel
theorem q_232 : g_ck (cX12_readAct).data.toList 0 k_232 = true := by decide +kernel
theorem q_233 : g_ck (cX12_act).data.toList 0 k_233 = true := by decide +kernel
theorem q_234 : g_ck (cX12_undo).data.toList 0 k_234 = true := by decide +kernel
theorem q_235 : g_ck (cX12_tells).data.toList 0 k_235 = true := by decide +kernel
theorem q_236 : g_ck (cX12_free).data.toList 0 k_236 = true := by decide +kernel
theorem q_237 : g_ck (cX12_often).data.toList 0 k_237 = true := by decide +kernel
theorem q_238 : g_ck (cX12_shortest).data.toList 0 k_238 = true := by decide +kernel
theorem q_239 : g_ck (cX12_isText).data.toList 0 k_239 = true := by decide +kernel
theorem q_240 : g_ck (cX12_bears).data.toList 0 k_240 = true := by decide +kernel
theorem q_241 : g_ck (cX12_spans).data.toList 0 k_241 = true := by decide +kernel
theorem q_242 : g_ck (cX12_canSet).data.toList 0 k_242 = true := by decide +kernel
theorem q_243 : g_ck (cX12_packs).data.toList 0 k_243 = true := by decide +kernel
theorem q_244 : g_ck (cX12_goThen).data.toList 0 k_244 = true := by decide +kernel
theorem q_245 : g_ck (cX12_later).data.toList 0 k_245 = true := by decide +kernel
theorem q_246 : g_ck (cX12_layTrail).data.toList 0 k_246 = true := by decide +kernel
theorem q_247 : g_ck (cX12_areLike).data.toList 0 k_247 = true := by decide +kernel
theorem q_248 : g_ck (cX12_settles).data.toList 0 k_248 = true := by decide +kernel
theorem q_249 : g_ck (cX12_round).data.toList 0 k_249 = true := by decide +kernel
theorem q_250 : g_ck (cX12_gravest).data.toList 0 k_250 = true := by decide +kernel
theorem q_251 : g_ck (cX12_isCalm).data.toList 0 k_251 = true := by decide +kernel
theorem q_252 : g_ck (cX12_blows).data.toList 0 k_252 = true := by decide +kernel
theorem q_253 : g_ck (cX12_canBox).data.toList 0 k_253 = true := by decide +kernel
theorem q_254 : g_ck (cX12_parts).data.toList 0 k_254 = true := by decide +kernel
theorem q_255 : g_ck (cX12_mixed).data.toList 0 k_255 = true := by decide +kernel
theorem q_256 : g_ck (cX12_rubs).data.toList 0 k_256 = true := by decide +kernel
theorem q_257 : g_ck (cX12_isChord).data.toList 0 k_257 = true := by decide +kernel
theorem q_258 : g_ck (cX12_chord).data.toList 0 k_258 = true := by decide +kernel
theorem q_259 : g_ck (cX12_highOf).data.toList 0 k_259 = true := by decide +kernel
theorem q_260 : g_ck (cX12_heard).data.toList 0 k_260 = true := by decide +kernel
theorem q_261 : g_ck (cX12_forget).data.toList 0 k_261 = true := by decide +kernel
theorem q_262 : g_ck (cX12_isSo).data.toList 0 k_262 = true := by decide +kernel
theorem q_263 : g_ck (cX12_fitting).data.toList 0 k_263 = true := by decide +kernel
theorem q_264 : g_ck (cX12_fits).data.toList 0 k_264 = true := by decide +kernel
theorem q_265 : g_ck (cX12_asks).data.toList 0 k_265 = true := by decide +kernel
theorem q_266 : g_ck (cX12_isMood).data.toList 0 k_266 = true := by decide +kernel
theorem q_267 : g_ck (cX12_saw).data.toList 0 k_267 = true := by decide +kernel
theorem q_268 : g_ck (cX12_denies).data.toList 0 k_268 = true := by decide +kernel
theorem q_269 : g_ck (cX12_becomes).data.toList 0 k_269 = true := by decide +kernel
theorem q_270 : g_ck (cX12_isLaw).data.toList 0 k_270 = true := by decide +kernel
theorem q_271 : g_ck (cX12_laws).data.toList 0 k_271 = true := by decide +kernel
theorem q_272 : g_ck (cX12_looks).data.toList 0 k_272 = true := by decide +kernel
theorem q_273 : g_ck (cX12_common).data.toList 0 k_273 = true := by decide +kernel
theorem q_274 : g_ck (cX12_power).data.toList 0 k_274 = true := by decide +kernel
theorem q_275 : g_ck (cX12_reads).data.toList 0 k_275 = true := by decide +kernel
theorem q_276 : g_ck (cX12_galley).data.toList 0 k_276 = true := by decide +kernel
theorem q_277 : g_ck (cX12_gets).data.toList 0 k_277 = true := by decide +kernel
theorem q_278 : g_ck (cX12_isBest).data.toList 0 k_278 = true := by decide +kernel
theorem q_279 : g_ck (cX12_rests).data.toList 0 k_279 = true := by decide +kernel
theorem q_280 : g_ck (cX12_farBehind5).data.toList 0 k_280 = true := by decide +kernel
theorem q_281 : g_ck (cX12_law).data.toList 0 k_281 = true := by decide +kernel
theorem q_282 : g_ck (cX12_draw).data.toList 0 k_282 = true := by decide +kernel
theorem q_283 : g_ck (cX12_years).data.toList 0 k_283 = true := by decide +kernel
theorem q_284 : g_ck (cX12_keep).data.toList 0 k_284 = true := by decide +kernel
theorem q_285 : g_ck (cX12_again).data.toList 0 k_285 = true := by decide +kernel
theorem q_286 : g_ck (cX12_count).data.toList 0 k_286 = true := by decide +kernel
theorem q_287 : g_ck (cX12_row).data.toList 0 k_287 = true := by decide +kernel
theorem q_288 : g_ck (cJ6_numberOfTrailingZeros_0f7a4).data.toList 0 k_288 = true := by decide +kernel
theorem q_289 : g_ck (cJ6_bitCount_0f7a4).data.toList 0 k_289 = true := by decide +kernel
theorem q_290 : g_ck (cJ13_numberOfTrailingZeros_95d88).data.toList 0 k_290 = true := by decide +kernel
theorem q_291 : g_ck (cJ7_fill_53178).data.toList 0 k_291 = true := by decide +kernel
end
section
theorem g_mw {w : Cond} (h : w ∈ lw_tbl) (hg : goodWord w = true) : w ∈ g_tbl := List.mem_filter.mpr ⟨h, hg⟩
theorem gm_s0 {w : Cond} (h : w ∈ k2_sels lw_privs_1) (hg : goodWord w = true) : w ∈ g_tbl := by
  refine g_mw (List.mem_append_left _ ?_) hg
  unfold k2_sels at h ⊢
  obtain ⟨q, hq, he⟩ := List.mem_map.mp h
  refine List.mem_map.mpr ⟨q, ?_, he⟩
  unfold lw_privs
  simp only [List.mem_append]
  exact Or.inl hq
theorem gm_s1 {w : Cond} (h : w ∈ k2_sels lw_privs_2) (hg : goodWord w = true) : w ∈ g_tbl := by
  refine g_mw (List.mem_append_left _ ?_) hg
  unfold k2_sels at h ⊢
  obtain ⟨q, hq, he⟩ := List.mem_map.mp h
  refine List.mem_map.mpr ⟨q, ?_, he⟩
  unfold lw_privs
  simp only [List.mem_append]
  exact Or.inr (Or.inl hq)
theorem gm_s2 {w : Cond} (h : w ∈ k2_sels lw_privs_3) (hg : goodWord w = true) : w ∈ g_tbl := by
  refine g_mw (List.mem_append_left _ ?_) hg
  unfold k2_sels at h ⊢
  obtain ⟨q, hq, he⟩ := List.mem_map.mp h
  refine List.mem_map.mpr ⟨q, ?_, he⟩
  unfold lw_privs
  simp only [List.mem_append]
  exact Or.inr (Or.inr (Or.inl hq))
theorem gm_s3 {w : Cond} (h : w ∈ k2_sels lw_privs_4) (hg : goodWord w = true) : w ∈ g_tbl := by
  refine g_mw (List.mem_append_left _ ?_) hg
  unfold k2_sels at h ⊢
  obtain ⟨q, hq, he⟩ := List.mem_map.mp h
  refine List.mem_map.mpr ⟨q, ?_, he⟩
  unfold lw_privs
  simp only [List.mem_append]
  exact Or.inr (Or.inr (Or.inr (Or.inl hq)))
theorem gm_s4 {w : Cond} (h : w ∈ k2_sels lw_privs_5) (hg : goodWord w = true) : w ∈ g_tbl := by
  refine g_mw (List.mem_append_left _ ?_) hg
  unfold k2_sels at h ⊢
  obtain ⟨q, hq, he⟩ := List.mem_map.mp h
  refine List.mem_map.mpr ⟨q, ?_, he⟩
  unfold lw_privs
  simp only [List.mem_append]
  exact Or.inr (Or.inr (Or.inr (Or.inr (hq))))
def cw1_0 : List Cond := [(Jvm.Cond.initialized "TypeAtNightLaw"), (Jvm.Cond.initialized "TypeAtNight"), (Jvm.Cond.initialized "TypeAtNight$Text"), (Jvm.Cond.initialized "TypeAtNight$Numbers"), (Jvm.Cond.initialized "TypeAtNight$TypeCase"), (Jvm.Cond.initialized "TypeAtNight$Past"), (Jvm.Cond.initialized "TypeAtNight$Rule"), (Jvm.Cond.initialized "TypeAtNight$Letters"), (Jvm.Cond.initialized "TypeAtNight$Words"), (Jvm.Cond.initialized "TypeAtNight$Boxing"), (Jvm.Cond.initialized "TypeAtNight$Hearsay"), (Jvm.Cond.initialized "TypeAtNight$Mixing"), (Jvm.Cond.initialized "TypeAtNight$Galley"), (Jvm.Cond.initialized "TypeAtNightModel"), (Jvm.Cond.initialized "java/lang/Math"), (Jvm.Cond.initialized "java/lang/String")]
def cw1_1 : List Cond := [(Jvm.Cond.initialized "java/lang/StringLatin1"), (Jvm.Cond.initialized "jdk/internal/util/Preconditions"), (Jvm.Cond.initialized "java/lang/StringUTF16"), (Jvm.Cond.initialized "java/lang/Character"), (Jvm.Cond.initialized "java/lang/Throwable"), (Jvm.Cond.initialized "java/lang/Exception"), (Jvm.Cond.initialized "java/lang/RuntimeException"), (Jvm.Cond.initialized "java/util/NoSuchElementException"), (Jvm.Cond.initialized "java/util/Arrays"), (Jvm.Cond.initialized "java/lang/System"), (Jvm.Cond.initialized "java/lang/Number"), (Jvm.Cond.initialized "java/lang/Integer"), (Jvm.Cond.initialized "java/lang/Long"), (Jvm.Cond.classLink "TypeAtNightLaw" (8 : Nat) "TypeAtNight"), (Jvm.Cond.instantiable "TypeAtNight" (16 : Nat)), (Jvm.Cond.methodLink "TypeAtNightLaw" (22 : Nat) ({ cls := "TypeAtNight", name := "<init>", desc := "()V" } : Jvm.MethodName))]
def cw1_2 : List Cond := [(Jvm.Cond.instanceMethod ({ cls := "TypeAtNight", name := "<init>", desc := "()V" } : Jvm.MethodName)), (Jvm.Cond.code ({ cls := "TypeAtNight", name := "<init>", desc := "()V" } : Jvm.MethodName) prog_1_method_1_code (1 : Nat) (Option.none : Option Jvm.ClassFile.FieldType)), (Jvm.Cond.methodLink "TypeAtNight" (1 : Nat) ({ cls := "java/lang/Object", name := "<init>", desc := "()V" } : Jvm.MethodName)), (Jvm.Cond.instanceMethod ({ cls := "java/lang/Object", name := "<init>", desc := "()V" } : Jvm.MethodName)), (Jvm.Cond.code ({ cls := "java/lang/Object", name := "<init>", desc := "()V" } : Jvm.MethodName) object_method_1_code (1 : Nat) (Option.none : Option Jvm.ClassFile.FieldType)), (Jvm.Cond.classLink "TypeAtNight" (7 : Nat) "TypeAtNight$Text"), (Jvm.Cond.instantiable "TypeAtNight$Text" (2 : Nat)), (Jvm.Cond.methodLinkNest "TypeAtNight" (9 : Nat) ({ cls := "TypeAtNight$Text", name := "<init>", desc := "()V" } : Jvm.MethodName) "TypeAtNight"), (Jvm.Cond.instanceMethod ({ cls := "TypeAtNight$Text", name := "<init>", desc := "()V" } : Jvm.MethodName)), (Jvm.Cond.code ({ cls := "TypeAtNight$Text", name := "<init>", desc := "()V" } : Jvm.MethodName) prog_10_method_1_code (1 : Nat) (Option.none : Option Jvm.ClassFile.FieldType)), (Jvm.Cond.methodLink "TypeAtNight$Text" (3 : Nat) ({ cls := "java/lang/Object", name := "<init>", desc := "()V" } : Jvm.MethodName)), (Jvm.Cond.fieldLink "TypeAtNight$Text" (9 : Nat) "TypeAtNight$Text" "signs" "[C"), (Jvm.Cond.fieldLink "TypeAtNight$Text" (15 : Nat) "TypeAtNight$Text" "size" "I"), (Jvm.Cond.laysFinal "TypeAtNight$Text" "TypeAtNight$Text" "signs" "[C"), (Jvm.Cond.soleField "TypeAtNight$Text" "signs"), (Jvm.Cond.lays "TypeAtNight$Text" "TypeAtNight$Text" "size" "I")]
def cw1_3 : List Cond := [(Jvm.Cond.soleField "TypeAtNight$Text" "size"), (Jvm.Cond.superclass "TypeAtNight$Text" "java/lang/Object"), (Jvm.Cond.arrayClass Jvm.ClassFile.FieldType.char), (Jvm.Cond.classLink "TypeAtNight" (16 : Nat) "TypeAtNight$Numbers"), (Jvm.Cond.instantiable "TypeAtNight$Numbers" (2 : Nat)), (Jvm.Cond.methodLinkNest "TypeAtNight" (18 : Nat) ({ cls := "TypeAtNight$Numbers", name := "<init>", desc := "()V" } : Jvm.MethodName) "TypeAtNight"), (Jvm.Cond.instanceMethod ({ cls := "TypeAtNight$Numbers", name := "<init>", desc := "()V" } : Jvm.MethodName)), (Jvm.Cond.code ({ cls := "TypeAtNight$Numbers", name := "<init>", desc := "()V" } : Jvm.MethodName) prog_7_method_1_code (1 : Nat) (Option.none : Option Jvm.ClassFile.FieldType)), (Jvm.Cond.methodLink "TypeAtNight$Numbers" (3 : Nat) ({ cls := "java/lang/Object", name := "<init>", desc := "()V" } : Jvm.MethodName)), (Jvm.Cond.fieldLink "TypeAtNight$Numbers" (9 : Nat) "TypeAtNight$Numbers" "numbers" "[J"), (Jvm.Cond.fieldLink "TypeAtNight$Numbers" (15 : Nat) "TypeAtNight$Numbers" "size" "I"), (Jvm.Cond.laysFinal "TypeAtNight$Numbers" "TypeAtNight$Numbers" "numbers" "[J"), (Jvm.Cond.soleField "TypeAtNight$Numbers" "numbers"), (Jvm.Cond.lays "TypeAtNight$Numbers" "TypeAtNight$Numbers" "size" "I"), (Jvm.Cond.soleField "TypeAtNight$Numbers" "size"), (Jvm.Cond.superclass "TypeAtNight$Numbers" "java/lang/Object")]
def cw1_4 : List Cond := [(Jvm.Cond.arrayClass Jvm.ClassFile.FieldType.long), (Jvm.Cond.classLink "TypeAtNight" (23 : Nat) "TypeAtNight$TypeCase"), (Jvm.Cond.instantiable "TypeAtNight$TypeCase" (9 : Nat)), (Jvm.Cond.methodLinkNest "TypeAtNight" (25 : Nat) ({ cls := "TypeAtNight$TypeCase", name := "<init>", desc := "()V" } : Jvm.MethodName) "TypeAtNight"), (Jvm.Cond.instanceMethod ({ cls := "TypeAtNight$TypeCase", name := "<init>", desc := "()V" } : Jvm.MethodName)), (Jvm.Cond.code ({ cls := "TypeAtNight$TypeCase", name := "<init>", desc := "()V" } : Jvm.MethodName) prog_11_method_1_code (1 : Nat) (Option.none : Option Jvm.ClassFile.FieldType)), (Jvm.Cond.methodLink "TypeAtNight$TypeCase" (3 : Nat) ({ cls := "java/lang/Object", name := "<init>", desc := "()V" } : Jvm.MethodName)), (Jvm.Cond.fieldLink "TypeAtNight$TypeCase" (9 : Nat) "TypeAtNight$TypeCase" "letter" "[I"), (Jvm.Cond.fieldLink "TypeAtNight" (134 : Nat) "TypeAtNight$TypeCase" "letter" "[I"), (Jvm.Cond.fieldLink "TypeAtNight$Hearsay" (38 : Nat) "TypeAtNight$TypeCase" "letter" "[I"), (Jvm.Cond.fieldLink "TypeAtNight$TypeCase" (15 : Nat) "TypeAtNight$TypeCase" "wear" "[I"), (Jvm.Cond.fieldLink "TypeAtNight" (138 : Nat) "TypeAtNight$TypeCase" "wear" "[I"), (Jvm.Cond.fieldLink "TypeAtNight$Hearsay" (41 : Nat) "TypeAtNight$TypeCase" "wear" "[I"), (Jvm.Cond.fieldLink "TypeAtNight$TypeCase" (18 : Nat) "TypeAtNight$TypeCase" "mood" "[I"), (Jvm.Cond.fieldLink "TypeAtNight" (141 : Nat) "TypeAtNight$TypeCase" "mood" "[I"), (Jvm.Cond.fieldLink "TypeAtNight$Hearsay" (50 : Nat) "TypeAtNight$TypeCase" "mood" "[I")]
def cw1_5 : List Cond := [(Jvm.Cond.fieldLink "TypeAtNight$TypeCase" (21 : Nat) "TypeAtNight$TypeCase" "box" "[I"), (Jvm.Cond.fieldLink "TypeAtNight" (144 : Nat) "TypeAtNight$TypeCase" "box" "[I"), (Jvm.Cond.fieldLink "TypeAtNight$Hearsay" (47 : Nat) "TypeAtNight$TypeCase" "box" "[I"), (Jvm.Cond.fieldLink "TypeAtNight$TypeCase" (24 : Nat) "TypeAtNight$TypeCase" "size" "I"), (Jvm.Cond.fieldLink "TypeAtNight$Hearsay" (33 : Nat) "TypeAtNight$TypeCase" "size" "I"), (Jvm.Cond.fieldLink "TypeAtNight$Past" (40 : Nat) "TypeAtNight$TypeCase" "size" "I"), (Jvm.Cond.fieldLink "TypeAtNight" (176 : Nat) "TypeAtNight$TypeCase" "size" "I"), (Jvm.Cond.fieldLink "TypeAtNight$TypeCase" (28 : Nat) "TypeAtNight$TypeCase" "standing" "I"), (Jvm.Cond.fieldLink "TypeAtNight" (147 : Nat) "TypeAtNight$TypeCase" "standing" "I"), (Jvm.Cond.fieldLink "TypeAtNight$Hearsay" (44 : Nat) "TypeAtNight$TypeCase" "standing" "I"), (Jvm.Cond.fieldLink "TypeAtNight$TypeCase" (31 : Nat) "TypeAtNight$TypeCase" "night" "I"), (Jvm.Cond.fieldLink "TypeAtNight" (395 : Nat) "TypeAtNight$TypeCase" "night" "I"), (Jvm.Cond.fieldLink "TypeAtNight$TypeCase" (34 : Nat) "TypeAtNight$TypeCase" "moodsInBox" "[I"), (Jvm.Cond.fieldLink "TypeAtNight$TypeCase" (37 : Nat) "TypeAtNight$TypeCase" "sortsInBox" "[I"), (Jvm.Cond.laysFinal "TypeAtNight$TypeCase" "TypeAtNight$TypeCase" "letter" "[I"), (Jvm.Cond.soleField "TypeAtNight$TypeCase" "letter")]
def cw1_6 : List Cond := [(Jvm.Cond.laysFinal "TypeAtNight$TypeCase" "TypeAtNight$TypeCase" "wear" "[I"), (Jvm.Cond.soleField "TypeAtNight$TypeCase" "wear"), (Jvm.Cond.laysFinal "TypeAtNight$TypeCase" "TypeAtNight$TypeCase" "mood" "[I"), (Jvm.Cond.soleField "TypeAtNight$TypeCase" "mood"), (Jvm.Cond.laysFinal "TypeAtNight$TypeCase" "TypeAtNight$TypeCase" "box" "[I"), (Jvm.Cond.soleField "TypeAtNight$TypeCase" "box"), (Jvm.Cond.lays "TypeAtNight$TypeCase" "TypeAtNight$TypeCase" "size" "I"), (Jvm.Cond.soleField "TypeAtNight$TypeCase" "size"), (Jvm.Cond.lays "TypeAtNight$TypeCase" "TypeAtNight$TypeCase" "standing" "I"), (Jvm.Cond.soleField "TypeAtNight$TypeCase" "standing"), (Jvm.Cond.lays "TypeAtNight$TypeCase" "TypeAtNight$TypeCase" "night" "I"), (Jvm.Cond.soleField "TypeAtNight$TypeCase" "night"), (Jvm.Cond.laysFinal "TypeAtNight$TypeCase" "TypeAtNight$TypeCase" "moodsInBox" "[I"), (Jvm.Cond.soleField "TypeAtNight$TypeCase" "moodsInBox"), (Jvm.Cond.laysFinal "TypeAtNight$TypeCase" "TypeAtNight$TypeCase" "sortsInBox" "[I"), (Jvm.Cond.soleField "TypeAtNight$TypeCase" "sortsInBox")]
def cw1_7 : List Cond := [(Jvm.Cond.superclass "TypeAtNight$TypeCase" "java/lang/Object"), (Jvm.Cond.arrayClass Jvm.ClassFile.FieldType.int), (Jvm.Cond.classLink "TypeAtNight" (39 : Nat) "TypeAtNight$Past"), (Jvm.Cond.instantiable "TypeAtNight$Past" (5 : Nat)), (Jvm.Cond.methodLink "TypeAtNight" (41 : Nat) ({ cls := "TypeAtNight$Past", name := "<init>", desc := "()V" } : Jvm.MethodName)), (Jvm.Cond.instanceMethod ({ cls := "TypeAtNight$Past", name := "<init>", desc := "()V" } : Jvm.MethodName)), (Jvm.Cond.code ({ cls := "TypeAtNight$Past", name := "<init>", desc := "()V" } : Jvm.MethodName) prog_8_method_1_code (2 : Nat) (Option.none : Option Jvm.ClassFile.FieldType)), (Jvm.Cond.methodLink "TypeAtNight$Past" (1 : Nat) ({ cls := "java/lang/Object", name := "<init>", desc := "()V" } : Jvm.MethodName)), (Jvm.Cond.classLink "TypeAtNight$Past" (9 : Nat) "TypeAtNight$TypeCase"), (Jvm.Cond.arrayOver (Jvm.ClassFile.FieldType.object "TypeAtNight$TypeCase")), (Jvm.Cond.methodLinkNest "TypeAtNight$Past" (29 : Nat) ({ cls := "TypeAtNight$TypeCase", name := "<init>", desc := "()V" } : Jvm.MethodName) "TypeAtNight"), (Jvm.Cond.fieldLink "TypeAtNight$Past" (11 : Nat) "TypeAtNight$Past" "cases" "[LTypeAtNight$TypeCase;"), (Jvm.Cond.fieldLink "TypeAtNight$Past" (15 : Nat) "TypeAtNight$Past" "kept" "[LTypeAtNight$TypeCase;"), (Jvm.Cond.fieldLink "TypeAtNight$Past" (18 : Nat) "TypeAtNight$Past" "isKept" "[Z"), (Jvm.Cond.fieldLink "TypeAtNight$Past" (22 : Nat) "TypeAtNight$Past" "size" "I"), (Jvm.Cond.fieldLink "TypeAtNight$Past" (26 : Nat) "TypeAtNight$Past" "next" "I")]
def cw1_8 : List Cond := [(Jvm.Cond.laysFinal "TypeAtNight$Past" "TypeAtNight$Past" "cases" "[LTypeAtNight$TypeCase;"), (Jvm.Cond.soleField "TypeAtNight$Past" "cases"), (Jvm.Cond.laysFinal "TypeAtNight$Past" "TypeAtNight$Past" "kept" "[LTypeAtNight$TypeCase;"), (Jvm.Cond.soleField "TypeAtNight$Past" "kept"), (Jvm.Cond.laysFinal "TypeAtNight$Past" "TypeAtNight$Past" "isKept" "[Z"), (Jvm.Cond.soleField "TypeAtNight$Past" "isKept"), (Jvm.Cond.lays "TypeAtNight$Past" "TypeAtNight$Past" "size" "I"), (Jvm.Cond.soleField "TypeAtNight$Past" "size"), (Jvm.Cond.lays "TypeAtNight$Past" "TypeAtNight$Past" "next" "I"), (Jvm.Cond.soleField "TypeAtNight$Past" "next"), (Jvm.Cond.superclass "TypeAtNight$Past" "java/lang/Object"), (Jvm.Cond.arrayClass Jvm.ClassFile.FieldType.boolean), (Jvm.Cond.classLink "TypeAtNight" (46 : Nat) "TypeAtNight$Rule"), (Jvm.Cond.instantiable "TypeAtNight$Rule" (7 : Nat)), (Jvm.Cond.methodLink "TypeAtNight" (48 : Nat) ({ cls := "TypeAtNight$Rule", name := "<init>", desc := "()V" } : Jvm.MethodName)), (Jvm.Cond.instanceMethod ({ cls := "TypeAtNight$Rule", name := "<init>", desc := "()V" } : Jvm.MethodName))]
def cw1_9 : List Cond := [(Jvm.Cond.code ({ cls := "TypeAtNight$Rule", name := "<init>", desc := "()V" } : Jvm.MethodName) prog_9_method_1_code (1 : Nat) (Option.none : Option Jvm.ClassFile.FieldType)), (Jvm.Cond.methodLink "TypeAtNight$Rule" (3 : Nat) ({ cls := "java/lang/Object", name := "<init>", desc := "()V" } : Jvm.MethodName)), (Jvm.Cond.methodLink "TypeAtNight$Rule" (35 : Nat) ({ cls := "TypeAtNight$Rule", name := "putFirstRule", desc := "()V" } : Jvm.MethodName)), (Jvm.Cond.privateMethod ({ cls := "TypeAtNight$Rule", name := "putFirstRule", desc := "()V" } : Jvm.MethodName)), (Jvm.Cond.instanceMethod ({ cls := "TypeAtNight$Rule", name := "putFirstRule", desc := "()V" } : Jvm.MethodName)), (Jvm.Cond.code ({ cls := "TypeAtNight$Rule", name := "putFirstRule", desc := "()V" } : Jvm.MethodName) prog_9_method_4_code (1 : Nat) (Option.none : Option Jvm.ClassFile.FieldType)), (Jvm.Cond.methodLink "TypeAtNight$Rule" (53 : Nat) ({ cls := "TypeAtNight$Rule", name := "putThing", desc := "(I)V" } : Jvm.MethodName)), (Jvm.Cond.privateMethod ({ cls := "TypeAtNight$Rule", name := "putThing", desc := "(I)V" } : Jvm.MethodName)), (Jvm.Cond.instanceMethod ({ cls := "TypeAtNight$Rule", name := "putThing", desc := "(I)V" } : Jvm.MethodName)), (Jvm.Cond.code ({ cls := "TypeAtNight$Rule", name := "putThing", desc := "(I)V" } : Jvm.MethodName) prog_9_method_6_code (2 : Nat) (Option.none : Option Jvm.ClassFile.FieldType)), (Jvm.Cond.methodLink "TypeAtNight$Rule" (57 : Nat) ({ cls := "TypeAtNight$Rule", name := "put", desc := "(I)V" } : Jvm.MethodName)), (Jvm.Cond.privateMethod ({ cls := "TypeAtNight$Rule", name := "put", desc := "(I)V" } : Jvm.MethodName)), (Jvm.Cond.instanceMethod ({ cls := "TypeAtNight$Rule", name := "put", desc := "(I)V" } : Jvm.MethodName)), (Jvm.Cond.code ({ cls := "TypeAtNight$Rule", name := "put", desc := "(I)V" } : Jvm.MethodName) prog_9_method_5_code (2 : Nat) (Option.none : Option Jvm.ClassFile.FieldType)), (Jvm.Cond.fieldLink "TypeAtNight$Rule" (9 : Nat) "TypeAtNight$Rule" "things" "[I"), (Jvm.Cond.fieldLink "TypeAtNight$TypeCase" (125 : Nat) "TypeAtNight$Rule" "things" "[I")]
def cw1_10 : List Cond := [(Jvm.Cond.fieldLink "TypeAtNight$Rule" (15 : Nat) "TypeAtNight$Rule" "steps" "[I"), (Jvm.Cond.fieldLink "TypeAtNight$Rule" (18 : Nat) "TypeAtNight$Rule" "stack" "[I"), (Jvm.Cond.fieldLink "TypeAtNight$Rule" (21 : Nat) "TypeAtNight$Rule" "size" "I"), (Jvm.Cond.fieldLink "TypeAtNight$Rule" (25 : Nat) "TypeAtNight$Rule" "hasNight" "Z"), (Jvm.Cond.fieldLink "TypeAtNight$Rule" (29 : Nat) "TypeAtNight$Rule" "at" "I"), (Jvm.Cond.fieldLink "TypeAtNight$Rule" (32 : Nat) "TypeAtNight$Rule" "end" "I"), (Jvm.Cond.laysFinal "TypeAtNight$Rule" "TypeAtNight$Rule" "things" "[I"), (Jvm.Cond.soleField "TypeAtNight$Rule" "things"), (Jvm.Cond.laysFinal "TypeAtNight$Rule" "TypeAtNight$Rule" "steps" "[I"), (Jvm.Cond.soleField "TypeAtNight$Rule" "steps"), (Jvm.Cond.laysFinal "TypeAtNight$Rule" "TypeAtNight$Rule" "stack" "[I"), (Jvm.Cond.soleField "TypeAtNight$Rule" "stack"), (Jvm.Cond.lays "TypeAtNight$Rule" "TypeAtNight$Rule" "size" "I"), (Jvm.Cond.soleField "TypeAtNight$Rule" "size"), (Jvm.Cond.lays "TypeAtNight$Rule" "TypeAtNight$Rule" "hasNight" "Z"), (Jvm.Cond.soleField "TypeAtNight$Rule" "hasNight")]
def cw1_11 : List Cond := [(Jvm.Cond.lays "TypeAtNight$Rule" "TypeAtNight$Rule" "at" "I"), (Jvm.Cond.soleField "TypeAtNight$Rule" "at"), (Jvm.Cond.lays "TypeAtNight$Rule" "TypeAtNight$Rule" "end" "I"), (Jvm.Cond.soleField "TypeAtNight$Rule" "end"), (Jvm.Cond.superclass "TypeAtNight$Rule" "java/lang/Object"), (Jvm.Cond.classLink "TypeAtNight" (56 : Nat) "TypeAtNight$Letters"), (Jvm.Cond.instantiable "TypeAtNight$Letters" (4 : Nat)), (Jvm.Cond.methodLinkNest "TypeAtNight" (58 : Nat) ({ cls := "TypeAtNight$Letters", name := "<init>", desc := "()V" } : Jvm.MethodName) "TypeAtNight"), (Jvm.Cond.instanceMethod ({ cls := "TypeAtNight$Letters", name := "<init>", desc := "()V" } : Jvm.MethodName)), (Jvm.Cond.code ({ cls := "TypeAtNight$Letters", name := "<init>", desc := "()V" } : Jvm.MethodName) prog_5_method_1_code (1 : Nat) (Option.none : Option Jvm.ClassFile.FieldType)), (Jvm.Cond.methodLink "TypeAtNight$Letters" (3 : Nat) ({ cls := "java/lang/Object", name := "<init>", desc := "()V" } : Jvm.MethodName)), (Jvm.Cond.fieldLink "TypeAtNight$Letters" (9 : Nat) "TypeAtNight$Letters" "need" "[I"), (Jvm.Cond.fieldLink "TypeAtNight" (268 : Nat) "TypeAtNight$Letters" "need" "[I"), (Jvm.Cond.fieldLink "TypeAtNight$TypeCase" (77 : Nat) "TypeAtNight$Letters" "need" "[I"), (Jvm.Cond.fieldLink "TypeAtNight$Letters" (15 : Nat) "TypeAtNight$Letters" "size" "I"), (Jvm.Cond.fieldLink "TypeAtNight" (367 : Nat) "TypeAtNight$Letters" "size" "I")]
def cw1_12 : List Cond := [(Jvm.Cond.fieldLink "TypeAtNight$Letters" (19 : Nat) "TypeAtNight$Letters" "pools" "[I"), (Jvm.Cond.fieldLink "TypeAtNight$Letters" (22 : Nat) "TypeAtNight$Letters" "pool" "I"), (Jvm.Cond.laysFinal "TypeAtNight$Letters" "TypeAtNight$Letters" "need" "[I"), (Jvm.Cond.soleField "TypeAtNight$Letters" "need"), (Jvm.Cond.lays "TypeAtNight$Letters" "TypeAtNight$Letters" "size" "I"), (Jvm.Cond.soleField "TypeAtNight$Letters" "size"), (Jvm.Cond.laysFinal "TypeAtNight$Letters" "TypeAtNight$Letters" "pools" "[I"), (Jvm.Cond.soleField "TypeAtNight$Letters" "pools"), (Jvm.Cond.lays "TypeAtNight$Letters" "TypeAtNight$Letters" "pool" "I"), (Jvm.Cond.soleField "TypeAtNight$Letters" "pool"), (Jvm.Cond.superclass "TypeAtNight$Letters" "java/lang/Object"), (Jvm.Cond.classLink "TypeAtNight" (63 : Nat) "TypeAtNight$Words"), (Jvm.Cond.instantiable "TypeAtNight$Words" (3 : Nat)), (Jvm.Cond.methodLinkNest "TypeAtNight" (65 : Nat) ({ cls := "TypeAtNight$Words", name := "<init>", desc := "()V" } : Jvm.MethodName) "TypeAtNight"), (Jvm.Cond.instanceMethod ({ cls := "TypeAtNight$Words", name := "<init>", desc := "()V" } : Jvm.MethodName)), (Jvm.Cond.code ({ cls := "TypeAtNight$Words", name := "<init>", desc := "()V" } : Jvm.MethodName) prog_12_method_1_code (1 : Nat) (Option.none : Option Jvm.ClassFile.FieldType))]
def cw1_13 : List Cond := [(Jvm.Cond.methodLink "TypeAtNight$Words" (3 : Nat) ({ cls := "java/lang/Object", name := "<init>", desc := "()V" } : Jvm.MethodName)), (Jvm.Cond.fieldLink "TypeAtNight$Words" (11 : Nat) "TypeAtNight$Words" "need" "[I"), (Jvm.Cond.fieldLink "TypeAtNight$Words" (15 : Nat) "TypeAtNight$Words" "there" "[I"), (Jvm.Cond.fieldLink "TypeAtNight$Words" (18 : Nat) "TypeAtNight$Words" "size" "I"), (Jvm.Cond.laysFinal "TypeAtNight$Words" "TypeAtNight$Words" "need" "[I"), (Jvm.Cond.soleField "TypeAtNight$Words" "need"), (Jvm.Cond.laysFinal "TypeAtNight$Words" "TypeAtNight$Words" "there" "[I"), (Jvm.Cond.soleField "TypeAtNight$Words" "there"), (Jvm.Cond.lays "TypeAtNight$Words" "TypeAtNight$Words" "size" "I"), (Jvm.Cond.soleField "TypeAtNight$Words" "size"), (Jvm.Cond.superclass "TypeAtNight$Words" "java/lang/Object"), (Jvm.Cond.classLink "TypeAtNight" (70 : Nat) "TypeAtNight$Boxing"), (Jvm.Cond.instantiable "TypeAtNight$Boxing" (2 : Nat)), (Jvm.Cond.methodLinkNest "TypeAtNight" (72 : Nat) ({ cls := "TypeAtNight$Boxing", name := "<init>", desc := "()V" } : Jvm.MethodName) "TypeAtNight"), (Jvm.Cond.instanceMethod ({ cls := "TypeAtNight$Boxing", name := "<init>", desc := "()V" } : Jvm.MethodName)), (Jvm.Cond.code ({ cls := "TypeAtNight$Boxing", name := "<init>", desc := "()V" } : Jvm.MethodName) prog_2_method_1_code (1 : Nat) (Option.none : Option Jvm.ClassFile.FieldType))]
def cw1_14 : List Cond := [(Jvm.Cond.methodLink "TypeAtNight$Boxing" (3 : Nat) ({ cls := "java/lang/Object", name := "<init>", desc := "()V" } : Jvm.MethodName)), (Jvm.Cond.fieldLink "TypeAtNight$Boxing" (9 : Nat) "TypeAtNight$Boxing" "place" "[I"), (Jvm.Cond.fieldLink "TypeAtNight" (314 : Nat) "TypeAtNight$Boxing" "place" "[I"), (Jvm.Cond.fieldLink "TypeAtNight$Boxing" (15 : Nat) "TypeAtNight$Boxing" "apart" "[I"), (Jvm.Cond.laysFinal "TypeAtNight$Boxing" "TypeAtNight$Boxing" "place" "[I"), (Jvm.Cond.soleField "TypeAtNight$Boxing" "place"), (Jvm.Cond.laysFinal "TypeAtNight$Boxing" "TypeAtNight$Boxing" "apart" "[I"), (Jvm.Cond.soleField "TypeAtNight$Boxing" "apart"), (Jvm.Cond.superclass "TypeAtNight$Boxing" "java/lang/Object"), (Jvm.Cond.classLink "TypeAtNight" (77 : Nat) "TypeAtNight$Hearsay"), (Jvm.Cond.instantiable "TypeAtNight$Hearsay" (2 : Nat)), (Jvm.Cond.methodLinkNest "TypeAtNight" (79 : Nat) ({ cls := "TypeAtNight$Hearsay", name := "<init>", desc := "()V" } : Jvm.MethodName) "TypeAtNight"), (Jvm.Cond.instanceMethod ({ cls := "TypeAtNight$Hearsay", name := "<init>", desc := "()V" } : Jvm.MethodName)), (Jvm.Cond.code ({ cls := "TypeAtNight$Hearsay", name := "<init>", desc := "()V" } : Jvm.MethodName) prog_4_method_1_code (1 : Nat) (Option.none : Option Jvm.ClassFile.FieldType)), (Jvm.Cond.methodLink "TypeAtNight$Hearsay" (3 : Nat) ({ cls := "java/lang/Object", name := "<init>", desc := "()V" } : Jvm.MethodName)), (Jvm.Cond.fieldLink "TypeAtNight$Hearsay" (11 : Nat) "TypeAtNight$Hearsay" "questions" "[I")]
set_option maxRecDepth 100000 in
theorem ce_1 : tables_1_1 = cw1_0 ++ (cw1_1 ++ (cw1_2 ++ (cw1_3 ++ (cw1_4 ++ (cw1_5 ++ (cw1_6 ++ (cw1_7 ++ (cw1_8 ++ (cw1_9 ++ (cw1_10 ++ (cw1_11 ++ (cw1_12 ++ (cw1_13 ++ (cw1_14)))))))))))))) := rfl
theorem ct_1 {w : Cond} (h : w ∈ tables_1_1) : w ∈ lw_tbl := by
  refine List.mem_append_right _ ?_
  unfold tables_1
  simp only [List.mem_append]
  exact Or.inl h
theorem gm_w1_0 {w : Cond} (h : w ∈ cw1_0) (hg : goodWord w = true) : w ∈ g_tbl := g_mw (ct_1 (by rw [ce_1]; exact List.mem_append_left _ h)) hg
theorem gm_w1_1 {w : Cond} (h : w ∈ cw1_1) (hg : goodWord w = true) : w ∈ g_tbl := g_mw (ct_1 (by rw [ce_1]; exact List.mem_append_right _ (List.mem_append_left _ h))) hg
theorem gm_w1_2 {w : Cond} (h : w ∈ cw1_2) (hg : goodWord w = true) : w ∈ g_tbl := g_mw (ct_1 (by rw [ce_1]; exact List.mem_append_right _ (List.mem_append_right _ (List.mem_append_left _ h)))) hg
theorem gm_w1_3 {w : Cond} (h : w ∈ cw1_3) (hg : goodWord w = true) : w ∈ g_tbl := g_mw (ct_1 (by rw [ce_1]; exact List.mem_append_right _ (List.mem_append_right _ (List.mem_append_right _ (List.mem_append_left _ h))))) hg
theorem gm_w1_4 {w : Cond} (h : w ∈ cw1_4) (hg : goodWord w = true) : w ∈ g_tbl := g_mw (ct_1 (by rw [ce_1]; exact List.mem_append_right _ (List.mem_append_right _ (List.mem_append_right _ (List.mem_append_right _ (List.mem_append_left _ h)))))) hg
theorem gm_w1_5 {w : Cond} (h : w ∈ cw1_5) (hg : goodWord w = true) : w ∈ g_tbl := g_mw (ct_1 (by rw [ce_1]; exact List.mem_append_right _ (List.mem_append_right _ (List.mem_append_right _ (List.mem_append_right _ (List.mem_append_right _ (List.mem_append_left _ h))))))) hg
theorem gm_w1_6 {w : Cond} (h : w ∈ cw1_6) (hg : goodWord w = true) : w ∈ g_tbl := g_mw (ct_1 (by rw [ce_1]; exact List.mem_append_right _ (List.mem_append_right _ (List.mem_append_right _ (List.mem_append_right _ (List.mem_append_right _ (List.mem_append_right _ (List.mem_append_left _ h)))))))) hg
theorem gm_w1_7 {w : Cond} (h : w ∈ cw1_7) (hg : goodWord w = true) : w ∈ g_tbl := g_mw (ct_1 (by rw [ce_1]; exact List.mem_append_right _ (List.mem_append_right _ (List.mem_append_right _ (List.mem_append_right _ (List.mem_append_right _ (List.mem_append_right _ (List.mem_append_right _ (List.mem_append_left _ h))))))))) hg
theorem gm_w1_8 {w : Cond} (h : w ∈ cw1_8) (hg : goodWord w = true) : w ∈ g_tbl := g_mw (ct_1 (by rw [ce_1]; exact List.mem_append_right _ (List.mem_append_right _ (List.mem_append_right _ (List.mem_append_right _ (List.mem_append_right _ (List.mem_append_right _ (List.mem_append_right _ (List.mem_append_right _ (List.mem_append_left _ h)))))))))) hg
theorem gm_w1_9 {w : Cond} (h : w ∈ cw1_9) (hg : goodWord w = true) : w ∈ g_tbl := g_mw (ct_1 (by rw [ce_1]; exact List.mem_append_right _ (List.mem_append_right _ (List.mem_append_right _ (List.mem_append_right _ (List.mem_append_right _ (List.mem_append_right _ (List.mem_append_right _ (List.mem_append_right _ (List.mem_append_right _ (List.mem_append_left _ h))))))))))) hg
theorem gm_w1_10 {w : Cond} (h : w ∈ cw1_10) (hg : goodWord w = true) : w ∈ g_tbl := g_mw (ct_1 (by rw [ce_1]; exact List.mem_append_right _ (List.mem_append_right _ (List.mem_append_right _ (List.mem_append_right _ (List.mem_append_right _ (List.mem_append_right _ (List.mem_append_right _ (List.mem_append_right _ (List.mem_append_right _ (List.mem_append_right _ (List.mem_append_left _ h)))))))))))) hg
theorem gm_w1_11 {w : Cond} (h : w ∈ cw1_11) (hg : goodWord w = true) : w ∈ g_tbl := g_mw (ct_1 (by rw [ce_1]; exact List.mem_append_right _ (List.mem_append_right _ (List.mem_append_right _ (List.mem_append_right _ (List.mem_append_right _ (List.mem_append_right _ (List.mem_append_right _ (List.mem_append_right _ (List.mem_append_right _ (List.mem_append_right _ (List.mem_append_right _ (List.mem_append_left _ h))))))))))))) hg
theorem gm_w1_12 {w : Cond} (h : w ∈ cw1_12) (hg : goodWord w = true) : w ∈ g_tbl := g_mw (ct_1 (by rw [ce_1]; exact List.mem_append_right _ (List.mem_append_right _ (List.mem_append_right _ (List.mem_append_right _ (List.mem_append_right _ (List.mem_append_right _ (List.mem_append_right _ (List.mem_append_right _ (List.mem_append_right _ (List.mem_append_right _ (List.mem_append_right _ (List.mem_append_right _ (List.mem_append_left _ h)))))))))))))) hg
theorem gm_w1_13 {w : Cond} (h : w ∈ cw1_13) (hg : goodWord w = true) : w ∈ g_tbl := g_mw (ct_1 (by rw [ce_1]; exact List.mem_append_right _ (List.mem_append_right _ (List.mem_append_right _ (List.mem_append_right _ (List.mem_append_right _ (List.mem_append_right _ (List.mem_append_right _ (List.mem_append_right _ (List.mem_append_right _ (List.mem_append_right _ (List.mem_append_right _ (List.mem_append_right _ (List.mem_append_right _ (List.mem_append_left _ h))))))))))))))) hg
theorem gm_w1_14 {w : Cond} (h : w ∈ cw1_14) (hg : goodWord w = true) : w ∈ g_tbl := g_mw (ct_1 (by rw [ce_1]; exact List.mem_append_right _ (List.mem_append_right _ (List.mem_append_right _ (List.mem_append_right _ (List.mem_append_right _ (List.mem_append_right _ (List.mem_append_right _ (List.mem_append_right _ (List.mem_append_right _ (List.mem_append_right _ (List.mem_append_right _ (List.mem_append_right _ (List.mem_append_right _ (List.mem_append_right _ (h)))))))))))))))) hg
def cw2_0 : List Cond := [(Jvm.Cond.fieldLink "TypeAtNight$Hearsay" (15 : Nat) "TypeAtNight$Hearsay" "size" "I"), (Jvm.Cond.laysFinal "TypeAtNight$Hearsay" "TypeAtNight$Hearsay" "questions" "[I"), (Jvm.Cond.soleField "TypeAtNight$Hearsay" "questions"), (Jvm.Cond.lays "TypeAtNight$Hearsay" "TypeAtNight$Hearsay" "size" "I"), (Jvm.Cond.soleField "TypeAtNight$Hearsay" "size"), (Jvm.Cond.superclass "TypeAtNight$Hearsay" "java/lang/Object"), (Jvm.Cond.classLink "TypeAtNight" (84 : Nat) "TypeAtNight$Mixing"), (Jvm.Cond.instantiable "TypeAtNight$Mixing" (5 : Nat)), (Jvm.Cond.methodLinkNest "TypeAtNight" (86 : Nat) ({ cls := "TypeAtNight$Mixing", name := "<init>", desc := "()V" } : Jvm.MethodName) "TypeAtNight"), (Jvm.Cond.instanceMethod ({ cls := "TypeAtNight$Mixing", name := "<init>", desc := "()V" } : Jvm.MethodName)), (Jvm.Cond.code ({ cls := "TypeAtNight$Mixing", name := "<init>", desc := "()V" } : Jvm.MethodName) prog_6_method_1_code (1 : Nat) (Option.none : Option Jvm.ClassFile.FieldType)), (Jvm.Cond.methodLink "TypeAtNight$Mixing" (3 : Nat) ({ cls := "java/lang/Object", name := "<init>", desc := "()V" } : Jvm.MethodName)), (Jvm.Cond.fieldLink "TypeAtNight$Mixing" (11 : Nat) "TypeAtNight$Mixing" "moods" "[I"), (Jvm.Cond.fieldLink "TypeAtNight$Mixing" (15 : Nat) "TypeAtNight$Mixing" "besides" "[I"), (Jvm.Cond.fieldLink "TypeAtNight$Mixing" (18 : Nat) "TypeAtNight$Mixing" "outcomes" "[I"), (Jvm.Cond.fieldLink "TypeAtNight$Mixing" (21 : Nat) "TypeAtNight$Mixing" "lawsByOutcome" "[I")]
def cw2_1 : List Cond := [(Jvm.Cond.fieldLink "TypeAtNight$Mixing" (24 : Nat) "TypeAtNight$Mixing" "size" "I"), (Jvm.Cond.laysFinal "TypeAtNight$Mixing" "TypeAtNight$Mixing" "moods" "[I"), (Jvm.Cond.soleField "TypeAtNight$Mixing" "moods"), (Jvm.Cond.laysFinal "TypeAtNight$Mixing" "TypeAtNight$Mixing" "besides" "[I"), (Jvm.Cond.soleField "TypeAtNight$Mixing" "besides"), (Jvm.Cond.laysFinal "TypeAtNight$Mixing" "TypeAtNight$Mixing" "outcomes" "[I"), (Jvm.Cond.soleField "TypeAtNight$Mixing" "outcomes"), (Jvm.Cond.laysFinal "TypeAtNight$Mixing" "TypeAtNight$Mixing" "lawsByOutcome" "[I"), (Jvm.Cond.soleField "TypeAtNight$Mixing" "lawsByOutcome"), (Jvm.Cond.lays "TypeAtNight$Mixing" "TypeAtNight$Mixing" "size" "I"), (Jvm.Cond.soleField "TypeAtNight$Mixing" "size"), (Jvm.Cond.superclass "TypeAtNight$Mixing" "java/lang/Object"), (Jvm.Cond.classLink "TypeAtNight" (91 : Nat) "TypeAtNight$Galley"), (Jvm.Cond.instantiable "TypeAtNight$Galley" (2 : Nat)), (Jvm.Cond.methodLinkNest "TypeAtNight" (93 : Nat) ({ cls := "TypeAtNight$Galley", name := "<init>", desc := "()V" } : Jvm.MethodName) "TypeAtNight"), (Jvm.Cond.instanceMethod ({ cls := "TypeAtNight$Galley", name := "<init>", desc := "()V" } : Jvm.MethodName))]
def cw2_2 : List Cond := [(Jvm.Cond.code ({ cls := "TypeAtNight$Galley", name := "<init>", desc := "()V" } : Jvm.MethodName) prog_3_method_1_code (1 : Nat) (Option.none : Option Jvm.ClassFile.FieldType)), (Jvm.Cond.methodLink "TypeAtNight$Galley" (3 : Nat) ({ cls := "java/lang/Object", name := "<init>", desc := "()V" } : Jvm.MethodName)), (Jvm.Cond.fieldLink "TypeAtNight$Galley" (11 : Nat) "TypeAtNight$Galley" "worth" "[I"), (Jvm.Cond.fieldLink "TypeAtNight$Galley" (15 : Nat) "TypeAtNight$Galley" "known" "I"), (Jvm.Cond.laysFinal "TypeAtNight$Galley" "TypeAtNight$Galley" "worth" "[I"), (Jvm.Cond.soleField "TypeAtNight$Galley" "worth"), (Jvm.Cond.lays "TypeAtNight$Galley" "TypeAtNight$Galley" "known" "I"), (Jvm.Cond.soleField "TypeAtNight$Galley" "known"), (Jvm.Cond.superclass "TypeAtNight$Galley" "java/lang/Object"), (Jvm.Cond.fieldLink "TypeAtNight" (10 : Nat) "TypeAtNight" "text" "LTypeAtNight$Text;"), (Jvm.Cond.fieldLink "TypeAtNight" (19 : Nat) "TypeAtNight" "told" "LTypeAtNight$Numbers;"), (Jvm.Cond.fieldLink "TypeAtNight" (26 : Nat) "TypeAtNight" "now" "LTypeAtNight$TypeCase;"), (Jvm.Cond.fieldLink "TypeAtNight" (30 : Nat) "TypeAtNight" "then" "LTypeAtNight$TypeCase;"), (Jvm.Cond.fieldLink "TypeAtNight" (33 : Nat) "TypeAtNight" "trial" "LTypeAtNight$TypeCase;"), (Jvm.Cond.fieldLink "TypeAtNight" (36 : Nat) "TypeAtNight" "before" "LTypeAtNight$TypeCase;"), (Jvm.Cond.fieldLink "TypeAtNight" (42 : Nat) "TypeAtNight" "past" "LTypeAtNight$Past;")]
def cw2_3 : List Cond := [(Jvm.Cond.fieldLink "TypeAtNight" (49 : Nat) "TypeAtNight" "ruling" "LTypeAtNight$Rule;"), (Jvm.Cond.fieldLink "TypeAtNight" (53 : Nat) "TypeAtNight" "another" "LTypeAtNight$Rule;"), (Jvm.Cond.fieldLink "TypeAtNight" (59 : Nat) "TypeAtNight" "letters" "LTypeAtNight$Letters;"), (Jvm.Cond.fieldLink "TypeAtNight" (66 : Nat) "TypeAtNight" "words" "LTypeAtNight$Words;"), (Jvm.Cond.fieldLink "TypeAtNight" (73 : Nat) "TypeAtNight" "boxing" "LTypeAtNight$Boxing;"), (Jvm.Cond.fieldLink "TypeAtNight" (80 : Nat) "TypeAtNight" "hearsay" "LTypeAtNight$Hearsay;"), (Jvm.Cond.fieldLink "TypeAtNight" (87 : Nat) "TypeAtNight" "mixing" "LTypeAtNight$Mixing;"), (Jvm.Cond.fieldLink "TypeAtNight" (94 : Nat) "TypeAtNight" "galleys" "LTypeAtNight$Galley;"), (Jvm.Cond.fieldLink "TypeAtNight" (98 : Nat) "TypeAtNight" "moodsBehind" "[J"), (Jvm.Cond.laysFinal "TypeAtNight" "TypeAtNight" "text" "LTypeAtNight$Text;"), (Jvm.Cond.soleField "TypeAtNight" "text"), (Jvm.Cond.laysFinal "TypeAtNight" "TypeAtNight" "told" "LTypeAtNight$Numbers;"), (Jvm.Cond.soleField "TypeAtNight" "told"), (Jvm.Cond.laysFinal "TypeAtNight" "TypeAtNight" "now" "LTypeAtNight$TypeCase;"), (Jvm.Cond.soleField "TypeAtNight" "now"), (Jvm.Cond.laysFinal "TypeAtNight" "TypeAtNight" "then" "LTypeAtNight$TypeCase;")]
def cw2_4 : List Cond := [(Jvm.Cond.soleField "TypeAtNight" "then"), (Jvm.Cond.laysFinal "TypeAtNight" "TypeAtNight" "trial" "LTypeAtNight$TypeCase;"), (Jvm.Cond.soleField "TypeAtNight" "trial"), (Jvm.Cond.laysFinal "TypeAtNight" "TypeAtNight" "before" "LTypeAtNight$TypeCase;"), (Jvm.Cond.soleField "TypeAtNight" "before"), (Jvm.Cond.laysFinal "TypeAtNight" "TypeAtNight" "past" "LTypeAtNight$Past;"), (Jvm.Cond.soleField "TypeAtNight" "past"), (Jvm.Cond.lays "TypeAtNight" "TypeAtNight" "ruling" "LTypeAtNight$Rule;"), (Jvm.Cond.soleField "TypeAtNight" "ruling"), (Jvm.Cond.lays "TypeAtNight" "TypeAtNight" "another" "LTypeAtNight$Rule;"), (Jvm.Cond.soleField "TypeAtNight" "another"), (Jvm.Cond.laysFinal "TypeAtNight" "TypeAtNight" "letters" "LTypeAtNight$Letters;"), (Jvm.Cond.soleField "TypeAtNight" "letters"), (Jvm.Cond.laysFinal "TypeAtNight" "TypeAtNight" "words" "LTypeAtNight$Words;"), (Jvm.Cond.soleField "TypeAtNight" "words"), (Jvm.Cond.laysFinal "TypeAtNight" "TypeAtNight" "boxing" "LTypeAtNight$Boxing;")]
def cw2_5 : List Cond := [(Jvm.Cond.soleField "TypeAtNight" "boxing"), (Jvm.Cond.laysFinal "TypeAtNight" "TypeAtNight" "hearsay" "LTypeAtNight$Hearsay;"), (Jvm.Cond.soleField "TypeAtNight" "hearsay"), (Jvm.Cond.laysFinal "TypeAtNight" "TypeAtNight" "mixing" "LTypeAtNight$Mixing;"), (Jvm.Cond.soleField "TypeAtNight" "mixing"), (Jvm.Cond.laysFinal "TypeAtNight" "TypeAtNight" "galleys" "LTypeAtNight$Galley;"), (Jvm.Cond.soleField "TypeAtNight" "galleys"), (Jvm.Cond.laysFinal "TypeAtNight" "TypeAtNight" "moodsBehind" "[J"), (Jvm.Cond.soleField "TypeAtNight" "moodsBehind"), (Jvm.Cond.superclass "TypeAtNight" "java/lang/Object"), (Jvm.Cond.methodLink "TypeAtNightLaw" (26 : Nat) ({ cls := "TypeAtNight", name := "sign", desc := "(I)I" } : Jvm.MethodName)), (Jvm.Cond.instanceMethod ({ cls := "TypeAtNight", name := "sign", desc := "(I)I" } : Jvm.MethodName)), (Jvm.Cond.selects "TypeAtNight" ({ cls := "TypeAtNight", name := "sign", desc := "(I)I" } : Jvm.MethodName) ({ cls := "TypeAtNight", name := "sign", desc := "(I)I" } : Jvm.MethodName)), (Jvm.Cond.code ({ cls := "TypeAtNight", name := "sign", desc := "(I)I" } : Jvm.MethodName) prog_1_method_2_code (2 : Nat) (Option.some Jvm.ClassFile.FieldType.int)), (Jvm.Cond.methodLink "TypeAtNight" (102 : Nat) ({ cls := "TypeAtNight$Text", name := "append", desc := "(I)I" } : Jvm.MethodName)), (Jvm.Cond.instanceMethod ({ cls := "TypeAtNight$Text", name := "append", desc := "(I)I" } : Jvm.MethodName))]
def cw2_6 : List Cond := [(Jvm.Cond.selects "TypeAtNight$Text" ({ cls := "TypeAtNight$Text", name := "append", desc := "(I)I" } : Jvm.MethodName) ({ cls := "TypeAtNight$Text", name := "append", desc := "(I)I" } : Jvm.MethodName)), (Jvm.Cond.code ({ cls := "TypeAtNight$Text", name := "append", desc := "(I)I" } : Jvm.MethodName) prog_10_method_2_code (3 : Nat) (Option.some Jvm.ClassFile.FieldType.int)), (Jvm.Cond.methodLink "TypeAtNightLaw" (31 : Nat) ({ cls := "TypeAtNight", name := "end", desc := "(I)Z" } : Jvm.MethodName)), (Jvm.Cond.instanceMethod ({ cls := "TypeAtNight", name := "end", desc := "(I)Z" } : Jvm.MethodName)), (Jvm.Cond.selects "TypeAtNight" ({ cls := "TypeAtNight", name := "end", desc := "(I)Z" } : Jvm.MethodName) ({ cls := "TypeAtNight", name := "end", desc := "(I)Z" } : Jvm.MethodName)), (Jvm.Cond.code ({ cls := "TypeAtNight", name := "end", desc := "(I)Z" } : Jvm.MethodName) prog_1_method_3_code (2 : Nat) (Option.some Jvm.ClassFile.FieldType.boolean)), (Jvm.Cond.methodLink "TypeAtNight" (106 : Nat) ({ cls := "TypeAtNight$Text", name := "cut", desc := "(I)Z" } : Jvm.MethodName)), (Jvm.Cond.instanceMethod ({ cls := "TypeAtNight$Text", name := "cut", desc := "(I)Z" } : Jvm.MethodName)), (Jvm.Cond.selects "TypeAtNight$Text" ({ cls := "TypeAtNight$Text", name := "cut", desc := "(I)Z" } : Jvm.MethodName) ({ cls := "TypeAtNight$Text", name := "cut", desc := "(I)Z" } : Jvm.MethodName)), (Jvm.Cond.code ({ cls := "TypeAtNight$Text", name := "cut", desc := "(I)Z" } : Jvm.MethodName) prog_10_method_3_code (2 : Nat) (Option.some Jvm.ClassFile.FieldType.boolean)), (Jvm.Cond.methodLink "TypeAtNightLaw" (36 : Nat) ({ cls := "TypeAtNight", name := "sorts", desc := "()I" } : Jvm.MethodName)), (Jvm.Cond.instanceMethod ({ cls := "TypeAtNight", name := "sorts", desc := "()I" } : Jvm.MethodName)), (Jvm.Cond.selects "TypeAtNight" ({ cls := "TypeAtNight", name := "sorts", desc := "()I" } : Jvm.MethodName) ({ cls := "TypeAtNight", name := "sorts", desc := "()I" } : Jvm.MethodName)), (Jvm.Cond.code ({ cls := "TypeAtNight", name := "sorts", desc := "()I" } : Jvm.MethodName) prog_1_method_4_code (3 : Nat) (Option.some Jvm.ClassFile.FieldType.int)), (Jvm.Cond.methodLink "TypeAtNight" (110 : Nat) ({ cls := "TypeAtNight", name := "faultOfLines", desc := "()I" } : Jvm.MethodName)), (Jvm.Cond.privateMethod ({ cls := "TypeAtNight", name := "faultOfLines", desc := "()I" } : Jvm.MethodName))]
def cw2_7 : List Cond := [(Jvm.Cond.instanceMethod ({ cls := "TypeAtNight", name := "faultOfLines", desc := "()I" } : Jvm.MethodName)), (Jvm.Cond.code ({ cls := "TypeAtNight", name := "faultOfLines", desc := "()I" } : Jvm.MethodName) prog_1_method_53_code (5 : Nat) (Option.some Jvm.ClassFile.FieldType.int)), (Jvm.Cond.methodLink "TypeAtNight" (250 : Nat) ({ cls := "TypeAtNight$Text", name := "size", desc := "()I" } : Jvm.MethodName)), (Jvm.Cond.instanceMethod ({ cls := "TypeAtNight$Text", name := "size", desc := "()I" } : Jvm.MethodName)), (Jvm.Cond.selects "TypeAtNight$Text" ({ cls := "TypeAtNight$Text", name := "size", desc := "()I" } : Jvm.MethodName) ({ cls := "TypeAtNight$Text", name := "size", desc := "()I" } : Jvm.MethodName)), (Jvm.Cond.code ({ cls := "TypeAtNight$Text", name := "size", desc := "()I" } : Jvm.MethodName) prog_10_method_5_code (1 : Nat) (Option.some Jvm.ClassFile.FieldType.int)), (Jvm.Cond.methodLink "TypeAtNight" (183 : Nat) ({ cls := "java/lang/Math", name := "min", desc := "(II)I" } : Jvm.MethodName)), (Jvm.Cond.static ({ cls := "java/lang/Math", name := "min", desc := "(II)I" } : Jvm.MethodName)), (Jvm.Cond.code ({ cls := "java/lang/Math", name := "min", desc := "(II)I" } : Jvm.MethodName) prog_22_method_69_code (2 : Nat) (Option.some Jvm.ClassFile.FieldType.int)), (Jvm.Cond.stringRef "TypeAtNight" (411 : Nat) "ldsd"), (Jvm.Cond.methodLink "TypeAtNight" (413 : Nat) ({ cls := "TypeAtNight$Text", name := "misfit", desc := "(Ljava/lang/String;II)I" } : Jvm.MethodName)), (Jvm.Cond.instanceMethod ({ cls := "TypeAtNight$Text", name := "misfit", desc := "(Ljava/lang/String;II)I" } : Jvm.MethodName)), (Jvm.Cond.selects "TypeAtNight$Text" ({ cls := "TypeAtNight$Text", name := "misfit", desc := "(Ljava/lang/String;II)I" } : Jvm.MethodName) ({ cls := "TypeAtNight$Text", name := "misfit", desc := "(Ljava/lang/String;II)I" } : Jvm.MethodName)), (Jvm.Cond.code ({ cls := "TypeAtNight$Text", name := "misfit", desc := "(Ljava/lang/String;II)I" } : Jvm.MethodName) prog_10_method_11_code (5 : Nat) (Option.some Jvm.ClassFile.FieldType.int)), (Jvm.Cond.methodLink "TypeAtNight$Text" (26 : Nat) ({ cls := "java/lang/String", name := "length", desc := "()I" } : Jvm.MethodName)), (Jvm.Cond.instanceMethod ({ cls := "java/lang/String", name := "length", desc := "()I" } : Jvm.MethodName))]
def cw2_8 : List Cond := [(Jvm.Cond.selects "java/lang/String" ({ cls := "java/lang/String", name := "length", desc := "()I" } : Jvm.MethodName) ({ cls := "java/lang/String", name := "length", desc := "()I" } : Jvm.MethodName)), (Jvm.Cond.code ({ cls := "java/lang/String", name := "length", desc := "()I" } : Jvm.MethodName) prog_25_method_54_code (1 : Nat) (Option.some Jvm.ClassFile.FieldType.int)), (Jvm.Cond.methodLink "java/lang/String" (335 : Nat) ({ cls := "java/lang/String", name := "coder", desc := "()B" } : Jvm.MethodName)), (Jvm.Cond.instanceMethod ({ cls := "java/lang/String", name := "coder", desc := "()B" } : Jvm.MethodName)), (Jvm.Cond.selects "java/lang/String" ({ cls := "java/lang/String", name := "coder", desc := "()B" } : Jvm.MethodName) ({ cls := "java/lang/String", name := "coder", desc := "()B" } : Jvm.MethodName)), (Jvm.Cond.code ({ cls := "java/lang/String", name := "coder", desc := "()B" } : Jvm.MethodName) prog_25_method_152_code (1 : Nat) (Option.some Jvm.ClassFile.FieldType.byte)), (Jvm.Cond.fieldLink "java/lang/String" (38 : Nat) "java/lang/String" "COMPACT_STRINGS" "Z"), (Jvm.Cond.laysStatic "java/lang/String" "COMPACT_STRINGS" "Z"), (Jvm.Cond.methodLink "TypeAtNight$Text" (32 : Nat) ({ cls := "java/lang/String", name := "charAt", desc := "(I)C" } : Jvm.MethodName)), (Jvm.Cond.instanceMethod ({ cls := "java/lang/String", name := "charAt", desc := "(I)C" } : Jvm.MethodName)), (Jvm.Cond.selects "java/lang/String" ({ cls := "java/lang/String", name := "charAt", desc := "(I)C" } : Jvm.MethodName) ({ cls := "java/lang/String", name := "charAt", desc := "(I)C" } : Jvm.MethodName)), (Jvm.Cond.code ({ cls := "java/lang/String", name := "charAt", desc := "(I)C" } : Jvm.MethodName) prog_25_method_56_code (2 : Nat) (Option.some Jvm.ClassFile.FieldType.char)), (Jvm.Cond.methodLink "java/lang/String" (492 : Nat) ({ cls := "java/lang/String", name := "isLatin1", desc := "()Z" } : Jvm.MethodName)), (Jvm.Cond.instanceMethod ({ cls := "java/lang/String", name := "isLatin1", desc := "()Z" } : Jvm.MethodName)), (Jvm.Cond.selects "java/lang/String" ({ cls := "java/lang/String", name := "isLatin1", desc := "()Z" } : Jvm.MethodName) ({ cls := "java/lang/String", name := "isLatin1", desc := "()Z" } : Jvm.MethodName)), (Jvm.Cond.code ({ cls := "java/lang/String", name := "isLatin1", desc := "()Z" } : Jvm.MethodName) prog_25_method_154_code (1 : Nat) (Option.some Jvm.ClassFile.FieldType.boolean))]
def cw2_9 : List Cond := [(Jvm.Cond.methodLink "java/lang/String" (495 : Nat) ({ cls := "java/lang/StringLatin1", name := "charAt", desc := "([BI)C" } : Jvm.MethodName)), (Jvm.Cond.static ({ cls := "java/lang/StringLatin1", name := "charAt", desc := "([BI)C" } : Jvm.MethodName)), (Jvm.Cond.code ({ cls := "java/lang/StringLatin1", name := "charAt", desc := "([BI)C" } : Jvm.MethodName) prog_26_method_2_code (2 : Nat) (Option.some Jvm.ClassFile.FieldType.char)), (Jvm.Cond.methodLink "java/lang/StringLatin1" (9 : Nat) ({ cls := "java/lang/String", name := "checkIndex", desc := "(II)V" } : Jvm.MethodName)), (Jvm.Cond.static ({ cls := "java/lang/String", name := "checkIndex", desc := "(II)V" } : Jvm.MethodName)), (Jvm.Cond.code ({ cls := "java/lang/String", name := "checkIndex", desc := "(II)V" } : Jvm.MethodName) prog_25_method_155_code (2 : Nat) (Option.none : Option Jvm.ClassFile.FieldType)), (Jvm.Cond.fieldLink "java/lang/String" (1053 : Nat) "jdk/internal/util/Preconditions" "SIOOBE_FORMATTER" "Ljava/util/function/BiFunction;"), (Jvm.Cond.laysStatic "jdk/internal/util/Preconditions" "SIOOBE_FORMATTER" "Ljava/util/function/BiFunction;"), (Jvm.Cond.methodLink "java/lang/String" (1059 : Nat) ({ cls := "jdk/internal/util/Preconditions", name := "checkIndex", desc := "(IILjava/util/function/BiFunction;)I" } : Jvm.MethodName)), (Jvm.Cond.static ({ cls := "jdk/internal/util/Preconditions", name := "checkIndex", desc := "(IILjava/util/function/BiFunction;)I" } : Jvm.MethodName)), (Jvm.Cond.code ({ cls := "jdk/internal/util/Preconditions", name := "checkIndex", desc := "(IILjava/util/function/BiFunction;)I" } : Jvm.MethodName) prog_34_method_11_code (3 : Nat) (Option.some Jvm.ClassFile.FieldType.int)), (Jvm.Cond.methodLink "java/lang/String" (498 : Nat) ({ cls := "java/lang/StringUTF16", name := "charAt", desc := "([BI)C" } : Jvm.MethodName)), (Jvm.Cond.static ({ cls := "java/lang/StringUTF16", name := "charAt", desc := "([BI)C" } : Jvm.MethodName)), (Jvm.Cond.code ({ cls := "java/lang/StringUTF16", name := "charAt", desc := "([BI)C" } : Jvm.MethodName) prog_27_method_83_code (2 : Nat) (Option.some Jvm.ClassFile.FieldType.char)), (Jvm.Cond.methodLink "java/lang/StringUTF16" (67 : Nat) ({ cls := "java/lang/StringUTF16", name := "checkIndex", desc := "(I[B)V" } : Jvm.MethodName)), (Jvm.Cond.static ({ cls := "java/lang/StringUTF16", name := "checkIndex", desc := "(I[B)V" } : Jvm.MethodName))]
def cw2_10 : List Cond := [(Jvm.Cond.code ({ cls := "java/lang/StringUTF16", name := "checkIndex", desc := "(I[B)V" } : Jvm.MethodName) prog_27_method_91_code (2 : Nat) (Option.none : Option Jvm.ClassFile.FieldType)), (Jvm.Cond.methodLink "java/lang/StringUTF16" (48 : Nat) ({ cls := "java/lang/StringUTF16", name := "length", desc := "([B)I" } : Jvm.MethodName)), (Jvm.Cond.static ({ cls := "java/lang/StringUTF16", name := "length", desc := "([B)I" } : Jvm.MethodName)), (Jvm.Cond.code ({ cls := "java/lang/StringUTF16", name := "length", desc := "([B)I" } : Jvm.MethodName) prog_27_method_6_code (1 : Nat) (Option.some Jvm.ClassFile.FieldType.int)), (Jvm.Cond.methodLink "java/lang/StringUTF16" (414 : Nat) ({ cls := "java/lang/String", name := "checkIndex", desc := "(II)V" } : Jvm.MethodName)), (Jvm.Cond.methodLink "java/lang/StringUTF16" (71 : Nat) ({ cls := "java/lang/StringUTF16", name := "getChar", desc := "([BI)C" } : Jvm.MethodName)), (Jvm.Cond.static ({ cls := "java/lang/StringUTF16", name := "getChar", desc := "([BI)C" } : Jvm.MethodName)), (Jvm.Cond.code ({ cls := "java/lang/StringUTF16", name := "getChar", desc := "([BI)C" } : Jvm.MethodName) prog_27_method_5_code (2 : Nat) (Option.some Jvm.ClassFile.FieldType.char)), (Jvm.Cond.fieldLink "java/lang/StringUTF16" (44 : Nat) "java/lang/StringUTF16" "$assertionsDisabled" "Z"), (Jvm.Cond.laysStatic "java/lang/StringUTF16" "$assertionsDisabled" "Z"), (Jvm.Cond.fieldLink "java/lang/StringUTF16" (59 : Nat) "java/lang/StringUTF16" "HI_BYTE_SHIFT" "I"), (Jvm.Cond.laysStatic "java/lang/StringUTF16" "HI_BYTE_SHIFT" "I"), (Jvm.Cond.fieldLink "java/lang/StringUTF16" (63 : Nat) "java/lang/StringUTF16" "LO_BYTE_SHIFT" "I"), (Jvm.Cond.laysStatic "java/lang/StringUTF16" "LO_BYTE_SHIFT" "I"), (Jvm.Cond.methodLink "TypeAtNight$Text" (19 : Nat) ({ cls := "TypeAtNight$Text", name := "at", desc := "(I)I" } : Jvm.MethodName)), (Jvm.Cond.instanceMethod ({ cls := "TypeAtNight$Text", name := "at", desc := "(I)I" } : Jvm.MethodName))]
def cw2_11 : List Cond := [(Jvm.Cond.selects "TypeAtNight$Text" ({ cls := "TypeAtNight$Text", name := "at", desc := "(I)I" } : Jvm.MethodName) ({ cls := "TypeAtNight$Text", name := "at", desc := "(I)I" } : Jvm.MethodName)), (Jvm.Cond.code ({ cls := "TypeAtNight$Text", name := "at", desc := "(I)I" } : Jvm.MethodName) prog_10_method_6_code (2 : Nat) (Option.some Jvm.ClassFile.FieldType.int)), (Jvm.Cond.methodLink "TypeAtNight$Text" (36 : Nat) ({ cls := "TypeAtNight$Text", name := "stands", desc := "(CI)Z" } : Jvm.MethodName)), (Jvm.Cond.static ({ cls := "TypeAtNight$Text", name := "stands", desc := "(CI)Z" } : Jvm.MethodName)), (Jvm.Cond.code ({ cls := "TypeAtNight$Text", name := "stands", desc := "(CI)Z" } : Jvm.MethodName) prog_10_method_12_code (2 : Nat) (Option.some Jvm.ClassFile.FieldType.boolean)), (Jvm.Cond.methodLink "TypeAtNight" (417 : Nat) ({ cls := "TypeAtNight$Text", name := "at", desc := "(I)I" } : Jvm.MethodName)), (Jvm.Cond.methodLink "TypeAtNight" (114 : Nat) ({ cls := "TypeAtNight", name := "addLines", desc := "()I" } : Jvm.MethodName)), (Jvm.Cond.privateMethod ({ cls := "TypeAtNight", name := "addLines", desc := "()I" } : Jvm.MethodName)), (Jvm.Cond.instanceMethod ({ cls := "TypeAtNight", name := "addLines", desc := "()I" } : Jvm.MethodName)), (Jvm.Cond.code ({ cls := "TypeAtNight", name := "addLines", desc := "()I" } : Jvm.MethodName) prog_1_method_54_code (3 : Nat) (Option.some Jvm.ClassFile.FieldType.int)), (Jvm.Cond.methodLink "TypeAtNight" (419 : Nat) ({ cls := "TypeAtNight$Text", name := "letterAt", desc := "(I)I" } : Jvm.MethodName)), (Jvm.Cond.instanceMethod ({ cls := "TypeAtNight$Text", name := "letterAt", desc := "(I)I" } : Jvm.MethodName)), (Jvm.Cond.selects "TypeAtNight$Text" ({ cls := "TypeAtNight$Text", name := "letterAt", desc := "(I)I" } : Jvm.MethodName) ({ cls := "TypeAtNight$Text", name := "letterAt", desc := "(I)I" } : Jvm.MethodName)), (Jvm.Cond.code ({ cls := "TypeAtNight$Text", name := "letterAt", desc := "(I)I" } : Jvm.MethodName) prog_10_method_7_code (2 : Nat) (Option.some Jvm.ClassFile.FieldType.int)), (Jvm.Cond.methodLink "TypeAtNight" (422 : Nat) ({ cls := "TypeAtNight$Text", name := "digitAt", desc := "(I)I" } : Jvm.MethodName)), (Jvm.Cond.instanceMethod ({ cls := "TypeAtNight$Text", name := "digitAt", desc := "(I)I" } : Jvm.MethodName))]
def cw2_12 : List Cond := [(Jvm.Cond.selects "TypeAtNight$Text" ({ cls := "TypeAtNight$Text", name := "digitAt", desc := "(I)I" } : Jvm.MethodName) ({ cls := "TypeAtNight$Text", name := "digitAt", desc := "(I)I" } : Jvm.MethodName)), (Jvm.Cond.code ({ cls := "TypeAtNight$Text", name := "digitAt", desc := "(I)I" } : Jvm.MethodName) prog_10_method_8_code (2 : Nat) (Option.some Jvm.ClassFile.FieldType.int)), (Jvm.Cond.methodLink "TypeAtNight" (425 : Nat) ({ cls := "TypeAtNight$Text", name := "signedDigitAt", desc := "(I)I" } : Jvm.MethodName)), (Jvm.Cond.instanceMethod ({ cls := "TypeAtNight$Text", name := "signedDigitAt", desc := "(I)I" } : Jvm.MethodName)), (Jvm.Cond.selects "TypeAtNight$Text" ({ cls := "TypeAtNight$Text", name := "signedDigitAt", desc := "(I)I" } : Jvm.MethodName) ({ cls := "TypeAtNight$Text", name := "signedDigitAt", desc := "(I)I" } : Jvm.MethodName)), (Jvm.Cond.code ({ cls := "TypeAtNight$Text", name := "signedDigitAt", desc := "(I)I" } : Jvm.MethodName) prog_10_method_10_code (2 : Nat) (Option.some Jvm.ClassFile.FieldType.int)), (Jvm.Cond.methodLink "TypeAtNight$Text" (23 : Nat) ({ cls := "TypeAtNight$Text", name := "digitAt", desc := "(I)I" } : Jvm.MethodName)), (Jvm.Cond.methodLink "TypeAtNight" (428 : Nat) ({ cls := "TypeAtNight$TypeCase", name := "add", desc := "(III)V" } : Jvm.MethodName)), (Jvm.Cond.instanceMethod ({ cls := "TypeAtNight$TypeCase", name := "add", desc := "(III)V" } : Jvm.MethodName)), (Jvm.Cond.selects "TypeAtNight$TypeCase" ({ cls := "TypeAtNight$TypeCase", name := "add", desc := "(III)V" } : Jvm.MethodName) ({ cls := "TypeAtNight$TypeCase", name := "add", desc := "(III)V" } : Jvm.MethodName)), (Jvm.Cond.code ({ cls := "TypeAtNight$TypeCase", name := "add", desc := "(III)V" } : Jvm.MethodName) prog_11_method_3_code (4 : Nat) (Option.none : Option Jvm.ClassFile.FieldType)), (Jvm.Cond.methodLink "TypeAtNight" (431 : Nat) ({ cls := "TypeAtNight$Past", name := "clear", desc := "()V" } : Jvm.MethodName)), (Jvm.Cond.instanceMethod ({ cls := "TypeAtNight$Past", name := "clear", desc := "()V" } : Jvm.MethodName)), (Jvm.Cond.selects "TypeAtNight$Past" ({ cls := "TypeAtNight$Past", name := "clear", desc := "()V" } : Jvm.MethodName) ({ cls := "TypeAtNight$Past", name := "clear", desc := "()V" } : Jvm.MethodName)), (Jvm.Cond.code ({ cls := "TypeAtNight$Past", name := "clear", desc := "()V" } : Jvm.MethodName) prog_8_method_3_code (1 : Nat) (Option.none : Option Jvm.ClassFile.FieldType)), (Jvm.Cond.methodLink "TypeAtNight" (117 : Nat) ({ cls := "TypeAtNight$Text", name := "clear", desc := "()V" } : Jvm.MethodName))]
def cw2_13 : List Cond := [(Jvm.Cond.instanceMethod ({ cls := "TypeAtNight$Text", name := "clear", desc := "()V" } : Jvm.MethodName)), (Jvm.Cond.selects "TypeAtNight$Text" ({ cls := "TypeAtNight$Text", name := "clear", desc := "()V" } : Jvm.MethodName) ({ cls := "TypeAtNight$Text", name := "clear", desc := "()V" } : Jvm.MethodName)), (Jvm.Cond.code ({ cls := "TypeAtNight$Text", name := "clear", desc := "()V" } : Jvm.MethodName) prog_10_method_4_code (1 : Nat) (Option.none : Option Jvm.ClassFile.FieldType)), (Jvm.Cond.arrayClass Jvm.ClassFile.FieldType.byte), (Jvm.Cond.methodLink "TypeAtNightLaw" (41 : Nat) ({ cls := "TypeAtNight", name := "rule", desc := "()I" } : Jvm.MethodName)), (Jvm.Cond.instanceMethod ({ cls := "TypeAtNight", name := "rule", desc := "()I" } : Jvm.MethodName)), (Jvm.Cond.selects "TypeAtNight" ({ cls := "TypeAtNight", name := "rule", desc := "()I" } : Jvm.MethodName) ({ cls := "TypeAtNight", name := "rule", desc := "()I" } : Jvm.MethodName)), (Jvm.Cond.code ({ cls := "TypeAtNight", name := "rule", desc := "()I" } : Jvm.MethodName) prog_1_method_5_code (3 : Nat) (Option.some Jvm.ClassFile.FieldType.int)), (Jvm.Cond.methodLink "TypeAtNight" (120 : Nat) ({ cls := "TypeAtNight$Rule", name := "read", desc := "(LTypeAtNight$Text;)I" } : Jvm.MethodName)), (Jvm.Cond.instanceMethod ({ cls := "TypeAtNight$Rule", name := "read", desc := "(LTypeAtNight$Text;)I" } : Jvm.MethodName)), (Jvm.Cond.selects "TypeAtNight$Rule" ({ cls := "TypeAtNight$Rule", name := "read", desc := "(LTypeAtNight$Text;)I" } : Jvm.MethodName) ({ cls := "TypeAtNight$Rule", name := "read", desc := "(LTypeAtNight$Text;)I" } : Jvm.MethodName)), (Jvm.Cond.code ({ cls := "TypeAtNight$Rule", name := "read", desc := "(LTypeAtNight$Text;)I" } : Jvm.MethodName) prog_9_method_3_code (2 : Nat) (Option.some Jvm.ClassFile.FieldType.int)), (Jvm.Cond.methodLink "TypeAtNight$Rule" (38 : Nat) ({ cls := "TypeAtNight$Text", name := "size", desc := "()I" } : Jvm.MethodName)), (Jvm.Cond.methodLink "TypeAtNight$Rule" (43 : Nat) ({ cls := "java/lang/Math", name := "min", desc := "(II)I" } : Jvm.MethodName)), (Jvm.Cond.methodLink "TypeAtNight$Rule" (49 : Nat) ({ cls := "TypeAtNight$Rule", name := "readJoined", desc := "(LTypeAtNight$Text;II)Z" } : Jvm.MethodName)), (Jvm.Cond.privateMethod ({ cls := "TypeAtNight$Rule", name := "readJoined", desc := "(LTypeAtNight$Text;II)Z" } : Jvm.MethodName))]
def cw2_14 : List Cond := [(Jvm.Cond.instanceMethod ({ cls := "TypeAtNight$Rule", name := "readJoined", desc := "(LTypeAtNight$Text;II)Z" } : Jvm.MethodName)), (Jvm.Cond.code ({ cls := "TypeAtNight$Rule", name := "readJoined", desc := "(LTypeAtNight$Text;II)Z" } : Jvm.MethodName) prog_9_method_7_code (8 : Nat) (Option.some Jvm.ClassFile.FieldType.boolean)), (Jvm.Cond.methodLink "TypeAtNight$Rule" (60 : Nat) ({ cls := "TypeAtNight$Rule", name := "readThing", desc := "(LTypeAtNight$Text;I)Z" } : Jvm.MethodName)), (Jvm.Cond.privateMethod ({ cls := "TypeAtNight$Rule", name := "readThing", desc := "(LTypeAtNight$Text;I)Z" } : Jvm.MethodName)), (Jvm.Cond.instanceMethod ({ cls := "TypeAtNight$Rule", name := "readThing", desc := "(LTypeAtNight$Text;I)Z" } : Jvm.MethodName)), (Jvm.Cond.code ({ cls := "TypeAtNight$Rule", name := "readThing", desc := "(LTypeAtNight$Text;I)Z" } : Jvm.MethodName) prog_9_method_9_code (6 : Nat) (Option.some Jvm.ClassFile.FieldType.boolean)), (Jvm.Cond.methodLink "TypeAtNight$Rule" (64 : Nat) ({ cls := "TypeAtNight$Text", name := "at", desc := "(I)I" } : Jvm.MethodName)), (Jvm.Cond.stringRef "TypeAtNight$Rule" (70 : Nat) "mwlkbin"), (Jvm.Cond.methodLink "TypeAtNight$Rule" (72 : Nat) ({ cls := "java/lang/String", name := "indexOf", desc := "(I)I" } : Jvm.MethodName)), (Jvm.Cond.instanceMethod ({ cls := "java/lang/String", name := "indexOf", desc := "(I)I" } : Jvm.MethodName)), (Jvm.Cond.selects "java/lang/String" ({ cls := "java/lang/String", name := "indexOf", desc := "(I)I" } : Jvm.MethodName) ({ cls := "java/lang/String", name := "indexOf", desc := "(I)I" } : Jvm.MethodName)), (Jvm.Cond.code ({ cls := "java/lang/String", name := "indexOf", desc := "(I)I" } : Jvm.MethodName) prog_25_method_79_code (2 : Nat) (Option.some Jvm.ClassFile.FieldType.int)), (Jvm.Cond.methodLink "java/lang/String" (633 : Nat) ({ cls := "java/lang/String", name := "indexOf", desc := "(II)I" } : Jvm.MethodName)), (Jvm.Cond.instanceMethod ({ cls := "java/lang/String", name := "indexOf", desc := "(II)I" } : Jvm.MethodName)), (Jvm.Cond.selects "java/lang/String" ({ cls := "java/lang/String", name := "indexOf", desc := "(II)I" } : Jvm.MethodName) ({ cls := "java/lang/String", name := "indexOf", desc := "(II)I" } : Jvm.MethodName)), (Jvm.Cond.code ({ cls := "java/lang/String", name := "indexOf", desc := "(II)I" } : Jvm.MethodName) prog_25_method_80_code (3 : Nat) (Option.some Jvm.ClassFile.FieldType.int))]
set_option maxRecDepth 100000 in
theorem ce_2 : tables_1_2 = cw2_0 ++ (cw2_1 ++ (cw2_2 ++ (cw2_3 ++ (cw2_4 ++ (cw2_5 ++ (cw2_6 ++ (cw2_7 ++ (cw2_8 ++ (cw2_9 ++ (cw2_10 ++ (cw2_11 ++ (cw2_12 ++ (cw2_13 ++ (cw2_14)))))))))))))) := rfl
theorem ct_2 {w : Cond} (h : w ∈ tables_1_2) : w ∈ lw_tbl := by
  refine List.mem_append_right _ ?_
  unfold tables_1
  simp only [List.mem_append]
  exact Or.inr (Or.inl h)
theorem gm_w2_0 {w : Cond} (h : w ∈ cw2_0) (hg : goodWord w = true) : w ∈ g_tbl := g_mw (ct_2 (by rw [ce_2]; exact List.mem_append_left _ h)) hg
theorem gm_w2_1 {w : Cond} (h : w ∈ cw2_1) (hg : goodWord w = true) : w ∈ g_tbl := g_mw (ct_2 (by rw [ce_2]; exact List.mem_append_right _ (List.mem_append_left _ h))) hg
theorem gm_w2_2 {w : Cond} (h : w ∈ cw2_2) (hg : goodWord w = true) : w ∈ g_tbl := g_mw (ct_2 (by rw [ce_2]; exact List.mem_append_right _ (List.mem_append_right _ (List.mem_append_left _ h)))) hg
theorem gm_w2_3 {w : Cond} (h : w ∈ cw2_3) (hg : goodWord w = true) : w ∈ g_tbl := g_mw (ct_2 (by rw [ce_2]; exact List.mem_append_right _ (List.mem_append_right _ (List.mem_append_right _ (List.mem_append_left _ h))))) hg
theorem gm_w2_4 {w : Cond} (h : w ∈ cw2_4) (hg : goodWord w = true) : w ∈ g_tbl := g_mw (ct_2 (by rw [ce_2]; exact List.mem_append_right _ (List.mem_append_right _ (List.mem_append_right _ (List.mem_append_right _ (List.mem_append_left _ h)))))) hg
theorem gm_w2_5 {w : Cond} (h : w ∈ cw2_5) (hg : goodWord w = true) : w ∈ g_tbl := g_mw (ct_2 (by rw [ce_2]; exact List.mem_append_right _ (List.mem_append_right _ (List.mem_append_right _ (List.mem_append_right _ (List.mem_append_right _ (List.mem_append_left _ h))))))) hg
theorem gm_w2_6 {w : Cond} (h : w ∈ cw2_6) (hg : goodWord w = true) : w ∈ g_tbl := g_mw (ct_2 (by rw [ce_2]; exact List.mem_append_right _ (List.mem_append_right _ (List.mem_append_right _ (List.mem_append_right _ (List.mem_append_right _ (List.mem_append_right _ (List.mem_append_left _ h)))))))) hg
theorem gm_w2_7 {w : Cond} (h : w ∈ cw2_7) (hg : goodWord w = true) : w ∈ g_tbl := g_mw (ct_2 (by rw [ce_2]; exact List.mem_append_right _ (List.mem_append_right _ (List.mem_append_right _ (List.mem_append_right _ (List.mem_append_right _ (List.mem_append_right _ (List.mem_append_right _ (List.mem_append_left _ h))))))))) hg
theorem gm_w2_8 {w : Cond} (h : w ∈ cw2_8) (hg : goodWord w = true) : w ∈ g_tbl := g_mw (ct_2 (by rw [ce_2]; exact List.mem_append_right _ (List.mem_append_right _ (List.mem_append_right _ (List.mem_append_right _ (List.mem_append_right _ (List.mem_append_right _ (List.mem_append_right _ (List.mem_append_right _ (List.mem_append_left _ h)))))))))) hg
theorem gm_w2_9 {w : Cond} (h : w ∈ cw2_9) (hg : goodWord w = true) : w ∈ g_tbl := g_mw (ct_2 (by rw [ce_2]; exact List.mem_append_right _ (List.mem_append_right _ (List.mem_append_right _ (List.mem_append_right _ (List.mem_append_right _ (List.mem_append_right _ (List.mem_append_right _ (List.mem_append_right _ (List.mem_append_right _ (List.mem_append_left _ h))))))))))) hg
theorem gm_w2_10 {w : Cond} (h : w ∈ cw2_10) (hg : goodWord w = true) : w ∈ g_tbl := g_mw (ct_2 (by rw [ce_2]; exact List.mem_append_right _ (List.mem_append_right _ (List.mem_append_right _ (List.mem_append_right _ (List.mem_append_right _ (List.mem_append_right _ (List.mem_append_right _ (List.mem_append_right _ (List.mem_append_right _ (List.mem_append_right _ (List.mem_append_left _ h)))))))))))) hg
theorem gm_w2_11 {w : Cond} (h : w ∈ cw2_11) (hg : goodWord w = true) : w ∈ g_tbl := g_mw (ct_2 (by rw [ce_2]; exact List.mem_append_right _ (List.mem_append_right _ (List.mem_append_right _ (List.mem_append_right _ (List.mem_append_right _ (List.mem_append_right _ (List.mem_append_right _ (List.mem_append_right _ (List.mem_append_right _ (List.mem_append_right _ (List.mem_append_right _ (List.mem_append_left _ h))))))))))))) hg
theorem gm_w2_12 {w : Cond} (h : w ∈ cw2_12) (hg : goodWord w = true) : w ∈ g_tbl := g_mw (ct_2 (by rw [ce_2]; exact List.mem_append_right _ (List.mem_append_right _ (List.mem_append_right _ (List.mem_append_right _ (List.mem_append_right _ (List.mem_append_right _ (List.mem_append_right _ (List.mem_append_right _ (List.mem_append_right _ (List.mem_append_right _ (List.mem_append_right _ (List.mem_append_right _ (List.mem_append_left _ h)))))))))))))) hg
theorem gm_w2_13 {w : Cond} (h : w ∈ cw2_13) (hg : goodWord w = true) : w ∈ g_tbl := g_mw (ct_2 (by rw [ce_2]; exact List.mem_append_right _ (List.mem_append_right _ (List.mem_append_right _ (List.mem_append_right _ (List.mem_append_right _ (List.mem_append_right _ (List.mem_append_right _ (List.mem_append_right _ (List.mem_append_right _ (List.mem_append_right _ (List.mem_append_right _ (List.mem_append_right _ (List.mem_append_right _ (List.mem_append_left _ h))))))))))))))) hg
theorem gm_w2_14 {w : Cond} (h : w ∈ cw2_14) (hg : goodWord w = true) : w ∈ g_tbl := g_mw (ct_2 (by rw [ce_2]; exact List.mem_append_right _ (List.mem_append_right _ (List.mem_append_right _ (List.mem_append_right _ (List.mem_append_right _ (List.mem_append_right _ (List.mem_append_right _ (List.mem_append_right _ (List.mem_append_right _ (List.mem_append_right _ (List.mem_append_right _ (List.mem_append_right _ (List.mem_append_right _ (List.mem_append_right _ (h)))))))))))))))) hg
def cw3_0 : List Cond := [(Jvm.Cond.methodLink "java/lang/String" (505 : Nat) ({ cls := "java/lang/String", name := "length", desc := "()I" } : Jvm.MethodName)), (Jvm.Cond.methodLink "java/lang/String" (637 : Nat) ({ cls := "java/lang/StringLatin1", name := "indexOf", desc := "([BIII)I" } : Jvm.MethodName)), (Jvm.Cond.static ({ cls := "java/lang/StringLatin1", name := "indexOf", desc := "([BIII)I" } : Jvm.MethodName)), (Jvm.Cond.code ({ cls := "java/lang/StringLatin1", name := "indexOf", desc := "([BIII)I" } : Jvm.MethodName) prog_26_method_22_code (4 : Nat) (Option.some Jvm.ClassFile.FieldType.int)), (Jvm.Cond.methodLink "java/lang/StringLatin1" (88 : Nat) ({ cls := "java/lang/StringLatin1", name := "canEncode", desc := "(I)Z" } : Jvm.MethodName)), (Jvm.Cond.static ({ cls := "java/lang/StringLatin1", name := "canEncode", desc := "(I)Z" } : Jvm.MethodName)), (Jvm.Cond.code ({ cls := "java/lang/StringLatin1", name := "canEncode", desc := "(I)Z" } : Jvm.MethodName) prog_26_method_4_code (1 : Nat) (Option.some Jvm.ClassFile.FieldType.boolean)), (Jvm.Cond.methodLink "java/lang/StringLatin1" (92 : Nat) ({ cls := "java/lang/Math", name := "max", desc := "(II)I" } : Jvm.MethodName)), (Jvm.Cond.static ({ cls := "java/lang/Math", name := "max", desc := "(II)I" } : Jvm.MethodName)), (Jvm.Cond.code ({ cls := "java/lang/Math", name := "max", desc := "(II)I" } : Jvm.MethodName) prog_22_method_65_code (2 : Nat) (Option.some Jvm.ClassFile.FieldType.int)), (Jvm.Cond.methodLink "java/lang/StringLatin1" (38 : Nat) ({ cls := "java/lang/Math", name := "min", desc := "(II)I" } : Jvm.MethodName)), (Jvm.Cond.methodLink "java/lang/StringLatin1" (95 : Nat) ({ cls := "java/lang/StringLatin1", name := "indexOfChar", desc := "([BIII)I" } : Jvm.MethodName)), (Jvm.Cond.static ({ cls := "java/lang/StringLatin1", name := "indexOfChar", desc := "([BIII)I" } : Jvm.MethodName)), (Jvm.Cond.code ({ cls := "java/lang/StringLatin1", name := "indexOfChar", desc := "([BIII)I" } : Jvm.MethodName) prog_26_method_23_code (6 : Nat) (Option.some Jvm.ClassFile.FieldType.int)), (Jvm.Cond.methodLink "java/lang/String" (640 : Nat) ({ cls := "java/lang/StringUTF16", name := "indexOf", desc := "([BIII)I" } : Jvm.MethodName)), (Jvm.Cond.static ({ cls := "java/lang/StringUTF16", name := "indexOf", desc := "([BIII)I" } : Jvm.MethodName))]
def cw3_1 : List Cond := [(Jvm.Cond.code ({ cls := "java/lang/StringUTF16", name := "indexOf", desc := "([BIII)I" } : Jvm.MethodName) prog_27_method_40_code (4 : Nat) (Option.some Jvm.ClassFile.FieldType.int)), (Jvm.Cond.methodLink "java/lang/StringUTF16" (224 : Nat) ({ cls := "java/lang/Math", name := "max", desc := "(II)I" } : Jvm.MethodName)), (Jvm.Cond.methodLink "java/lang/StringUTF16" (183 : Nat) ({ cls := "java/lang/Math", name := "min", desc := "(II)I" } : Jvm.MethodName)), (Jvm.Cond.constant "java/lang/StringUTF16" (227 : Nat) (65536 : Int32)), (Jvm.Cond.methodLink "java/lang/StringUTF16" (228 : Nat) ({ cls := "java/lang/StringUTF16", name := "indexOfChar", desc := "([BIII)I" } : Jvm.MethodName)), (Jvm.Cond.static ({ cls := "java/lang/StringUTF16", name := "indexOfChar", desc := "([BIII)I" } : Jvm.MethodName)), (Jvm.Cond.code ({ cls := "java/lang/StringUTF16", name := "indexOfChar", desc := "([BIII)I" } : Jvm.MethodName) prog_27_method_47_code (4 : Nat) (Option.some Jvm.ClassFile.FieldType.int)), (Jvm.Cond.methodLink "java/lang/StringUTF16" (96 : Nat) ({ cls := "java/lang/StringUTF16", name := "checkBoundsBeginEnd", desc := "(II[B)V" } : Jvm.MethodName)), (Jvm.Cond.static ({ cls := "java/lang/StringUTF16", name := "checkBoundsBeginEnd", desc := "(II[B)V" } : Jvm.MethodName)), (Jvm.Cond.code ({ cls := "java/lang/StringUTF16", name := "checkBoundsBeginEnd", desc := "(II[B)V" } : Jvm.MethodName) prog_27_method_93_code (3 : Nat) (Option.none : Option Jvm.ClassFile.FieldType)), (Jvm.Cond.methodLink "java/lang/StringUTF16" (241 : Nat) ({ cls := "java/lang/String", name := "checkBoundsBeginEnd", desc := "(III)V" } : Jvm.MethodName)), (Jvm.Cond.static ({ cls := "java/lang/String", name := "checkBoundsBeginEnd", desc := "(III)V" } : Jvm.MethodName)), (Jvm.Cond.code ({ cls := "java/lang/String", name := "checkBoundsBeginEnd", desc := "(III)V" } : Jvm.MethodName) prog_25_method_158_code (3 : Nat) (Option.none : Option Jvm.ClassFile.FieldType)), (Jvm.Cond.methodLink "java/lang/String" (1062 : Nat) ({ cls := "jdk/internal/util/Preconditions", name := "checkFromToIndex", desc := "(IIILjava/util/function/BiFunction;)I" } : Jvm.MethodName)), (Jvm.Cond.static ({ cls := "jdk/internal/util/Preconditions", name := "checkFromToIndex", desc := "(IIILjava/util/function/BiFunction;)I" } : Jvm.MethodName)), (Jvm.Cond.code ({ cls := "jdk/internal/util/Preconditions", name := "checkFromToIndex", desc := "(IIILjava/util/function/BiFunction;)I" } : Jvm.MethodName) prog_34_method_12_code (4 : Nat) (Option.some Jvm.ClassFile.FieldType.int))]
def cw3_2 : List Cond := [(Jvm.Cond.methodLink "java/lang/StringUTF16" (244 : Nat) ({ cls := "java/lang/StringUTF16", name := "indexOfCharUnsafe", desc := "([BIII)I" } : Jvm.MethodName)), (Jvm.Cond.static ({ cls := "java/lang/StringUTF16", name := "indexOfCharUnsafe", desc := "([BIII)I" } : Jvm.MethodName)), (Jvm.Cond.code ({ cls := "java/lang/StringUTF16", name := "indexOfCharUnsafe", desc := "([BIII)I" } : Jvm.MethodName) prog_27_method_48_code (5 : Nat) (Option.some Jvm.ClassFile.FieldType.int)), (Jvm.Cond.methodLink "java/lang/StringUTF16" (232 : Nat) ({ cls := "java/lang/StringUTF16", name := "indexOfSupplementary", desc := "([BIII)I" } : Jvm.MethodName)), (Jvm.Cond.static ({ cls := "java/lang/StringUTF16", name := "indexOfSupplementary", desc := "([BIII)I" } : Jvm.MethodName)), (Jvm.Cond.code ({ cls := "java/lang/StringUTF16", name := "indexOfSupplementary", desc := "([BIII)I" } : Jvm.MethodName) prog_27_method_49_code (7 : Nat) (Option.some Jvm.ClassFile.FieldType.int)), (Jvm.Cond.methodLink "java/lang/StringUTF16" (164 : Nat) ({ cls := "java/lang/Character", name := "isValidCodePoint", desc := "(I)Z" } : Jvm.MethodName)), (Jvm.Cond.static ({ cls := "java/lang/Character", name := "isValidCodePoint", desc := "(I)Z" } : Jvm.MethodName)), (Jvm.Cond.code ({ cls := "java/lang/Character", name := "isValidCodePoint", desc := "(I)Z" } : Jvm.MethodName) prog_17_method_11_code (2 : Nat) (Option.some Jvm.ClassFile.FieldType.boolean)), (Jvm.Cond.methodLink "java/lang/StringUTF16" (157 : Nat) ({ cls := "java/lang/Character", name := "highSurrogate", desc := "(I)C" } : Jvm.MethodName)), (Jvm.Cond.static ({ cls := "java/lang/Character", name := "highSurrogate", desc := "(I)C" } : Jvm.MethodName)), (Jvm.Cond.code ({ cls := "java/lang/Character", name := "highSurrogate", desc := "(I)C" } : Jvm.MethodName) prog_17_method_28_code (1 : Nat) (Option.some Jvm.ClassFile.FieldType.char)), (Jvm.Cond.constant "java/lang/Character" (110 : Nat) (55232 : Int32)), (Jvm.Cond.methodLink "java/lang/StringUTF16" (161 : Nat) ({ cls := "java/lang/Character", name := "lowSurrogate", desc := "(I)C" } : Jvm.MethodName)), (Jvm.Cond.static ({ cls := "java/lang/Character", name := "lowSurrogate", desc := "(I)C" } : Jvm.MethodName)), (Jvm.Cond.code ({ cls := "java/lang/Character", name := "lowSurrogate", desc := "(I)C" } : Jvm.MethodName) prog_17_method_29_code (1 : Nat) (Option.some Jvm.ClassFile.FieldType.char))]
def cw3_3 : List Cond := [(Jvm.Cond.constant "java/lang/Character" (76 : Nat) (56320 : Int32)), (Jvm.Cond.methodLink "TypeAtNight$Rule" (77 : Nat) ({ cls := "TypeAtNight$Text", name := "stands", desc := "(CI)Z" } : Jvm.MethodName)), (Jvm.Cond.methodLink "TypeAtNight$Rule" (81 : Nat) ({ cls := "TypeAtNight$Rule", name := "readNumber", desc := "(LTypeAtNight$Text;)V" } : Jvm.MethodName)), (Jvm.Cond.privateMethod ({ cls := "TypeAtNight$Rule", name := "readNumber", desc := "(LTypeAtNight$Text;)V" } : Jvm.MethodName)), (Jvm.Cond.instanceMethod ({ cls := "TypeAtNight$Rule", name := "readNumber", desc := "(LTypeAtNight$Text;)V" } : Jvm.MethodName)), (Jvm.Cond.code ({ cls := "TypeAtNight$Rule", name := "readNumber", desc := "(LTypeAtNight$Text;)V" } : Jvm.MethodName) prog_9_method_10_code (4 : Nat) (Option.none : Option Jvm.ClassFile.FieldType)), (Jvm.Cond.methodLink "TypeAtNight$Rule" (88 : Nat) ({ cls := "TypeAtNight$Text", name := "digitAt", desc := "(I)I" } : Jvm.MethodName)), (Jvm.Cond.methodLink "TypeAtNight$Rule" (85 : Nat) ({ cls := "TypeAtNight$Rule", name := "readInner", desc := "(LTypeAtNight$Text;I)Z" } : Jvm.MethodName)), (Jvm.Cond.privateMethod ({ cls := "TypeAtNight$Rule", name := "readInner", desc := "(LTypeAtNight$Text;I)Z" } : Jvm.MethodName)), (Jvm.Cond.instanceMethod ({ cls := "TypeAtNight$Rule", name := "readInner", desc := "(LTypeAtNight$Text;I)Z" } : Jvm.MethodName)), (Jvm.Cond.code ({ cls := "TypeAtNight$Rule", name := "readInner", desc := "(LTypeAtNight$Text;I)Z" } : Jvm.MethodName) prog_9_method_11_code (3 : Nat) (Option.some Jvm.ClassFile.FieldType.boolean)), (Jvm.Cond.methodLink "TypeAtNight$Rule" (67 : Nat) ({ cls := "TypeAtNight$Rule", name := "bindingOf", desc := "(I)I" } : Jvm.MethodName)), (Jvm.Cond.static ({ cls := "TypeAtNight$Rule", name := "bindingOf", desc := "(I)I" } : Jvm.MethodName)), (Jvm.Cond.code ({ cls := "TypeAtNight$Rule", name := "bindingOf", desc := "(I)I" } : Jvm.MethodName) prog_9_method_8_code (1 : Nat) (Option.some Jvm.ClassFile.FieldType.int)), (Jvm.Cond.methodLink "TypeAtNightLaw" (57 : Nat) ({ cls := "TypeAtNight", name := "sheet", desc := "(IIII)I" } : Jvm.MethodName)), (Jvm.Cond.instanceMethod ({ cls := "TypeAtNight", name := "sheet", desc := "(IIII)I" } : Jvm.MethodName))]
def cw3_4 : List Cond := [(Jvm.Cond.selects "TypeAtNight" ({ cls := "TypeAtNight", name := "sheet", desc := "(IIII)I" } : Jvm.MethodName) ({ cls := "TypeAtNight", name := "sheet", desc := "(IIII)I" } : Jvm.MethodName)), (Jvm.Cond.code ({ cls := "TypeAtNight", name := "sheet", desc := "(IIII)I" } : Jvm.MethodName) prog_1_method_8_code (7 : Nat) (Option.some Jvm.ClassFile.FieldType.int)), (Jvm.Cond.methodLink "TypeAtNight" (170 : Nat) ({ cls := "java/util/Arrays", name := "fill", desc := "([II)V" } : Jvm.MethodName)), (Jvm.Cond.static ({ cls := "java/util/Arrays", name := "fill", desc := "([II)V" } : Jvm.MethodName)), (Jvm.Cond.code ({ cls := "java/util/Arrays", name := "fill", desc := "([II)V" } : Jvm.MethodName) prog_32_method_103_code (4 : Nat) (Option.none : Option Jvm.ClassFile.FieldType)), (Jvm.Cond.methodLink "TypeAtNight" (179 : Nat) ({ cls := "TypeAtNight", name := "entryOf", desc := "(II)I" } : Jvm.MethodName)), (Jvm.Cond.static ({ cls := "TypeAtNight", name := "entryOf", desc := "(II)I" } : Jvm.MethodName)), (Jvm.Cond.code ({ cls := "TypeAtNight", name := "entryOf", desc := "(II)I" } : Jvm.MethodName) prog_1_method_55_code (2 : Nat) (Option.some Jvm.ClassFile.FieldType.int)), (Jvm.Cond.methodLink "TypeAtNight" (188 : Nat) ({ cls := "java/lang/Math", name := "max", desc := "(II)I" } : Jvm.MethodName)), (Jvm.Cond.methodLink "TypeAtNight" (191 : Nat) ({ cls := "TypeAtNight$TypeCase", name := "wearOfAll", desc := "()I" } : Jvm.MethodName)), (Jvm.Cond.instanceMethod ({ cls := "TypeAtNight$TypeCase", name := "wearOfAll", desc := "()I" } : Jvm.MethodName)), (Jvm.Cond.selects "TypeAtNight$TypeCase" ({ cls := "TypeAtNight$TypeCase", name := "wearOfAll", desc := "()I" } : Jvm.MethodName) ({ cls := "TypeAtNight$TypeCase", name := "wearOfAll", desc := "()I" } : Jvm.MethodName)), (Jvm.Cond.code ({ cls := "TypeAtNight$TypeCase", name := "wearOfAll", desc := "()I" } : Jvm.MethodName) prog_11_method_14_code (3 : Nat) (Option.some Jvm.ClassFile.FieldType.int)), (Jvm.Cond.methodLink "TypeAtNightLaw" (62 : Nat) ({ cls := "TypeAtNight", name := "sets", desc := "(I)I" } : Jvm.MethodName)), (Jvm.Cond.instanceMethod ({ cls := "TypeAtNight", name := "sets", desc := "(I)I" } : Jvm.MethodName)), (Jvm.Cond.selects "TypeAtNight" ({ cls := "TypeAtNight", name := "sets", desc := "(I)I" } : Jvm.MethodName) ({ cls := "TypeAtNight", name := "sets", desc := "(I)I" } : Jvm.MethodName))]
def cw3_5 : List Cond := [(Jvm.Cond.code ({ cls := "TypeAtNight", name := "sets", desc := "(I)I" } : Jvm.MethodName) prog_1_method_9_code (5 : Nat) (Option.some Jvm.ClassFile.FieldType.int)), (Jvm.Cond.methodLink "TypeAtNight" (194 : Nat) ({ cls := "TypeAtNight", name := "readLetters", desc := "()I" } : Jvm.MethodName)), (Jvm.Cond.privateMethod ({ cls := "TypeAtNight", name := "readLetters", desc := "()I" } : Jvm.MethodName)), (Jvm.Cond.instanceMethod ({ cls := "TypeAtNight", name := "readLetters", desc := "()I" } : Jvm.MethodName)), (Jvm.Cond.code ({ cls := "TypeAtNight", name := "readLetters", desc := "()I" } : Jvm.MethodName) prog_1_method_51_code (2 : Nat) (Option.some Jvm.ClassFile.FieldType.int)), (Jvm.Cond.methodLink "TypeAtNight" (408 : Nat) ({ cls := "TypeAtNight$Letters", name := "read", desc := "(LTypeAtNight$Text;II)I" } : Jvm.MethodName)), (Jvm.Cond.instanceMethod ({ cls := "TypeAtNight$Letters", name := "read", desc := "(LTypeAtNight$Text;II)I" } : Jvm.MethodName)), (Jvm.Cond.selects "TypeAtNight$Letters" ({ cls := "TypeAtNight$Letters", name := "read", desc := "(LTypeAtNight$Text;II)I" } : Jvm.MethodName) ({ cls := "TypeAtNight$Letters", name := "read", desc := "(LTypeAtNight$Text;II)I" } : Jvm.MethodName)), (Jvm.Cond.code ({ cls := "TypeAtNight$Letters", name := "read", desc := "(LTypeAtNight$Text;II)I" } : Jvm.MethodName) prog_5_method_2_code (5 : Nat) (Option.some Jvm.ClassFile.FieldType.int)), (Jvm.Cond.methodLink "TypeAtNight$Letters" (25 : Nat) ({ cls := "java/util/Arrays", name := "fill", desc := "([II)V" } : Jvm.MethodName)), (Jvm.Cond.methodLink "TypeAtNight$Letters" (31 : Nat) ({ cls := "TypeAtNight$Text", name := "at", desc := "(I)I" } : Jvm.MethodName)), (Jvm.Cond.methodLink "TypeAtNight$Letters" (37 : Nat) ({ cls := "TypeAtNight$Text", name := "stands", desc := "(CI)Z" } : Jvm.MethodName)), (Jvm.Cond.methodLink "TypeAtNight$Letters" (41 : Nat) ({ cls := "TypeAtNight$Text", name := "letterAt", desc := "(I)I" } : Jvm.MethodName)), (Jvm.Cond.methodLink "TypeAtNight" (197 : Nat) ({ cls := "TypeAtNight", name := "isMood", desc := "(I)Z" } : Jvm.MethodName)), (Jvm.Cond.static ({ cls := "TypeAtNight", name := "isMood", desc := "(I)Z" } : Jvm.MethodName)), (Jvm.Cond.code ({ cls := "TypeAtNight", name := "isMood", desc := "(I)Z" } : Jvm.MethodName) prog_1_method_48_code (1 : Nat) (Option.some Jvm.ClassFile.FieldType.boolean))]
def cw3_6 : List Cond := [(Jvm.Cond.methodLink "TypeAtNight" (200 : Nat) ({ cls := "TypeAtNight$TypeCase", name := "wouldTake", desc := "(LTypeAtNight$Letters;)I" } : Jvm.MethodName)), (Jvm.Cond.instanceMethod ({ cls := "TypeAtNight$TypeCase", name := "wouldTake", desc := "(LTypeAtNight$Letters;)I" } : Jvm.MethodName)), (Jvm.Cond.selects "TypeAtNight$TypeCase" ({ cls := "TypeAtNight$TypeCase", name := "wouldTake", desc := "(LTypeAtNight$Letters;)I" } : Jvm.MethodName) ({ cls := "TypeAtNight$TypeCase", name := "wouldTake", desc := "(LTypeAtNight$Letters;)I" } : Jvm.MethodName)), (Jvm.Cond.code ({ cls := "TypeAtNight$TypeCase", name := "wouldTake", desc := "(LTypeAtNight$Letters;)I" } : Jvm.MethodName) prog_11_method_19_code (6 : Nat) (Option.some Jvm.ClassFile.FieldType.int)), (Jvm.Cond.methodLink "TypeAtNight$TypeCase" (54 : Nat) ({ cls := "TypeAtNight$TypeCase", name := "ofLetter", desc := "(I)I" } : Jvm.MethodName)), (Jvm.Cond.instanceMethod ({ cls := "TypeAtNight$TypeCase", name := "ofLetter", desc := "(I)I" } : Jvm.MethodName)), (Jvm.Cond.selects "TypeAtNight$TypeCase" ({ cls := "TypeAtNight$TypeCase", name := "ofLetter", desc := "(I)I" } : Jvm.MethodName) ({ cls := "TypeAtNight$TypeCase", name := "ofLetter", desc := "(I)I" } : Jvm.MethodName)), (Jvm.Cond.code ({ cls := "TypeAtNight$TypeCase", name := "ofLetter", desc := "(I)I" } : Jvm.MethodName) prog_11_method_7_code (2 : Nat) (Option.some Jvm.ClassFile.FieldType.int)), (Jvm.Cond.methodLink "TypeAtNight$TypeCase" (50 : Nat) ({ cls := "TypeAtNight$TypeCase", name := "whose", desc := "([II)I" } : Jvm.MethodName)), (Jvm.Cond.privateMethod ({ cls := "TypeAtNight$TypeCase", name := "whose", desc := "([II)I" } : Jvm.MethodName)), (Jvm.Cond.instanceMethod ({ cls := "TypeAtNight$TypeCase", name := "whose", desc := "([II)I" } : Jvm.MethodName)), (Jvm.Cond.code ({ cls := "TypeAtNight$TypeCase", name := "whose", desc := "([II)I" } : Jvm.MethodName) prog_11_method_10_code (5 : Nat) (Option.some Jvm.ClassFile.FieldType.int)), (Jvm.Cond.methodLink "TypeAtNight$TypeCase" (82 : Nat) ({ cls := "TypeAtNight$TypeCase", name := "leastWorn", desc := "(I)I" } : Jvm.MethodName)), (Jvm.Cond.privateMethod ({ cls := "TypeAtNight$TypeCase", name := "leastWorn", desc := "(I)I" } : Jvm.MethodName)), (Jvm.Cond.instanceMethod ({ cls := "TypeAtNight$TypeCase", name := "leastWorn", desc := "(I)I" } : Jvm.MethodName)), (Jvm.Cond.code ({ cls := "TypeAtNight$TypeCase", name := "leastWorn", desc := "(I)I" } : Jvm.MethodName) prog_11_method_20_code (4 : Nat) (Option.some Jvm.ClassFile.FieldType.int))]
def cw3_7 : List Cond := [(Jvm.Cond.methodLink "TypeAtNight" (204 : Nat) ({ cls := "TypeAtNight$Past", name := "push", desc := "(LTypeAtNight$TypeCase;)V" } : Jvm.MethodName)), (Jvm.Cond.instanceMethod ({ cls := "TypeAtNight$Past", name := "push", desc := "(LTypeAtNight$TypeCase;)V" } : Jvm.MethodName)), (Jvm.Cond.selects "TypeAtNight$Past" ({ cls := "TypeAtNight$Past", name := "push", desc := "(LTypeAtNight$TypeCase;)V" } : Jvm.MethodName) ({ cls := "TypeAtNight$Past", name := "push", desc := "(LTypeAtNight$TypeCase;)V" } : Jvm.MethodName)), (Jvm.Cond.code ({ cls := "TypeAtNight$Past", name := "push", desc := "(LTypeAtNight$TypeCase;)V" } : Jvm.MethodName) prog_8_method_4_code (2 : Nat) (Option.none : Option Jvm.ClassFile.FieldType)), (Jvm.Cond.methodLink "TypeAtNight$Past" (30 : Nat) ({ cls := "TypeAtNight$TypeCase", name := "copy", desc := "(LTypeAtNight$TypeCase;)V" } : Jvm.MethodName)), (Jvm.Cond.instanceMethod ({ cls := "TypeAtNight$TypeCase", name := "copy", desc := "(LTypeAtNight$TypeCase;)V" } : Jvm.MethodName)), (Jvm.Cond.selects "TypeAtNight$TypeCase" ({ cls := "TypeAtNight$TypeCase", name := "copy", desc := "(LTypeAtNight$TypeCase;)V" } : Jvm.MethodName) ({ cls := "TypeAtNight$TypeCase", name := "copy", desc := "(LTypeAtNight$TypeCase;)V" } : Jvm.MethodName)), (Jvm.Cond.code ({ cls := "TypeAtNight$TypeCase", name := "copy", desc := "(LTypeAtNight$TypeCase;)V" } : Jvm.MethodName) prog_11_method_2_code (2 : Nat) (Option.none : Option Jvm.ClassFile.FieldType)), (Jvm.Cond.methodLink "TypeAtNight$TypeCase" (40 : Nat) ({ cls := "java/lang/System", name := "arraycopy", desc := "(Ljava/lang/Object;ILjava/lang/Object;II)V" } : Jvm.MethodName)), (Jvm.Cond.static ({ cls := "java/lang/System", name := "arraycopy", desc := "(Ljava/lang/Object;ILjava/lang/Object;II)V" } : Jvm.MethodName)), (Jvm.Cond.native ({ cls := "java/lang/System", name := "arraycopy", desc := "(Ljava/lang/Object;ILjava/lang/Object;II)V" } : Jvm.MethodName)), (Jvm.Cond.methodLink "TypeAtNight$Past" (34 : Nat) ({ cls := "java/lang/Math", name := "min", desc := "(II)I" } : Jvm.MethodName)), (Jvm.Cond.methodLink "TypeAtNight" (165 : Nat) ({ cls := "TypeAtNight$TypeCase", name := "moodsOf", desc := "(I)I" } : Jvm.MethodName)), (Jvm.Cond.instanceMethod ({ cls := "TypeAtNight$TypeCase", name := "moodsOf", desc := "(I)I" } : Jvm.MethodName)), (Jvm.Cond.selects "TypeAtNight$TypeCase" ({ cls := "TypeAtNight$TypeCase", name := "moodsOf", desc := "(I)I" } : Jvm.MethodName) ({ cls := "TypeAtNight$TypeCase", name := "moodsOf", desc := "(I)I" } : Jvm.MethodName)), (Jvm.Cond.code ({ cls := "TypeAtNight$TypeCase", name := "moodsOf", desc := "(I)I" } : Jvm.MethodName) prog_11_method_11_code (4 : Nat) (Option.some Jvm.ClassFile.FieldType.int))]
def cw3_8 : List Cond := [(Jvm.Cond.methodLink "TypeAtNight" (208 : Nat) ({ cls := "TypeAtNight$TypeCase", name := "setSorts", desc := "(II)V" } : Jvm.MethodName)), (Jvm.Cond.instanceMethod ({ cls := "TypeAtNight$TypeCase", name := "setSorts", desc := "(II)V" } : Jvm.MethodName)), (Jvm.Cond.selects "TypeAtNight$TypeCase" ({ cls := "TypeAtNight$TypeCase", name := "setSorts", desc := "(II)V" } : Jvm.MethodName) ({ cls := "TypeAtNight$TypeCase", name := "setSorts", desc := "(II)V" } : Jvm.MethodName)), (Jvm.Cond.code ({ cls := "TypeAtNight$TypeCase", name := "setSorts", desc := "(II)V" } : Jvm.MethodName) prog_11_method_21_code (4 : Nat) (Option.none : Option Jvm.ClassFile.FieldType)), (Jvm.Cond.methodLink "TypeAtNight$TypeCase" (85 : Nat) ({ cls := "java/lang/Math", name := "min", desc := "(II)I" } : Jvm.MethodName)), (Jvm.Cond.methodLinkNest "TypeAtNight$TypeCase" (89 : Nat) ({ cls := "TypeAtNight", name := "putToMood", desc := "(I)I" } : Jvm.MethodName) "TypeAtNight"), (Jvm.Cond.static ({ cls := "TypeAtNight", name := "putToMood", desc := "(I)I" } : Jvm.MethodName)), (Jvm.Cond.code ({ cls := "TypeAtNight", name := "putToMood", desc := "(I)I" } : Jvm.MethodName) prog_1_method_50_code (1 : Nat) (Option.some Jvm.ClassFile.FieldType.int)), (Jvm.Cond.methodLink "TypeAtNight" (212 : Nat) ({ cls := "TypeAtNight$Numbers", name := "tell", desc := "(JJ)V" } : Jvm.MethodName)), (Jvm.Cond.instanceMethod ({ cls := "TypeAtNight$Numbers", name := "tell", desc := "(JJ)V" } : Jvm.MethodName)), (Jvm.Cond.selects "TypeAtNight$Numbers" ({ cls := "TypeAtNight$Numbers", name := "tell", desc := "(JJ)V" } : Jvm.MethodName) ({ cls := "TypeAtNight$Numbers", name := "tell", desc := "(JJ)V" } : Jvm.MethodName)), (Jvm.Cond.code ({ cls := "TypeAtNight$Numbers", name := "tell", desc := "(JJ)V" } : Jvm.MethodName) prog_7_method_5_code (5 : Nat) (Option.none : Option Jvm.ClassFile.FieldType)), (Jvm.Cond.methodLink "TypeAtNight$Numbers" (26 : Nat) ({ cls := "TypeAtNight$Numbers", name := "tell", desc := "(J)V" } : Jvm.MethodName)), (Jvm.Cond.instanceMethod ({ cls := "TypeAtNight$Numbers", name := "tell", desc := "(J)V" } : Jvm.MethodName)), (Jvm.Cond.selects "TypeAtNight$Numbers" ({ cls := "TypeAtNight$Numbers", name := "tell", desc := "(J)V" } : Jvm.MethodName) ({ cls := "TypeAtNight$Numbers", name := "tell", desc := "(J)V" } : Jvm.MethodName)), (Jvm.Cond.code ({ cls := "TypeAtNight$Numbers", name := "tell", desc := "(J)V" } : Jvm.MethodName) prog_7_method_4_code (3 : Nat) (Option.none : Option Jvm.ClassFile.FieldType))]
def cw3_9 : List Cond := [(Jvm.Cond.methodLink "TypeAtNight$Numbers" (19 : Nat) ({ cls := "TypeAtNight$Numbers", name := "clear", desc := "()V" } : Jvm.MethodName)), (Jvm.Cond.instanceMethod ({ cls := "TypeAtNight$Numbers", name := "clear", desc := "()V" } : Jvm.MethodName)), (Jvm.Cond.selects "TypeAtNight$Numbers" ({ cls := "TypeAtNight$Numbers", name := "clear", desc := "()V" } : Jvm.MethodName) ({ cls := "TypeAtNight$Numbers", name := "clear", desc := "()V" } : Jvm.MethodName)), (Jvm.Cond.code ({ cls := "TypeAtNight$Numbers", name := "clear", desc := "()V" } : Jvm.MethodName) prog_7_method_2_code (1 : Nat) (Option.none : Option Jvm.ClassFile.FieldType)), (Jvm.Cond.methodLink "TypeAtNight$Numbers" (22 : Nat) ({ cls := "TypeAtNight$Numbers", name := "add", desc := "(J)V" } : Jvm.MethodName)), (Jvm.Cond.instanceMethod ({ cls := "TypeAtNight$Numbers", name := "add", desc := "(J)V" } : Jvm.MethodName)), (Jvm.Cond.selects "TypeAtNight$Numbers" ({ cls := "TypeAtNight$Numbers", name := "add", desc := "(J)V" } : Jvm.MethodName) ({ cls := "TypeAtNight$Numbers", name := "add", desc := "(J)V" } : Jvm.MethodName)), (Jvm.Cond.code ({ cls := "TypeAtNight$Numbers", name := "add", desc := "(J)V" } : Jvm.MethodName) prog_7_method_3_code (3 : Nat) (Option.none : Option Jvm.ClassFile.FieldType)), (Jvm.Cond.methodLink "TypeAtNightLaw" (66 : Nat) ({ cls := "TypeAtNight", name := "nights", desc := "(I)I" } : Jvm.MethodName)), (Jvm.Cond.instanceMethod ({ cls := "TypeAtNight", name := "nights", desc := "(I)I" } : Jvm.MethodName)), (Jvm.Cond.selects "TypeAtNight" ({ cls := "TypeAtNight", name := "nights", desc := "(I)I" } : Jvm.MethodName) ({ cls := "TypeAtNight", name := "nights", desc := "(I)I" } : Jvm.MethodName)), (Jvm.Cond.code ({ cls := "TypeAtNight", name := "nights", desc := "(I)I" } : Jvm.MethodName) prog_1_method_10_code (2 : Nat) (Option.some Jvm.ClassFile.FieldType.int)), (Jvm.Cond.methodLink "TypeAtNight" (216 : Nat) ({ cls := "TypeAtNight$TypeCase", name := "all", desc := "()I" } : Jvm.MethodName)), (Jvm.Cond.instanceMethod ({ cls := "TypeAtNight$TypeCase", name := "all", desc := "()I" } : Jvm.MethodName)), (Jvm.Cond.selects "TypeAtNight$TypeCase" ({ cls := "TypeAtNight$TypeCase", name := "all", desc := "()I" } : Jvm.MethodName) ({ cls := "TypeAtNight$TypeCase", name := "all", desc := "()I" } : Jvm.MethodName)), (Jvm.Cond.code ({ cls := "TypeAtNight$TypeCase", name := "all", desc := "()I" } : Jvm.MethodName) prog_11_method_5_code (1 : Nat) (Option.some Jvm.ClassFile.FieldType.int))]
def cw3_10 : List Cond := [(Jvm.Cond.methodLink "TypeAtNight" (219 : Nat) ({ cls := "TypeAtNight$TypeCase", name := "passNights", desc := "(LTypeAtNight$Rule;II)V" } : Jvm.MethodName)), (Jvm.Cond.instanceMethod ({ cls := "TypeAtNight$TypeCase", name := "passNights", desc := "(LTypeAtNight$Rule;II)V" } : Jvm.MethodName)), (Jvm.Cond.selects "TypeAtNight$TypeCase" ({ cls := "TypeAtNight$TypeCase", name := "passNights", desc := "(LTypeAtNight$Rule;II)V" } : Jvm.MethodName) ({ cls := "TypeAtNight$TypeCase", name := "passNights", desc := "(LTypeAtNight$Rule;II)V" } : Jvm.MethodName)), (Jvm.Cond.code ({ cls := "TypeAtNight$TypeCase", name := "passNights", desc := "(LTypeAtNight$Rule;II)V" } : Jvm.MethodName) prog_11_method_26_code (6 : Nat) (Option.none : Option Jvm.ClassFile.FieldType)), (Jvm.Cond.methodLink "TypeAtNight$TypeCase" (99 : Nat) ({ cls := "TypeAtNight$TypeCase", name := "passNight", desc := "(LTypeAtNight$Rule;I)Z" } : Jvm.MethodName)), (Jvm.Cond.instanceMethod ({ cls := "TypeAtNight$TypeCase", name := "passNight", desc := "(LTypeAtNight$Rule;I)Z" } : Jvm.MethodName)), (Jvm.Cond.selects "TypeAtNight$TypeCase" ({ cls := "TypeAtNight$TypeCase", name := "passNight", desc := "(LTypeAtNight$Rule;I)Z" } : Jvm.MethodName) ({ cls := "TypeAtNight$TypeCase", name := "passNight", desc := "(LTypeAtNight$Rule;I)Z" } : Jvm.MethodName)), (Jvm.Cond.code ({ cls := "TypeAtNight$TypeCase", name := "passNight", desc := "(LTypeAtNight$Rule;I)Z" } : Jvm.MethodName) prog_11_method_27_code (6 : Nat) (Option.some Jvm.ClassFile.FieldType.boolean)), (Jvm.Cond.methodLink "TypeAtNight$TypeCase" (109 : Nat) ({ cls := "TypeAtNight$TypeCase", name := "distribute", desc := "()V" } : Jvm.MethodName)), (Jvm.Cond.instanceMethod ({ cls := "TypeAtNight$TypeCase", name := "distribute", desc := "()V" } : Jvm.MethodName)), (Jvm.Cond.selects "TypeAtNight$TypeCase" ({ cls := "TypeAtNight$TypeCase", name := "distribute", desc := "()V" } : Jvm.MethodName) ({ cls := "TypeAtNight$TypeCase", name := "distribute", desc := "()V" } : Jvm.MethodName)), (Jvm.Cond.code ({ cls := "TypeAtNight$TypeCase", name := "distribute", desc := "()V" } : Jvm.MethodName) prog_11_method_25_code (2 : Nat) (Option.none : Option Jvm.ClassFile.FieldType)), (Jvm.Cond.methodLink "TypeAtNight$TypeCase" (112 : Nat) ({ cls := "TypeAtNight$TypeCase", name := "weighBoxes", desc := "()V" } : Jvm.MethodName)), (Jvm.Cond.privateMethod ({ cls := "TypeAtNight$TypeCase", name := "weighBoxes", desc := "()V" } : Jvm.MethodName)), (Jvm.Cond.instanceMethod ({ cls := "TypeAtNight$TypeCase", name := "weighBoxes", desc := "()V" } : Jvm.MethodName)), (Jvm.Cond.code ({ cls := "TypeAtNight$TypeCase", name := "weighBoxes", desc := "()V" } : Jvm.MethodName) prog_11_method_29_code (2 : Nat) (Option.none : Option Jvm.ClassFile.FieldType))]
def cw3_11 : List Cond := [(Jvm.Cond.methodLink "TypeAtNight$TypeCase" (119 : Nat) ({ cls := "java/util/Arrays", name := "fill", desc := "([II)V" } : Jvm.MethodName)), (Jvm.Cond.methodLink "TypeAtNight$TypeCase" (115 : Nat) ({ cls := "TypeAtNight$TypeCase", name := "turn", desc := "(LTypeAtNight$Rule;I)I" } : Jvm.MethodName)), (Jvm.Cond.privateMethod ({ cls := "TypeAtNight$TypeCase", name := "turn", desc := "(LTypeAtNight$Rule;I)I" } : Jvm.MethodName)), (Jvm.Cond.instanceMethod ({ cls := "TypeAtNight$TypeCase", name := "turn", desc := "(LTypeAtNight$Rule;I)I" } : Jvm.MethodName)), (Jvm.Cond.code ({ cls := "TypeAtNight$TypeCase", name := "turn", desc := "(LTypeAtNight$Rule;I)I" } : Jvm.MethodName) prog_11_method_30_code (3 : Nat) (Option.some Jvm.ClassFile.FieldType.int)), (Jvm.Cond.methodLink "TypeAtNight$TypeCase" (128 : Nat) ({ cls := "TypeAtNight$Rule", name := "value", desc := "()I" } : Jvm.MethodName)), (Jvm.Cond.instanceMethod ({ cls := "TypeAtNight$Rule", name := "value", desc := "()I" } : Jvm.MethodName)), (Jvm.Cond.selects "TypeAtNight$Rule" ({ cls := "TypeAtNight$Rule", name := "value", desc := "()I" } : Jvm.MethodName) ({ cls := "TypeAtNight$Rule", name := "value", desc := "()I" } : Jvm.MethodName)), (Jvm.Cond.code ({ cls := "TypeAtNight$Rule", name := "value", desc := "()I" } : Jvm.MethodName) prog_9_method_12_code (6 : Nat) (Option.some Jvm.ClassFile.FieldType.int)), (Jvm.Cond.methodLink "TypeAtNight$TypeCase" (103 : Nat) ({ cls := "TypeAtNight$Rule", name := "looksAtNight", desc := "()Z" } : Jvm.MethodName)), (Jvm.Cond.instanceMethod ({ cls := "TypeAtNight$Rule", name := "looksAtNight", desc := "()Z" } : Jvm.MethodName)), (Jvm.Cond.selects "TypeAtNight$Rule" ({ cls := "TypeAtNight$Rule", name := "looksAtNight", desc := "()Z" } : Jvm.MethodName) ({ cls := "TypeAtNight$Rule", name := "looksAtNight", desc := "()Z" } : Jvm.MethodName)), (Jvm.Cond.code ({ cls := "TypeAtNight$Rule", name := "looksAtNight", desc := "()Z" } : Jvm.MethodName) prog_9_method_2_code (1 : Nat) (Option.some Jvm.ClassFile.FieldType.boolean)), (Jvm.Cond.methodLink "TypeAtNight" (223 : Nat) ({ cls := "TypeAtNight$TypeCase", name := "moodsOfAll", desc := "()I" } : Jvm.MethodName)), (Jvm.Cond.instanceMethod ({ cls := "TypeAtNight$TypeCase", name := "moodsOfAll", desc := "()I" } : Jvm.MethodName)), (Jvm.Cond.selects "TypeAtNight$TypeCase" ({ cls := "TypeAtNight$TypeCase", name := "moodsOfAll", desc := "()I" } : Jvm.MethodName) ({ cls := "TypeAtNight$TypeCase", name := "moodsOfAll", desc := "()I" } : Jvm.MethodName))]
def cw3_12 : List Cond := [(Jvm.Cond.code ({ cls := "TypeAtNight$TypeCase", name := "moodsOfAll", desc := "()I" } : Jvm.MethodName) prog_11_method_12_code (1 : Nat) (Option.some Jvm.ClassFile.FieldType.int)), (Jvm.Cond.methodLink "TypeAtNight$TypeCase" (46 : Nat) ({ cls := "TypeAtNight$TypeCase", name := "all", desc := "()I" } : Jvm.MethodName)), (Jvm.Cond.methodLink "TypeAtNight$TypeCase" (63 : Nat) ({ cls := "TypeAtNight$TypeCase", name := "moodsOf", desc := "(I)I" } : Jvm.MethodName)), (Jvm.Cond.methodLink "TypeAtNight" (226 : Nat) ({ cls := "TypeAtNight$Numbers", name := "tell", desc := "(J)V" } : Jvm.MethodName)), (Jvm.Cond.methodLink "TypeAtNight" (229 : Nat) ({ cls := "TypeAtNight$TypeCase", name := "atHome", desc := "()I" } : Jvm.MethodName)), (Jvm.Cond.instanceMethod ({ cls := "TypeAtNight$TypeCase", name := "atHome", desc := "()I" } : Jvm.MethodName)), (Jvm.Cond.selects "TypeAtNight$TypeCase" ({ cls := "TypeAtNight$TypeCase", name := "atHome", desc := "()I" } : Jvm.MethodName) ({ cls := "TypeAtNight$TypeCase", name := "atHome", desc := "()I" } : Jvm.MethodName)), (Jvm.Cond.code ({ cls := "TypeAtNight$TypeCase", name := "atHome", desc := "()I" } : Jvm.MethodName) prog_11_method_15_code (3 : Nat) (Option.some Jvm.ClassFile.FieldType.int)), (Jvm.Cond.methodLink "TypeAtNightLaw" (70 : Nat) ({ cls := "TypeAtNight", name := "moves", desc := "(II)I" } : Jvm.MethodName)), (Jvm.Cond.instanceMethod ({ cls := "TypeAtNight", name := "moves", desc := "(II)I" } : Jvm.MethodName)), (Jvm.Cond.selects "TypeAtNight" ({ cls := "TypeAtNight", name := "moves", desc := "(II)I" } : Jvm.MethodName) ({ cls := "TypeAtNight", name := "moves", desc := "(II)I" } : Jvm.MethodName)), (Jvm.Cond.code ({ cls := "TypeAtNight", name := "moves", desc := "(II)I" } : Jvm.MethodName) prog_1_method_11_code (3 : Nat) (Option.some Jvm.ClassFile.FieldType.int)), (Jvm.Cond.methodLink "TypeAtNight" (232 : Nat) ({ cls := "TypeAtNight$TypeCase", name := "copy", desc := "(LTypeAtNight$TypeCase;)V" } : Jvm.MethodName)), (Jvm.Cond.methodLink "TypeAtNight" (235 : Nat) ({ cls := "TypeAtNight$TypeCase", name := "moveTo", desc := "(II)I" } : Jvm.MethodName)), (Jvm.Cond.instanceMethod ({ cls := "TypeAtNight$TypeCase", name := "moveTo", desc := "(II)I" } : Jvm.MethodName)), (Jvm.Cond.selects "TypeAtNight$TypeCase" ({ cls := "TypeAtNight$TypeCase", name := "moveTo", desc := "(II)I" } : Jvm.MethodName) ({ cls := "TypeAtNight$TypeCase", name := "moveTo", desc := "(II)I" } : Jvm.MethodName))]
def cw3_13 : List Cond := [(Jvm.Cond.code ({ cls := "TypeAtNight$TypeCase", name := "moveTo", desc := "(II)I" } : Jvm.MethodName) prog_11_method_22_code (4 : Nat) (Option.some Jvm.ClassFile.FieldType.int)), (Jvm.Cond.methodLink "TypeAtNight$TypeCase" (92 : Nat) ({ cls := "TypeAtNight$TypeCase", name := "has", desc := "(I)Z" } : Jvm.MethodName)), (Jvm.Cond.instanceMethod ({ cls := "TypeAtNight$TypeCase", name := "has", desc := "(I)Z" } : Jvm.MethodName)), (Jvm.Cond.selects "TypeAtNight$TypeCase" ({ cls := "TypeAtNight$TypeCase", name := "has", desc := "(I)Z" } : Jvm.MethodName) ({ cls := "TypeAtNight$TypeCase", name := "has", desc := "(I)Z" } : Jvm.MethodName)), (Jvm.Cond.code ({ cls := "TypeAtNight$TypeCase", name := "has", desc := "(I)Z" } : Jvm.MethodName) prog_11_method_4_code (2 : Nat) (Option.some Jvm.ClassFile.FieldType.boolean)), (Jvm.Cond.methodLinkNest "TypeAtNight$TypeCase" (96 : Nat) ({ cls := "TypeAtNight", name := "isBox", desc := "(I)Z" } : Jvm.MethodName) "TypeAtNight"), (Jvm.Cond.static ({ cls := "TypeAtNight", name := "isBox", desc := "(I)Z" } : Jvm.MethodName)), (Jvm.Cond.code ({ cls := "TypeAtNight", name := "isBox", desc := "(I)Z" } : Jvm.MethodName) prog_1_method_49_code (1 : Nat) (Option.some Jvm.ClassFile.FieldType.boolean)), (Jvm.Cond.methodLink "TypeAtNight" (238 : Nat) ({ cls := "TypeAtNight", name := "undoable", desc := "(I)I" } : Jvm.MethodName)), (Jvm.Cond.privateMethod ({ cls := "TypeAtNight", name := "undoable", desc := "(I)I" } : Jvm.MethodName)), (Jvm.Cond.instanceMethod ({ cls := "TypeAtNight", name := "undoable", desc := "(I)I" } : Jvm.MethodName)), (Jvm.Cond.code ({ cls := "TypeAtNight", name := "undoable", desc := "(I)I" } : Jvm.MethodName) prog_1_method_52_code (2 : Nat) (Option.some Jvm.ClassFile.FieldType.int)), (Jvm.Cond.methodLink "TypeAtNightLaw" (74 : Nat) ({ cls := "TypeAtNight", name := "cleans", desc := "(I)I" } : Jvm.MethodName)), (Jvm.Cond.instanceMethod ({ cls := "TypeAtNight", name := "cleans", desc := "(I)I" } : Jvm.MethodName)), (Jvm.Cond.selects "TypeAtNight" ({ cls := "TypeAtNight", name := "cleans", desc := "(I)I" } : Jvm.MethodName) ({ cls := "TypeAtNight", name := "cleans", desc := "(I)I" } : Jvm.MethodName)), (Jvm.Cond.code ({ cls := "TypeAtNight", name := "cleans", desc := "(I)I" } : Jvm.MethodName) prog_1_method_12_code (2 : Nat) (Option.some Jvm.ClassFile.FieldType.int))]
def cw3_14 : List Cond := [(Jvm.Cond.methodLink "TypeAtNight" (241 : Nat) ({ cls := "TypeAtNight$TypeCase", name := "clean", desc := "(I)I" } : Jvm.MethodName)), (Jvm.Cond.instanceMethod ({ cls := "TypeAtNight$TypeCase", name := "clean", desc := "(I)I" } : Jvm.MethodName)), (Jvm.Cond.selects "TypeAtNight$TypeCase" ({ cls := "TypeAtNight$TypeCase", name := "clean", desc := "(I)I" } : Jvm.MethodName) ({ cls := "TypeAtNight$TypeCase", name := "clean", desc := "(I)I" } : Jvm.MethodName)), (Jvm.Cond.code ({ cls := "TypeAtNight$TypeCase", name := "clean", desc := "(I)I" } : Jvm.MethodName) prog_11_method_23_code (3 : Nat) (Option.some Jvm.ClassFile.FieldType.int)), (Jvm.Cond.methodLink "TypeAtNightLaw" (78 : Nat) ({ cls := "TypeAtNight", name := "casts", desc := "(I)I" } : Jvm.MethodName)), (Jvm.Cond.instanceMethod ({ cls := "TypeAtNight", name := "casts", desc := "(I)I" } : Jvm.MethodName)), (Jvm.Cond.selects "TypeAtNight" ({ cls := "TypeAtNight", name := "casts", desc := "(I)I" } : Jvm.MethodName) ({ cls := "TypeAtNight", name := "casts", desc := "(I)I" } : Jvm.MethodName)), (Jvm.Cond.code ({ cls := "TypeAtNight", name := "casts", desc := "(I)I" } : Jvm.MethodName) prog_1_method_13_code (2 : Nat) (Option.some Jvm.ClassFile.FieldType.int)), (Jvm.Cond.methodLink "TypeAtNight" (244 : Nat) ({ cls := "TypeAtNight$TypeCase", name := "castAnew", desc := "(I)I" } : Jvm.MethodName)), (Jvm.Cond.instanceMethod ({ cls := "TypeAtNight$TypeCase", name := "castAnew", desc := "(I)I" } : Jvm.MethodName)), (Jvm.Cond.selects "TypeAtNight$TypeCase" ({ cls := "TypeAtNight$TypeCase", name := "castAnew", desc := "(I)I" } : Jvm.MethodName) ({ cls := "TypeAtNight$TypeCase", name := "castAnew", desc := "(I)I" } : Jvm.MethodName)), (Jvm.Cond.code ({ cls := "TypeAtNight$TypeCase", name := "castAnew", desc := "(I)I" } : Jvm.MethodName) prog_11_method_24_code (3 : Nat) (Option.some Jvm.ClassFile.FieldType.int)), (Jvm.Cond.methodLink "TypeAtNightLaw" (82 : Nat) ({ cls := "TypeAtNight", name := "week", desc := "()I" } : Jvm.MethodName)), (Jvm.Cond.instanceMethod ({ cls := "TypeAtNight", name := "week", desc := "()I" } : Jvm.MethodName)), (Jvm.Cond.selects "TypeAtNight" ({ cls := "TypeAtNight", name := "week", desc := "()I" } : Jvm.MethodName) ({ cls := "TypeAtNight", name := "week", desc := "()I" } : Jvm.MethodName)), (Jvm.Cond.code ({ cls := "TypeAtNight", name := "week", desc := "()I" } : Jvm.MethodName) prog_1_method_14_code (7 : Nat) (Option.some Jvm.ClassFile.FieldType.int))]
set_option maxRecDepth 100000 in
theorem ce_3 : tables_1_3 = cw3_0 ++ (cw3_1 ++ (cw3_2 ++ (cw3_3 ++ (cw3_4 ++ (cw3_5 ++ (cw3_6 ++ (cw3_7 ++ (cw3_8 ++ (cw3_9 ++ (cw3_10 ++ (cw3_11 ++ (cw3_12 ++ (cw3_13 ++ (cw3_14)))))))))))))) := rfl
theorem ct_3 {w : Cond} (h : w ∈ tables_1_3) : w ∈ lw_tbl := by
  refine List.mem_append_right _ ?_
  unfold tables_1
  simp only [List.mem_append]
  exact Or.inr (Or.inr (Or.inl h))
theorem gm_w3_0 {w : Cond} (h : w ∈ cw3_0) (hg : goodWord w = true) : w ∈ g_tbl := g_mw (ct_3 (by rw [ce_3]; exact List.mem_append_left _ h)) hg
theorem gm_w3_1 {w : Cond} (h : w ∈ cw3_1) (hg : goodWord w = true) : w ∈ g_tbl := g_mw (ct_3 (by rw [ce_3]; exact List.mem_append_right _ (List.mem_append_left _ h))) hg
theorem gm_w3_2 {w : Cond} (h : w ∈ cw3_2) (hg : goodWord w = true) : w ∈ g_tbl := g_mw (ct_3 (by rw [ce_3]; exact List.mem_append_right _ (List.mem_append_right _ (List.mem_append_left _ h)))) hg
theorem gm_w3_3 {w : Cond} (h : w ∈ cw3_3) (hg : goodWord w = true) : w ∈ g_tbl := g_mw (ct_3 (by rw [ce_3]; exact List.mem_append_right _ (List.mem_append_right _ (List.mem_append_right _ (List.mem_append_left _ h))))) hg
theorem gm_w3_4 {w : Cond} (h : w ∈ cw3_4) (hg : goodWord w = true) : w ∈ g_tbl := g_mw (ct_3 (by rw [ce_3]; exact List.mem_append_right _ (List.mem_append_right _ (List.mem_append_right _ (List.mem_append_right _ (List.mem_append_left _ h)))))) hg
theorem gm_w3_5 {w : Cond} (h : w ∈ cw3_5) (hg : goodWord w = true) : w ∈ g_tbl := g_mw (ct_3 (by rw [ce_3]; exact List.mem_append_right _ (List.mem_append_right _ (List.mem_append_right _ (List.mem_append_right _ (List.mem_append_right _ (List.mem_append_left _ h))))))) hg
theorem gm_w3_6 {w : Cond} (h : w ∈ cw3_6) (hg : goodWord w = true) : w ∈ g_tbl := g_mw (ct_3 (by rw [ce_3]; exact List.mem_append_right _ (List.mem_append_right _ (List.mem_append_right _ (List.mem_append_right _ (List.mem_append_right _ (List.mem_append_right _ (List.mem_append_left _ h)))))))) hg
theorem gm_w3_7 {w : Cond} (h : w ∈ cw3_7) (hg : goodWord w = true) : w ∈ g_tbl := g_mw (ct_3 (by rw [ce_3]; exact List.mem_append_right _ (List.mem_append_right _ (List.mem_append_right _ (List.mem_append_right _ (List.mem_append_right _ (List.mem_append_right _ (List.mem_append_right _ (List.mem_append_left _ h))))))))) hg
theorem gm_w3_8 {w : Cond} (h : w ∈ cw3_8) (hg : goodWord w = true) : w ∈ g_tbl := g_mw (ct_3 (by rw [ce_3]; exact List.mem_append_right _ (List.mem_append_right _ (List.mem_append_right _ (List.mem_append_right _ (List.mem_append_right _ (List.mem_append_right _ (List.mem_append_right _ (List.mem_append_right _ (List.mem_append_left _ h)))))))))) hg
theorem gm_w3_9 {w : Cond} (h : w ∈ cw3_9) (hg : goodWord w = true) : w ∈ g_tbl := g_mw (ct_3 (by rw [ce_3]; exact List.mem_append_right _ (List.mem_append_right _ (List.mem_append_right _ (List.mem_append_right _ (List.mem_append_right _ (List.mem_append_right _ (List.mem_append_right _ (List.mem_append_right _ (List.mem_append_right _ (List.mem_append_left _ h))))))))))) hg
theorem gm_w3_10 {w : Cond} (h : w ∈ cw3_10) (hg : goodWord w = true) : w ∈ g_tbl := g_mw (ct_3 (by rw [ce_3]; exact List.mem_append_right _ (List.mem_append_right _ (List.mem_append_right _ (List.mem_append_right _ (List.mem_append_right _ (List.mem_append_right _ (List.mem_append_right _ (List.mem_append_right _ (List.mem_append_right _ (List.mem_append_right _ (List.mem_append_left _ h)))))))))))) hg
theorem gm_w3_11 {w : Cond} (h : w ∈ cw3_11) (hg : goodWord w = true) : w ∈ g_tbl := g_mw (ct_3 (by rw [ce_3]; exact List.mem_append_right _ (List.mem_append_right _ (List.mem_append_right _ (List.mem_append_right _ (List.mem_append_right _ (List.mem_append_right _ (List.mem_append_right _ (List.mem_append_right _ (List.mem_append_right _ (List.mem_append_right _ (List.mem_append_right _ (List.mem_append_left _ h))))))))))))) hg
theorem gm_w3_12 {w : Cond} (h : w ∈ cw3_12) (hg : goodWord w = true) : w ∈ g_tbl := g_mw (ct_3 (by rw [ce_3]; exact List.mem_append_right _ (List.mem_append_right _ (List.mem_append_right _ (List.mem_append_right _ (List.mem_append_right _ (List.mem_append_right _ (List.mem_append_right _ (List.mem_append_right _ (List.mem_append_right _ (List.mem_append_right _ (List.mem_append_right _ (List.mem_append_right _ (List.mem_append_left _ h)))))))))))))) hg
theorem gm_w3_13 {w : Cond} (h : w ∈ cw3_13) (hg : goodWord w = true) : w ∈ g_tbl := g_mw (ct_3 (by rw [ce_3]; exact List.mem_append_right _ (List.mem_append_right _ (List.mem_append_right _ (List.mem_append_right _ (List.mem_append_right _ (List.mem_append_right _ (List.mem_append_right _ (List.mem_append_right _ (List.mem_append_right _ (List.mem_append_right _ (List.mem_append_right _ (List.mem_append_right _ (List.mem_append_right _ (List.mem_append_left _ h))))))))))))))) hg
theorem gm_w3_14 {w : Cond} (h : w ∈ cw3_14) (hg : goodWord w = true) : w ∈ g_tbl := g_mw (ct_3 (by rw [ce_3]; exact List.mem_append_right _ (List.mem_append_right _ (List.mem_append_right _ (List.mem_append_right _ (List.mem_append_right _ (List.mem_append_right _ (List.mem_append_right _ (List.mem_append_right _ (List.mem_append_right _ (List.mem_append_right _ (List.mem_append_right _ (List.mem_append_right _ (List.mem_append_right _ (List.mem_append_right _ (h)))))))))))))))) hg
def cw4_0 : List Cond := [(Jvm.Cond.methodLink "TypeAtNight" (247 : Nat) ({ cls := "TypeAtNight", name := "faultOfWeek", desc := "()I" } : Jvm.MethodName)), (Jvm.Cond.privateMethod ({ cls := "TypeAtNight", name := "faultOfWeek", desc := "()I" } : Jvm.MethodName)), (Jvm.Cond.instanceMethod ({ cls := "TypeAtNight", name := "faultOfWeek", desc := "()I" } : Jvm.MethodName)), (Jvm.Cond.code ({ cls := "TypeAtNight", name := "faultOfWeek", desc := "()I" } : Jvm.MethodName) prog_1_method_56_code (5 : Nat) (Option.some Jvm.ClassFile.FieldType.int)), (Jvm.Cond.methodLink "TypeAtNight" (252 : Nat) ({ cls := "TypeAtNight", name := "behindAct", desc := "(II)I" } : Jvm.MethodName)), (Jvm.Cond.privateMethod ({ cls := "TypeAtNight", name := "behindAct", desc := "(II)I" } : Jvm.MethodName)), (Jvm.Cond.instanceMethod ({ cls := "TypeAtNight", name := "behindAct", desc := "(II)I" } : Jvm.MethodName)), (Jvm.Cond.code ({ cls := "TypeAtNight", name := "behindAct", desc := "(II)I" } : Jvm.MethodName) prog_1_method_57_code (8 : Nat) (Option.some Jvm.ClassFile.FieldType.int)), (Jvm.Cond.methodLink "TypeAtNight" (432 : Nat) ({ cls := "TypeAtNight", name := "shapeOfAct", desc := "(I)Ljava/lang/String;" } : Jvm.MethodName)), (Jvm.Cond.static ({ cls := "TypeAtNight", name := "shapeOfAct", desc := "(I)Ljava/lang/String;" } : Jvm.MethodName)), (Jvm.Cond.code ({ cls := "TypeAtNight", name := "shapeOfAct", desc := "(I)Ljava/lang/String;" } : Jvm.MethodName) prog_1_method_58_code (1 : Nat) (Option.some (Jvm.ClassFile.FieldType.object "java/lang/String"))), (Jvm.Cond.stringRef "TypeAtNight" (449 : Nat) "d"), (Jvm.Cond.stringRef "TypeAtNight" (451 : Nat) "sdl"), (Jvm.Cond.stringRef "TypeAtNight" (453 : Nat) "ddb"), (Jvm.Cond.stringRef "TypeAtNight" (455 : Nat) "dd"), (Jvm.Cond.stringRef "TypeAtNight" (457 : Nat) "")]
def cw4_1 : List Cond := [(Jvm.Cond.methodLink "TypeAtNight" (436 : Nat) ({ cls := "java/lang/String", name := "isEmpty", desc := "()Z" } : Jvm.MethodName)), (Jvm.Cond.instanceMethod ({ cls := "java/lang/String", name := "isEmpty", desc := "()Z" } : Jvm.MethodName)), (Jvm.Cond.selects "java/lang/String" ({ cls := "java/lang/String", name := "isEmpty", desc := "()Z" } : Jvm.MethodName) ({ cls := "java/lang/String", name := "isEmpty", desc := "()Z" } : Jvm.MethodName)), (Jvm.Cond.code ({ cls := "java/lang/String", name := "isEmpty", desc := "()Z" } : Jvm.MethodName) prog_25_method_55_code (1 : Nat) (Option.some Jvm.ClassFile.FieldType.boolean)), (Jvm.Cond.methodLink "TypeAtNight" (442 : Nat) ({ cls := "java/lang/String", name := "length", desc := "()I" } : Jvm.MethodName)), (Jvm.Cond.methodLink "TypeAtNight" (445 : Nat) ({ cls := "TypeAtNight$Text", name := "stands", desc := "(CI)Z" } : Jvm.MethodName)), (Jvm.Cond.methodLink "TypeAtNight" (255 : Nat) ({ cls := "TypeAtNight", name := "doAct", desc := "(II)I" } : Jvm.MethodName)), (Jvm.Cond.privateMethod ({ cls := "TypeAtNight", name := "doAct", desc := "(II)I" } : Jvm.MethodName)), (Jvm.Cond.instanceMethod ({ cls := "TypeAtNight", name := "doAct", desc := "(II)I" } : Jvm.MethodName)), (Jvm.Cond.code ({ cls := "TypeAtNight", name := "doAct", desc := "(II)I" } : Jvm.MethodName) prog_1_method_59_code (3 : Nat) (Option.some Jvm.ClassFile.FieldType.int)), (Jvm.Cond.methodLink "TypeAtNight" (459 : Nat) ({ cls := "TypeAtNight", name := "setLetters", desc := "(I)I" } : Jvm.MethodName)), (Jvm.Cond.privateMethod ({ cls := "TypeAtNight", name := "setLetters", desc := "(I)I" } : Jvm.MethodName)), (Jvm.Cond.instanceMethod ({ cls := "TypeAtNight", name := "setLetters", desc := "(I)I" } : Jvm.MethodName)), (Jvm.Cond.code ({ cls := "TypeAtNight", name := "setLetters", desc := "(I)I" } : Jvm.MethodName) prog_1_method_60_code (3 : Nat) (Option.some Jvm.ClassFile.FieldType.int)), (Jvm.Cond.methodLink "TypeAtNight" (462 : Nat) ({ cls := "TypeAtNight$Text", name := "twoDigitsAt", desc := "(I)I" } : Jvm.MethodName)), (Jvm.Cond.instanceMethod ({ cls := "TypeAtNight$Text", name := "twoDigitsAt", desc := "(I)I" } : Jvm.MethodName))]
def cw4_2 : List Cond := [(Jvm.Cond.selects "TypeAtNight$Text" ({ cls := "TypeAtNight$Text", name := "twoDigitsAt", desc := "(I)I" } : Jvm.MethodName) ({ cls := "TypeAtNight$Text", name := "twoDigitsAt", desc := "(I)I" } : Jvm.MethodName)), (Jvm.Cond.code ({ cls := "TypeAtNight$Text", name := "twoDigitsAt", desc := "(I)I" } : Jvm.MethodName) prog_10_method_9_code (2 : Nat) (Option.some Jvm.ClassFile.FieldType.int)), (Jvm.Cond.methodLink "TypeAtNight" (258 : Nat) ({ cls := "java/lang/Integer", name := "bitCount", desc := "(I)I" } : Jvm.MethodName)), (Jvm.Cond.static ({ cls := "java/lang/Integer", name := "bitCount", desc := "(I)I" } : Jvm.MethodName)), (Jvm.Cond.code ({ cls := "java/lang/Integer", name := "bitCount", desc := "(I)I" } : Jvm.MethodName) prog_20_method_49_code (1 : Nat) (Option.some Jvm.ClassFile.FieldType.int)), (Jvm.Cond.constant "java/lang/Integer" (265 : Nat) (1431655765 : Int32)), (Jvm.Cond.constant "java/lang/Integer" (266 : Nat) (858993459 : Int32)), (Jvm.Cond.constant "java/lang/Integer" (267 : Nat) (252645135 : Int32)), (Jvm.Cond.methodLink "TypeAtNightLaw" (86 : Nat) ({ cls := "TypeAtNight", name := "undo", desc := "()I" } : Jvm.MethodName)), (Jvm.Cond.instanceMethod ({ cls := "TypeAtNight", name := "undo", desc := "()I" } : Jvm.MethodName)), (Jvm.Cond.selects "TypeAtNight" ({ cls := "TypeAtNight", name := "undo", desc := "()I" } : Jvm.MethodName) ({ cls := "TypeAtNight", name := "undo", desc := "()I" } : Jvm.MethodName)), (Jvm.Cond.code ({ cls := "TypeAtNight", name := "undo", desc := "()I" } : Jvm.MethodName) prog_1_method_15_code (1 : Nat) (Option.some Jvm.ClassFile.FieldType.int)), (Jvm.Cond.methodLink "TypeAtNight" (263 : Nat) ({ cls := "TypeAtNight$Past", name := "pop", desc := "(LTypeAtNight$TypeCase;)Z" } : Jvm.MethodName)), (Jvm.Cond.instanceMethod ({ cls := "TypeAtNight$Past", name := "pop", desc := "(LTypeAtNight$TypeCase;)Z" } : Jvm.MethodName)), (Jvm.Cond.selects "TypeAtNight$Past" ({ cls := "TypeAtNight$Past", name := "pop", desc := "(LTypeAtNight$TypeCase;)Z" } : Jvm.MethodName) ({ cls := "TypeAtNight$Past", name := "pop", desc := "(LTypeAtNight$TypeCase;)Z" } : Jvm.MethodName)), (Jvm.Cond.code ({ cls := "TypeAtNight$Past", name := "pop", desc := "(LTypeAtNight$TypeCase;)Z" } : Jvm.MethodName) prog_8_method_5_code (2 : Nat) (Option.some Jvm.ClassFile.FieldType.boolean))]
def cw4_3 : List Cond := [(Jvm.Cond.methodLink "TypeAtNight" (267 : Nat) ({ cls := "TypeAtNight$Past", name := "size", desc := "()I" } : Jvm.MethodName)), (Jvm.Cond.instanceMethod ({ cls := "TypeAtNight$Past", name := "size", desc := "()I" } : Jvm.MethodName)), (Jvm.Cond.selects "TypeAtNight$Past" ({ cls := "TypeAtNight$Past", name := "size", desc := "()I" } : Jvm.MethodName) ({ cls := "TypeAtNight$Past", name := "size", desc := "()I" } : Jvm.MethodName)), (Jvm.Cond.code ({ cls := "TypeAtNight$Past", name := "size", desc := "()I" } : Jvm.MethodName) prog_8_method_2_code (1 : Nat) (Option.some Jvm.ClassFile.FieldType.int)), (Jvm.Cond.methodLink "TypeAtNightLaw" (90 : Nat) ({ cls := "TypeAtNight", name := "tells", desc := "()I" } : Jvm.MethodName)), (Jvm.Cond.instanceMethod ({ cls := "TypeAtNight", name := "tells", desc := "()I" } : Jvm.MethodName)), (Jvm.Cond.selects "TypeAtNight" ({ cls := "TypeAtNight", name := "tells", desc := "()I" } : Jvm.MethodName) ({ cls := "TypeAtNight", name := "tells", desc := "()I" } : Jvm.MethodName)), (Jvm.Cond.code ({ cls := "TypeAtNight", name := "tells", desc := "()I" } : Jvm.MethodName) prog_1_method_16_code (3 : Nat) (Option.some Jvm.ClassFile.FieldType.int)), (Jvm.Cond.methodLink "TypeAtNightLaw" (94 : Nat) ({ cls := "TypeAtNight", name := "often", desc := "()I" } : Jvm.MethodName)), (Jvm.Cond.instanceMethod ({ cls := "TypeAtNight", name := "often", desc := "()I" } : Jvm.MethodName)), (Jvm.Cond.selects "TypeAtNight" ({ cls := "TypeAtNight", name := "often", desc := "()I" } : Jvm.MethodName) ({ cls := "TypeAtNight", name := "often", desc := "()I" } : Jvm.MethodName)), (Jvm.Cond.code ({ cls := "TypeAtNight", name := "often", desc := "()I" } : Jvm.MethodName) prog_1_method_17_code (5 : Nat) (Option.some Jvm.ClassFile.FieldType.int)), (Jvm.Cond.methodLink "TypeAtNight" (271 : Nat) ({ cls := "TypeAtNight$TypeCase", name := "freeOf", desc := "(I)I" } : Jvm.MethodName)), (Jvm.Cond.instanceMethod ({ cls := "TypeAtNight$TypeCase", name := "freeOf", desc := "(I)I" } : Jvm.MethodName)), (Jvm.Cond.selects "TypeAtNight$TypeCase" ({ cls := "TypeAtNight$TypeCase", name := "freeOf", desc := "(I)I" } : Jvm.MethodName) ({ cls := "TypeAtNight$TypeCase", name := "freeOf", desc := "(I)I" } : Jvm.MethodName)), (Jvm.Cond.code ({ cls := "TypeAtNight$TypeCase", name := "freeOf", desc := "(I)I" } : Jvm.MethodName) prog_11_method_8_code (2 : Nat) (Option.some Jvm.ClassFile.FieldType.int))]
def cw4_4 : List Cond := [(Jvm.Cond.methodLink "TypeAtNight$TypeCase" (58 : Nat) ({ cls := "java/lang/Integer", name := "bitCount", desc := "(I)I" } : Jvm.MethodName)), (Jvm.Cond.methodLink "TypeAtNightLaw" (98 : Nat) ({ cls := "TypeAtNight", name := "shortest", desc := "()I" } : Jvm.MethodName)), (Jvm.Cond.instanceMethod ({ cls := "TypeAtNight", name := "shortest", desc := "()I" } : Jvm.MethodName)), (Jvm.Cond.selects "TypeAtNight" ({ cls := "TypeAtNight", name := "shortest", desc := "()I" } : Jvm.MethodName) ({ cls := "TypeAtNight", name := "shortest", desc := "()I" } : Jvm.MethodName)), (Jvm.Cond.code ({ cls := "TypeAtNight", name := "shortest", desc := "()I" } : Jvm.MethodName) prog_1_method_18_code (3 : Nat) (Option.some Jvm.ClassFile.FieldType.int)), (Jvm.Cond.methodLink "TypeAtNight" (274 : Nat) ({ cls := "TypeAtNight$TypeCase", name := "ofLetter", desc := "(I)I" } : Jvm.MethodName)), (Jvm.Cond.methodLink "TypeAtNightLaw" (102 : Nat) ({ cls := "TypeAtNight", name := "bears", desc := "(I)I" } : Jvm.MethodName)), (Jvm.Cond.instanceMethod ({ cls := "TypeAtNight", name := "bears", desc := "(I)I" } : Jvm.MethodName)), (Jvm.Cond.selects "TypeAtNight" ({ cls := "TypeAtNight", name := "bears", desc := "(I)I" } : Jvm.MethodName) ({ cls := "TypeAtNight", name := "bears", desc := "(I)I" } : Jvm.MethodName)), (Jvm.Cond.code ({ cls := "TypeAtNight", name := "bears", desc := "(I)I" } : Jvm.MethodName) prog_1_method_19_code (6 : Nat) (Option.some Jvm.ClassFile.FieldType.int)), (Jvm.Cond.methodLink "TypeAtNight" (277 : Nat) ({ cls := "TypeAtNight$Letters", name := "gather", desc := "(LTypeAtNight$TypeCase;)I" } : Jvm.MethodName)), (Jvm.Cond.instanceMethod ({ cls := "TypeAtNight$Letters", name := "gather", desc := "(LTypeAtNight$TypeCase;)I" } : Jvm.MethodName)), (Jvm.Cond.selects "TypeAtNight$Letters" ({ cls := "TypeAtNight$Letters", name := "gather", desc := "(LTypeAtNight$TypeCase;)I" } : Jvm.MethodName) ({ cls := "TypeAtNight$Letters", name := "gather", desc := "(LTypeAtNight$TypeCase;)I" } : Jvm.MethodName)), (Jvm.Cond.code ({ cls := "TypeAtNight$Letters", name := "gather", desc := "(LTypeAtNight$TypeCase;)I" } : Jvm.MethodName) prog_5_method_3_code (3 : Nat) (Option.some Jvm.ClassFile.FieldType.int)), (Jvm.Cond.methodLink "TypeAtNight$Letters" (44 : Nat) ({ cls := "TypeAtNight$TypeCase", name := "ofLetter", desc := "(I)I" } : Jvm.MethodName)), (Jvm.Cond.methodLink "TypeAtNight$Letters" (49 : Nat) ({ cls := "TypeAtNight$TypeCase", name := "free", desc := "()I" } : Jvm.MethodName))]
def cw4_5 : List Cond := [(Jvm.Cond.instanceMethod ({ cls := "TypeAtNight$TypeCase", name := "free", desc := "()I" } : Jvm.MethodName)), (Jvm.Cond.selects "TypeAtNight$TypeCase" ({ cls := "TypeAtNight$TypeCase", name := "free", desc := "()I" } : Jvm.MethodName) ({ cls := "TypeAtNight$TypeCase", name := "free", desc := "()I" } : Jvm.MethodName)), (Jvm.Cond.code ({ cls := "TypeAtNight$TypeCase", name := "free", desc := "()I" } : Jvm.MethodName) prog_11_method_6_code (1 : Nat) (Option.some Jvm.ClassFile.FieldType.int)), (Jvm.Cond.methodLink "TypeAtNight" (281 : Nat) ({ cls := "TypeAtNight$Numbers", name := "clear", desc := "()V" } : Jvm.MethodName)), (Jvm.Cond.methodLink "TypeAtNight" (282 : Nat) ({ cls := "TypeAtNight$Letters", name := "suits", desc := "(I)Z" } : Jvm.MethodName)), (Jvm.Cond.instanceMethod ({ cls := "TypeAtNight$Letters", name := "suits", desc := "(I)Z" } : Jvm.MethodName)), (Jvm.Cond.selects "TypeAtNight$Letters" ({ cls := "TypeAtNight$Letters", name := "suits", desc := "(I)Z" } : Jvm.MethodName) ({ cls := "TypeAtNight$Letters", name := "suits", desc := "(I)Z" } : Jvm.MethodName)), (Jvm.Cond.code ({ cls := "TypeAtNight$Letters", name := "suits", desc := "(I)Z" } : Jvm.MethodName) prog_5_method_4_code (3 : Nat) (Option.some Jvm.ClassFile.FieldType.boolean)), (Jvm.Cond.methodLink "TypeAtNight$Letters" (53 : Nat) ({ cls := "java/lang/Integer", name := "bitCount", desc := "(I)I" } : Jvm.MethodName)), (Jvm.Cond.methodLink "TypeAtNightLaw" (106 : Nat) ({ cls := "TypeAtNight", name := "spans", desc := "()I" } : Jvm.MethodName)), (Jvm.Cond.instanceMethod ({ cls := "TypeAtNight", name := "spans", desc := "()I" } : Jvm.MethodName)), (Jvm.Cond.selects "TypeAtNight" ({ cls := "TypeAtNight", name := "spans", desc := "()I" } : Jvm.MethodName) ({ cls := "TypeAtNight", name := "spans", desc := "()I" } : Jvm.MethodName)), (Jvm.Cond.code ({ cls := "TypeAtNight", name := "spans", desc := "()I" } : Jvm.MethodName) prog_1_method_20_code (7 : Nat) (Option.some Jvm.ClassFile.FieldType.int)), (Jvm.Cond.methodLink "TypeAtNight" (285 : Nat) ({ cls := "TypeAtNight$Numbers", name := "tell", desc := "(JJJ)V" } : Jvm.MethodName)), (Jvm.Cond.instanceMethod ({ cls := "TypeAtNight$Numbers", name := "tell", desc := "(JJJ)V" } : Jvm.MethodName)), (Jvm.Cond.selects "TypeAtNight$Numbers" ({ cls := "TypeAtNight$Numbers", name := "tell", desc := "(JJJ)V" } : Jvm.MethodName) ({ cls := "TypeAtNight$Numbers", name := "tell", desc := "(JJJ)V" } : Jvm.MethodName))]
def cw4_6 : List Cond := [(Jvm.Cond.code ({ cls := "TypeAtNight$Numbers", name := "tell", desc := "(JJJ)V" } : Jvm.MethodName) prog_7_method_6_code (7 : Nat) (Option.none : Option Jvm.ClassFile.FieldType)), (Jvm.Cond.methodLink "TypeAtNight$Numbers" (29 : Nat) ({ cls := "TypeAtNight$Numbers", name := "tell", desc := "(JJ)V" } : Jvm.MethodName)), (Jvm.Cond.methodLink "TypeAtNightLaw" (110 : Nat) ({ cls := "TypeAtNight", name := "packs", desc := "()I" } : Jvm.MethodName)), (Jvm.Cond.instanceMethod ({ cls := "TypeAtNight", name := "packs", desc := "()I" } : Jvm.MethodName)), (Jvm.Cond.selects "TypeAtNight" ({ cls := "TypeAtNight", name := "packs", desc := "()I" } : Jvm.MethodName) ({ cls := "TypeAtNight", name := "packs", desc := "()I" } : Jvm.MethodName)), (Jvm.Cond.code ({ cls := "TypeAtNight", name := "packs", desc := "()I" } : Jvm.MethodName) prog_1_method_21_code (3 : Nat) (Option.some Jvm.ClassFile.FieldType.int)), (Jvm.Cond.methodLink "TypeAtNight" (288 : Nat) ({ cls := "TypeAtNight$Words", name := "read", desc := "(LTypeAtNight$Text;)I" } : Jvm.MethodName)), (Jvm.Cond.instanceMethod ({ cls := "TypeAtNight$Words", name := "read", desc := "(LTypeAtNight$Text;)I" } : Jvm.MethodName)), (Jvm.Cond.selects "TypeAtNight$Words" ({ cls := "TypeAtNight$Words", name := "read", desc := "(LTypeAtNight$Text;)I" } : Jvm.MethodName) ({ cls := "TypeAtNight$Words", name := "read", desc := "(LTypeAtNight$Text;)I" } : Jvm.MethodName)), (Jvm.Cond.code ({ cls := "TypeAtNight$Words", name := "read", desc := "(LTypeAtNight$Text;)I" } : Jvm.MethodName) prog_12_method_2_code (5 : Nat) (Option.some Jvm.ClassFile.FieldType.int)), (Jvm.Cond.methodLink "TypeAtNight$Words" (22 : Nat) ({ cls := "java/util/Arrays", name := "fill", desc := "([II)V" } : Jvm.MethodName)), (Jvm.Cond.methodLink "TypeAtNight$Words" (28 : Nat) ({ cls := "TypeAtNight$Text", name := "size", desc := "()I" } : Jvm.MethodName)), (Jvm.Cond.methodLink "TypeAtNight$Words" (33 : Nat) ({ cls := "java/lang/Math", name := "min", desc := "(II)I" } : Jvm.MethodName)), (Jvm.Cond.methodLink "TypeAtNight$Words" (39 : Nat) ({ cls := "TypeAtNight$Text", name := "at", desc := "(I)I" } : Jvm.MethodName)), (Jvm.Cond.methodLink "TypeAtNight$Words" (43 : Nat) ({ cls := "TypeAtNight$Text", name := "stands", desc := "(CI)Z" } : Jvm.MethodName)), (Jvm.Cond.methodLink "TypeAtNight$Words" (47 : Nat) ({ cls := "TypeAtNight$Text", name := "letterAt", desc := "(I)I" } : Jvm.MethodName))]
def cw4_7 : List Cond := [(Jvm.Cond.methodLink "TypeAtNight" (289 : Nat) ({ cls := "TypeAtNight$Words", name := "mostAtOnce", desc := "(LTypeAtNight$TypeCase;)I" } : Jvm.MethodName)), (Jvm.Cond.instanceMethod ({ cls := "TypeAtNight$Words", name := "mostAtOnce", desc := "(LTypeAtNight$TypeCase;)I" } : Jvm.MethodName)), (Jvm.Cond.selects "TypeAtNight$Words" ({ cls := "TypeAtNight$Words", name := "mostAtOnce", desc := "(LTypeAtNight$TypeCase;)I" } : Jvm.MethodName) ({ cls := "TypeAtNight$Words", name := "mostAtOnce", desc := "(LTypeAtNight$TypeCase;)I" } : Jvm.MethodName)), (Jvm.Cond.code ({ cls := "TypeAtNight$Words", name := "mostAtOnce", desc := "(LTypeAtNight$TypeCase;)I" } : Jvm.MethodName) prog_12_method_3_code (4 : Nat) (Option.some Jvm.ClassFile.FieldType.int)), (Jvm.Cond.methodLink "TypeAtNight$Words" (50 : Nat) ({ cls := "TypeAtNight$TypeCase", name := "freeOf", desc := "(I)I" } : Jvm.MethodName)), (Jvm.Cond.methodLink "TypeAtNight$Words" (55 : Nat) ({ cls := "java/lang/Integer", name := "bitCount", desc := "(I)I" } : Jvm.MethodName)), (Jvm.Cond.methodLink "TypeAtNight$Words" (60 : Nat) ({ cls := "TypeAtNight$Words", name := "canBeSet", desc := "(I)Z" } : Jvm.MethodName)), (Jvm.Cond.privateMethod ({ cls := "TypeAtNight$Words", name := "canBeSet", desc := "(I)Z" } : Jvm.MethodName)), (Jvm.Cond.instanceMethod ({ cls := "TypeAtNight$Words", name := "canBeSet", desc := "(I)Z" } : Jvm.MethodName)), (Jvm.Cond.code ({ cls := "TypeAtNight$Words", name := "canBeSet", desc := "(I)Z" } : Jvm.MethodName) prog_12_method_4_code (5 : Nat) (Option.some Jvm.ClassFile.FieldType.boolean)), (Jvm.Cond.methodLink "TypeAtNightLaw" (114 : Nat) ({ cls := "TypeAtNight", name := "later", desc := "(II)I" } : Jvm.MethodName)), (Jvm.Cond.instanceMethod ({ cls := "TypeAtNight", name := "later", desc := "(II)I" } : Jvm.MethodName)), (Jvm.Cond.selects "TypeAtNight" ({ cls := "TypeAtNight", name := "later", desc := "(II)I" } : Jvm.MethodName) ({ cls := "TypeAtNight", name := "later", desc := "(II)I" } : Jvm.MethodName)), (Jvm.Cond.code ({ cls := "TypeAtNight", name := "later", desc := "(II)I" } : Jvm.MethodName) prog_1_method_22_code (3 : Nat) (Option.some Jvm.ClassFile.FieldType.int)), (Jvm.Cond.methodLink "TypeAtNight" (124 : Nat) ({ cls := "TypeAtNight$TypeCase", name := "has", desc := "(I)Z" } : Jvm.MethodName)), (Jvm.Cond.methodLink "TypeAtNightLaw" (118 : Nat) ({ cls := "TypeAtNight", name := "settles", desc := "()I" } : Jvm.MethodName))]
def cw4_8 : List Cond := [(Jvm.Cond.instanceMethod ({ cls := "TypeAtNight", name := "settles", desc := "()I" } : Jvm.MethodName)), (Jvm.Cond.selects "TypeAtNight" ({ cls := "TypeAtNight", name := "settles", desc := "()I" } : Jvm.MethodName) ({ cls := "TypeAtNight", name := "settles", desc := "()I" } : Jvm.MethodName)), (Jvm.Cond.code ({ cls := "TypeAtNight", name := "settles", desc := "()I" } : Jvm.MethodName) prog_1_method_23_code (3 : Nat) (Option.some Jvm.ClassFile.FieldType.int)), (Jvm.Cond.methodLink "TypeAtNight" (292 : Nat) ({ cls := "TypeAtNight$TypeCase", name := "passNight", desc := "(LTypeAtNight$Rule;I)Z" } : Jvm.MethodName)), (Jvm.Cond.methodLink "TypeAtNightLaw" (122 : Nat) ({ cls := "TypeAtNight", name := "round", desc := "()I" } : Jvm.MethodName)), (Jvm.Cond.instanceMethod ({ cls := "TypeAtNight", name := "round", desc := "()I" } : Jvm.MethodName)), (Jvm.Cond.selects "TypeAtNight" ({ cls := "TypeAtNight", name := "round", desc := "()I" } : Jvm.MethodName) ({ cls := "TypeAtNight", name := "round", desc := "()I" } : Jvm.MethodName)), (Jvm.Cond.code ({ cls := "TypeAtNight", name := "round", desc := "()I" } : Jvm.MethodName) prog_1_method_24_code (4 : Nat) (Option.some Jvm.ClassFile.FieldType.int)), (Jvm.Cond.methodLink "TypeAtNight" (296 : Nat) ({ cls := "TypeAtNight$TypeCase", name := "packedMoods", desc := "()J" } : Jvm.MethodName)), (Jvm.Cond.instanceMethod ({ cls := "TypeAtNight$TypeCase", name := "packedMoods", desc := "()J" } : Jvm.MethodName)), (Jvm.Cond.selects "TypeAtNight$TypeCase" ({ cls := "TypeAtNight$TypeCase", name := "packedMoods", desc := "()J" } : Jvm.MethodName) ({ cls := "TypeAtNight$TypeCase", name := "packedMoods", desc := "()J" } : Jvm.MethodName)), (Jvm.Cond.code ({ cls := "TypeAtNight$TypeCase", name := "packedMoods", desc := "()J" } : Jvm.MethodName) prog_11_method_18_code (4 : Nat) (Option.some Jvm.ClassFile.FieldType.long)), (Jvm.Cond.methodLink "TypeAtNightLaw" (126 : Nat) ({ cls := "TypeAtNight", name := "gravest", desc := "(I)I" } : Jvm.MethodName)), (Jvm.Cond.instanceMethod ({ cls := "TypeAtNight", name := "gravest", desc := "(I)I" } : Jvm.MethodName)), (Jvm.Cond.selects "TypeAtNight" ({ cls := "TypeAtNight", name := "gravest", desc := "(I)I" } : Jvm.MethodName) ({ cls := "TypeAtNight", name := "gravest", desc := "(I)I" } : Jvm.MethodName)), (Jvm.Cond.code ({ cls := "TypeAtNight", name := "gravest", desc := "(I)I" } : Jvm.MethodName) prog_1_method_25_code (4 : Nat) (Option.some Jvm.ClassFile.FieldType.int))]
def cw4_9 : List Cond := [(Jvm.Cond.methodLink "TypeAtNight" (300 : Nat) ({ cls := "java/lang/Math", name := "abs", desc := "(I)I" } : Jvm.MethodName)), (Jvm.Cond.static ({ cls := "java/lang/Math", name := "abs", desc := "(I)I" } : Jvm.MethodName)), (Jvm.Cond.code ({ cls := "java/lang/Math", name := "abs", desc := "(I)I" } : Jvm.MethodName) prog_22_method_59_code (1 : Nat) (Option.some Jvm.ClassFile.FieldType.int)), (Jvm.Cond.methodLink "TypeAtNightLaw" (130 : Nat) ({ cls := "TypeAtNight", name := "blows", desc := "(II)I" } : Jvm.MethodName)), (Jvm.Cond.instanceMethod ({ cls := "TypeAtNight", name := "blows", desc := "(II)I" } : Jvm.MethodName)), (Jvm.Cond.selects "TypeAtNight" ({ cls := "TypeAtNight", name := "blows", desc := "(II)I" } : Jvm.MethodName) ({ cls := "TypeAtNight", name := "blows", desc := "(II)I" } : Jvm.MethodName)), (Jvm.Cond.code ({ cls := "TypeAtNight", name := "blows", desc := "(II)I" } : Jvm.MethodName) prog_1_method_26_code (6 : Nat) (Option.some Jvm.ClassFile.FieldType.int)), (Jvm.Cond.methodLink "TypeAtNight" (303 : Nat) ({ cls := "TypeAtNight$TypeCase", name := "distribute", desc := "()V" } : Jvm.MethodName)), (Jvm.Cond.methodLink "TypeAtNight" (162 : Nat) ({ cls := "TypeAtNight$TypeCase", name := "inBox", desc := "(I)I" } : Jvm.MethodName)), (Jvm.Cond.instanceMethod ({ cls := "TypeAtNight$TypeCase", name := "inBox", desc := "(I)I" } : Jvm.MethodName)), (Jvm.Cond.selects "TypeAtNight$TypeCase" ({ cls := "TypeAtNight$TypeCase", name := "inBox", desc := "(I)I" } : Jvm.MethodName) ({ cls := "TypeAtNight$TypeCase", name := "inBox", desc := "(I)I" } : Jvm.MethodName)), (Jvm.Cond.code ({ cls := "TypeAtNight$TypeCase", name := "inBox", desc := "(I)I" } : Jvm.MethodName) prog_11_method_9_code (2 : Nat) (Option.some Jvm.ClassFile.FieldType.int)), (Jvm.Cond.methodLink "TypeAtNight" (306 : Nat) ({ cls := "TypeAtNight", name := "fewestToClean", desc := "(III)I" } : Jvm.MethodName)), (Jvm.Cond.privateMethod ({ cls := "TypeAtNight", name := "fewestToClean", desc := "(III)I" } : Jvm.MethodName)), (Jvm.Cond.instanceMethod ({ cls := "TypeAtNight", name := "fewestToClean", desc := "(III)I" } : Jvm.MethodName)), (Jvm.Cond.code ({ cls := "TypeAtNight", name := "fewestToClean", desc := "(III)I" } : Jvm.MethodName) prog_1_method_61_code (7 : Nat) (Option.some Jvm.ClassFile.FieldType.int))]
def cw4_10 : List Cond := [(Jvm.Cond.methodLink "TypeAtNight" (465 : Nat) ({ cls := "TypeAtNight", name := "calms", desc := "(IIII)Z" } : Jvm.MethodName)), (Jvm.Cond.privateMethod ({ cls := "TypeAtNight", name := "calms", desc := "(IIII)Z" } : Jvm.MethodName)), (Jvm.Cond.instanceMethod ({ cls := "TypeAtNight", name := "calms", desc := "(IIII)Z" } : Jvm.MethodName)), (Jvm.Cond.code ({ cls := "TypeAtNight", name := "calms", desc := "(IIII)Z" } : Jvm.MethodName) prog_1_method_62_code (6 : Nat) (Option.some Jvm.ClassFile.FieldType.boolean)), (Jvm.Cond.methodLink "TypeAtNightLaw" (134 : Nat) ({ cls := "TypeAtNight", name := "parts", desc := "()I" } : Jvm.MethodName)), (Jvm.Cond.instanceMethod ({ cls := "TypeAtNight", name := "parts", desc := "()I" } : Jvm.MethodName)), (Jvm.Cond.selects "TypeAtNight" ({ cls := "TypeAtNight", name := "parts", desc := "()I" } : Jvm.MethodName) ({ cls := "TypeAtNight", name := "parts", desc := "()I" } : Jvm.MethodName)), (Jvm.Cond.code ({ cls := "TypeAtNight", name := "parts", desc := "()I" } : Jvm.MethodName) prog_1_method_27_code (4 : Nat) (Option.some Jvm.ClassFile.FieldType.int)), (Jvm.Cond.methodLink "TypeAtNight" (310 : Nat) ({ cls := "TypeAtNight$Boxing", name := "read", desc := "(LTypeAtNight$Text;)I" } : Jvm.MethodName)), (Jvm.Cond.instanceMethod ({ cls := "TypeAtNight$Boxing", name := "read", desc := "(LTypeAtNight$Text;)I" } : Jvm.MethodName)), (Jvm.Cond.selects "TypeAtNight$Boxing" ({ cls := "TypeAtNight$Boxing", name := "read", desc := "(LTypeAtNight$Text;)I" } : Jvm.MethodName) ({ cls := "TypeAtNight$Boxing", name := "read", desc := "(LTypeAtNight$Text;)I" } : Jvm.MethodName)), (Jvm.Cond.code ({ cls := "TypeAtNight$Boxing", name := "read", desc := "(LTypeAtNight$Text;)I" } : Jvm.MethodName) prog_2_method_2_code (5 : Nat) (Option.some Jvm.ClassFile.FieldType.int)), (Jvm.Cond.methodLink "TypeAtNight$Boxing" (18 : Nat) ({ cls := "java/util/Arrays", name := "fill", desc := "([II)V" } : Jvm.MethodName)), (Jvm.Cond.methodLink "TypeAtNight$Boxing" (24 : Nat) ({ cls := "TypeAtNight$Text", name := "size", desc := "()I" } : Jvm.MethodName)), (Jvm.Cond.methodLink "TypeAtNight$Boxing" (30 : Nat) ({ cls := "java/lang/Math", name := "min", desc := "(II)I" } : Jvm.MethodName)), (Jvm.Cond.stringRef "TypeAtNight$Boxing" (36 : Nat) "ll")]
def cw4_11 : List Cond := [(Jvm.Cond.methodLink "TypeAtNight$Boxing" (38 : Nat) ({ cls := "TypeAtNight$Text", name := "misfit", desc := "(Ljava/lang/String;II)I" } : Jvm.MethodName)), (Jvm.Cond.methodLink "TypeAtNight$Boxing" (42 : Nat) ({ cls := "TypeAtNight$Text", name := "at", desc := "(I)I" } : Jvm.MethodName)), (Jvm.Cond.methodLink "TypeAtNight$Boxing" (46 : Nat) ({ cls := "TypeAtNight$Text", name := "letterAt", desc := "(I)I" } : Jvm.MethodName)), (Jvm.Cond.methodLink "TypeAtNight$Boxing" (49 : Nat) ({ cls := "TypeAtNight$Boxing", name := "putApart", desc := "(II)V" } : Jvm.MethodName)), (Jvm.Cond.privateMethod ({ cls := "TypeAtNight$Boxing", name := "putApart", desc := "(II)V" } : Jvm.MethodName)), (Jvm.Cond.instanceMethod ({ cls := "TypeAtNight$Boxing", name := "putApart", desc := "(II)V" } : Jvm.MethodName)), (Jvm.Cond.code ({ cls := "TypeAtNight$Boxing", name := "putApart", desc := "(II)V" } : Jvm.MethodName) prog_2_method_3_code (3 : Nat) (Option.none : Option Jvm.ClassFile.FieldType)), (Jvm.Cond.methodLink "TypeAtNight" (311 : Nat) ({ cls := "TypeAtNight$Boxing", name := "fewest", desc := "()I" } : Jvm.MethodName)), (Jvm.Cond.instanceMethod ({ cls := "TypeAtNight$Boxing", name := "fewest", desc := "()I" } : Jvm.MethodName)), (Jvm.Cond.selects "TypeAtNight$Boxing" ({ cls := "TypeAtNight$Boxing", name := "fewest", desc := "()I" } : Jvm.MethodName) ({ cls := "TypeAtNight$Boxing", name := "fewest", desc := "()I" } : Jvm.MethodName)), (Jvm.Cond.code ({ cls := "TypeAtNight$Boxing", name := "fewest", desc := "()I" } : Jvm.MethodName) prog_2_method_4_code (2 : Nat) (Option.some Jvm.ClassFile.FieldType.int)), (Jvm.Cond.methodLink "TypeAtNight$Boxing" (53 : Nat) ({ cls := "TypeAtNight$Boxing", name := "placeFrom", desc := "(III)Z" } : Jvm.MethodName)), (Jvm.Cond.privateMethod ({ cls := "TypeAtNight$Boxing", name := "placeFrom", desc := "(III)Z" } : Jvm.MethodName)), (Jvm.Cond.instanceMethod ({ cls := "TypeAtNight$Boxing", name := "placeFrom", desc := "(III)Z" } : Jvm.MethodName)), (Jvm.Cond.code ({ cls := "TypeAtNight$Boxing", name := "placeFrom", desc := "(III)Z" } : Jvm.MethodName) prog_2_method_5_code (5 : Nat) (Option.some Jvm.ClassFile.FieldType.boolean)), (Jvm.Cond.methodLink "TypeAtNight$Boxing" (57 : Nat) ({ cls := "TypeAtNight$Boxing", name := "mayStand", desc := "(II)Z" } : Jvm.MethodName))]
def cw4_12 : List Cond := [(Jvm.Cond.privateMethod ({ cls := "TypeAtNight$Boxing", name := "mayStand", desc := "(II)Z" } : Jvm.MethodName)), (Jvm.Cond.instanceMethod ({ cls := "TypeAtNight$Boxing", name := "mayStand", desc := "(II)Z" } : Jvm.MethodName)), (Jvm.Cond.code ({ cls := "TypeAtNight$Boxing", name := "mayStand", desc := "(II)Z" } : Jvm.MethodName) prog_2_method_6_code (4 : Nat) (Option.some Jvm.ClassFile.FieldType.boolean)), (Jvm.Cond.methodLink "TypeAtNight$Boxing" (61 : Nat) ({ cls := "java/lang/Math", name := "max", desc := "(II)I" } : Jvm.MethodName)), (Jvm.Cond.methodLink "TypeAtNight" (317 : Nat) ({ cls := "TypeAtNight$Numbers", name := "add", desc := "(J)V" } : Jvm.MethodName)), (Jvm.Cond.methodLink "TypeAtNightLaw" (138 : Nat) ({ cls := "TypeAtNight", name := "mixed", desc := "()I" } : Jvm.MethodName)), (Jvm.Cond.instanceMethod ({ cls := "TypeAtNight", name := "mixed", desc := "()I" } : Jvm.MethodName)), (Jvm.Cond.selects "TypeAtNight" ({ cls := "TypeAtNight", name := "mixed", desc := "()I" } : Jvm.MethodName) ({ cls := "TypeAtNight", name := "mixed", desc := "()I" } : Jvm.MethodName)), (Jvm.Cond.code ({ cls := "TypeAtNight", name := "mixed", desc := "()I" } : Jvm.MethodName) prog_1_method_28_code (3 : Nat) (Option.some Jvm.ClassFile.FieldType.int)), (Jvm.Cond.methodLink "TypeAtNight" (320 : Nat) ({ cls := "TypeAtNight$TypeCase", name := "hasTwoLetters", desc := "(I)Z" } : Jvm.MethodName)), (Jvm.Cond.instanceMethod ({ cls := "TypeAtNight$TypeCase", name := "hasTwoLetters", desc := "(I)Z" } : Jvm.MethodName)), (Jvm.Cond.selects "TypeAtNight$TypeCase" ({ cls := "TypeAtNight$TypeCase", name := "hasTwoLetters", desc := "(I)Z" } : Jvm.MethodName) ({ cls := "TypeAtNight$TypeCase", name := "hasTwoLetters", desc := "(I)Z" } : Jvm.MethodName)), (Jvm.Cond.code ({ cls := "TypeAtNight$TypeCase", name := "hasTwoLetters", desc := "(I)Z" } : Jvm.MethodName) prog_11_method_16_code (2 : Nat) (Option.some Jvm.ClassFile.FieldType.boolean)), (Jvm.Cond.methodLink "TypeAtNight$TypeCase" (71 : Nat) ({ cls := "TypeAtNight$TypeCase", name := "inBox", desc := "(I)I" } : Jvm.MethodName)), (Jvm.Cond.methodLink "TypeAtNight$TypeCase" (74 : Nat) ({ cls := "TypeAtNight$TypeCase", name := "lettersOf", desc := "(I)I" } : Jvm.MethodName)), (Jvm.Cond.instanceMethod ({ cls := "TypeAtNight$TypeCase", name := "lettersOf", desc := "(I)I" } : Jvm.MethodName))]
def cw4_13 : List Cond := [(Jvm.Cond.selects "TypeAtNight$TypeCase" ({ cls := "TypeAtNight$TypeCase", name := "lettersOf", desc := "(I)I" } : Jvm.MethodName) ({ cls := "TypeAtNight$TypeCase", name := "lettersOf", desc := "(I)I" } : Jvm.MethodName)), (Jvm.Cond.code ({ cls := "TypeAtNight$TypeCase", name := "lettersOf", desc := "(I)I" } : Jvm.MethodName) prog_11_method_17_code (4 : Nat) (Option.some Jvm.ClassFile.FieldType.int)), (Jvm.Cond.methodLink "TypeAtNightLaw" (142 : Nat) ({ cls := "TypeAtNight", name := "rubs", desc := "()I" } : Jvm.MethodName)), (Jvm.Cond.instanceMethod ({ cls := "TypeAtNight", name := "rubs", desc := "()I" } : Jvm.MethodName)), (Jvm.Cond.selects "TypeAtNight" ({ cls := "TypeAtNight", name := "rubs", desc := "()I" } : Jvm.MethodName) ({ cls := "TypeAtNight", name := "rubs", desc := "()I" } : Jvm.MethodName)), (Jvm.Cond.code ({ cls := "TypeAtNight", name := "rubs", desc := "()I" } : Jvm.MethodName) prog_1_method_29_code (5 : Nat) (Option.some Jvm.ClassFile.FieldType.int)), (Jvm.Cond.methodLink "TypeAtNightLaw" (146 : Nat) ({ cls := "TypeAtNight", name := "chord", desc := "(I)I" } : Jvm.MethodName)), (Jvm.Cond.instanceMethod ({ cls := "TypeAtNight", name := "chord", desc := "(I)I" } : Jvm.MethodName)), (Jvm.Cond.selects "TypeAtNight" ({ cls := "TypeAtNight", name := "chord", desc := "(I)I" } : Jvm.MethodName) ({ cls := "TypeAtNight", name := "chord", desc := "(I)I" } : Jvm.MethodName)), (Jvm.Cond.code ({ cls := "TypeAtNight", name := "chord", desc := "(I)I" } : Jvm.MethodName) prog_1_method_30_code (7 : Nat) (Option.some Jvm.ClassFile.FieldType.int)), (Jvm.Cond.methodLink "TypeAtNight" (323 : Nat) ({ cls := "TypeAtNight$TypeCase", name := "free", desc := "()I" } : Jvm.MethodName)), (Jvm.Cond.methodLink "TypeAtNight" (326 : Nat) ({ cls := "TypeAtNight$TypeCase", name := "lettersOf", desc := "(I)I" } : Jvm.MethodName)), (Jvm.Cond.methodLink "TypeAtNightLaw" (150 : Nat) ({ cls := "TypeAtNight", name := "heard", desc := "(II)I" } : Jvm.MethodName)), (Jvm.Cond.instanceMethod ({ cls := "TypeAtNight", name := "heard", desc := "(II)I" } : Jvm.MethodName)), (Jvm.Cond.selects "TypeAtNight" ({ cls := "TypeAtNight", name := "heard", desc := "(II)I" } : Jvm.MethodName) ({ cls := "TypeAtNight", name := "heard", desc := "(II)I" } : Jvm.MethodName)), (Jvm.Cond.code ({ cls := "TypeAtNight", name := "heard", desc := "(II)I" } : Jvm.MethodName) prog_1_method_31_code (3 : Nat) (Option.some Jvm.ClassFile.FieldType.int))]
def cw4_14 : List Cond := [(Jvm.Cond.methodLink "TypeAtNight" (329 : Nat) ({ cls := "TypeAtNight$Hearsay", name := "hear", desc := "(II)I" } : Jvm.MethodName)), (Jvm.Cond.instanceMethod ({ cls := "TypeAtNight$Hearsay", name := "hear", desc := "(II)I" } : Jvm.MethodName)), (Jvm.Cond.selects "TypeAtNight$Hearsay" ({ cls := "TypeAtNight$Hearsay", name := "hear", desc := "(II)I" } : Jvm.MethodName) ({ cls := "TypeAtNight$Hearsay", name := "hear", desc := "(II)I" } : Jvm.MethodName)), (Jvm.Cond.code ({ cls := "TypeAtNight$Hearsay", name := "hear", desc := "(II)I" } : Jvm.MethodName) prog_4_method_3_code (3 : Nat) (Option.some Jvm.ClassFile.FieldType.int)), (Jvm.Cond.methodLink "TypeAtNight$Hearsay" (19 : Nat) ({ cls := "TypeAtNight$Hearsay", name := "mostOf", desc := "(I)I" } : Jvm.MethodName)), (Jvm.Cond.static ({ cls := "TypeAtNight$Hearsay", name := "mostOf", desc := "(I)I" } : Jvm.MethodName)), (Jvm.Cond.code ({ cls := "TypeAtNight$Hearsay", name := "mostOf", desc := "(I)I" } : Jvm.MethodName) prog_4_method_5_code (1 : Nat) (Option.some Jvm.ClassFile.FieldType.int)), (Jvm.Cond.methodLink "TypeAtNightLaw" (154 : Nat) ({ cls := "TypeAtNight", name := "forget", desc := "()I" } : Jvm.MethodName)), (Jvm.Cond.instanceMethod ({ cls := "TypeAtNight", name := "forget", desc := "()I" } : Jvm.MethodName)), (Jvm.Cond.selects "TypeAtNight" ({ cls := "TypeAtNight", name := "forget", desc := "()I" } : Jvm.MethodName) ({ cls := "TypeAtNight", name := "forget", desc := "()I" } : Jvm.MethodName)), (Jvm.Cond.code ({ cls := "TypeAtNight", name := "forget", desc := "()I" } : Jvm.MethodName) prog_1_method_32_code (1 : Nat) (Option.some Jvm.ClassFile.FieldType.int)), (Jvm.Cond.methodLink "TypeAtNight" (332 : Nat) ({ cls := "TypeAtNight$Hearsay", name := "clear", desc := "()I" } : Jvm.MethodName)), (Jvm.Cond.instanceMethod ({ cls := "TypeAtNight$Hearsay", name := "clear", desc := "()I" } : Jvm.MethodName)), (Jvm.Cond.selects "TypeAtNight$Hearsay" ({ cls := "TypeAtNight$Hearsay", name := "clear", desc := "()I" } : Jvm.MethodName) ({ cls := "TypeAtNight$Hearsay", name := "clear", desc := "()I" } : Jvm.MethodName)), (Jvm.Cond.code ({ cls := "TypeAtNight$Hearsay", name := "clear", desc := "()I" } : Jvm.MethodName) prog_4_method_4_code (2 : Nat) (Option.some Jvm.ClassFile.FieldType.int)), (Jvm.Cond.methodLink "TypeAtNightLaw" (158 : Nat) ({ cls := "TypeAtNight", name := "fits", desc := "()I" } : Jvm.MethodName))]
set_option maxRecDepth 100000 in
theorem ce_4 : tables_1_4 = cw4_0 ++ (cw4_1 ++ (cw4_2 ++ (cw4_3 ++ (cw4_4 ++ (cw4_5 ++ (cw4_6 ++ (cw4_7 ++ (cw4_8 ++ (cw4_9 ++ (cw4_10 ++ (cw4_11 ++ (cw4_12 ++ (cw4_13 ++ (cw4_14)))))))))))))) := rfl
theorem ct_4 {w : Cond} (h : w ∈ tables_1_4) : w ∈ lw_tbl := by
  refine List.mem_append_right _ ?_
  unfold tables_1
  simp only [List.mem_append]
  exact Or.inr (Or.inr (Or.inr (Or.inl h)))
theorem gm_w4_0 {w : Cond} (h : w ∈ cw4_0) (hg : goodWord w = true) : w ∈ g_tbl := g_mw (ct_4 (by rw [ce_4]; exact List.mem_append_left _ h)) hg
theorem gm_w4_1 {w : Cond} (h : w ∈ cw4_1) (hg : goodWord w = true) : w ∈ g_tbl := g_mw (ct_4 (by rw [ce_4]; exact List.mem_append_right _ (List.mem_append_left _ h))) hg
theorem gm_w4_2 {w : Cond} (h : w ∈ cw4_2) (hg : goodWord w = true) : w ∈ g_tbl := g_mw (ct_4 (by rw [ce_4]; exact List.mem_append_right _ (List.mem_append_right _ (List.mem_append_left _ h)))) hg
theorem gm_w4_3 {w : Cond} (h : w ∈ cw4_3) (hg : goodWord w = true) : w ∈ g_tbl := g_mw (ct_4 (by rw [ce_4]; exact List.mem_append_right _ (List.mem_append_right _ (List.mem_append_right _ (List.mem_append_left _ h))))) hg
theorem gm_w4_4 {w : Cond} (h : w ∈ cw4_4) (hg : goodWord w = true) : w ∈ g_tbl := g_mw (ct_4 (by rw [ce_4]; exact List.mem_append_right _ (List.mem_append_right _ (List.mem_append_right _ (List.mem_append_right _ (List.mem_append_left _ h)))))) hg
theorem gm_w4_5 {w : Cond} (h : w ∈ cw4_5) (hg : goodWord w = true) : w ∈ g_tbl := g_mw (ct_4 (by rw [ce_4]; exact List.mem_append_right _ (List.mem_append_right _ (List.mem_append_right _ (List.mem_append_right _ (List.mem_append_right _ (List.mem_append_left _ h))))))) hg
theorem gm_w4_6 {w : Cond} (h : w ∈ cw4_6) (hg : goodWord w = true) : w ∈ g_tbl := g_mw (ct_4 (by rw [ce_4]; exact List.mem_append_right _ (List.mem_append_right _ (List.mem_append_right _ (List.mem_append_right _ (List.mem_append_right _ (List.mem_append_right _ (List.mem_append_left _ h)))))))) hg
theorem gm_w4_7 {w : Cond} (h : w ∈ cw4_7) (hg : goodWord w = true) : w ∈ g_tbl := g_mw (ct_4 (by rw [ce_4]; exact List.mem_append_right _ (List.mem_append_right _ (List.mem_append_right _ (List.mem_append_right _ (List.mem_append_right _ (List.mem_append_right _ (List.mem_append_right _ (List.mem_append_left _ h))))))))) hg
theorem gm_w4_8 {w : Cond} (h : w ∈ cw4_8) (hg : goodWord w = true) : w ∈ g_tbl := g_mw (ct_4 (by rw [ce_4]; exact List.mem_append_right _ (List.mem_append_right _ (List.mem_append_right _ (List.mem_append_right _ (List.mem_append_right _ (List.mem_append_right _ (List.mem_append_right _ (List.mem_append_right _ (List.mem_append_left _ h)))))))))) hg
theorem gm_w4_9 {w : Cond} (h : w ∈ cw4_9) (hg : goodWord w = true) : w ∈ g_tbl := g_mw (ct_4 (by rw [ce_4]; exact List.mem_append_right _ (List.mem_append_right _ (List.mem_append_right _ (List.mem_append_right _ (List.mem_append_right _ (List.mem_append_right _ (List.mem_append_right _ (List.mem_append_right _ (List.mem_append_right _ (List.mem_append_left _ h))))))))))) hg
theorem gm_w4_10 {w : Cond} (h : w ∈ cw4_10) (hg : goodWord w = true) : w ∈ g_tbl := g_mw (ct_4 (by rw [ce_4]; exact List.mem_append_right _ (List.mem_append_right _ (List.mem_append_right _ (List.mem_append_right _ (List.mem_append_right _ (List.mem_append_right _ (List.mem_append_right _ (List.mem_append_right _ (List.mem_append_right _ (List.mem_append_right _ (List.mem_append_left _ h)))))))))))) hg
theorem gm_w4_11 {w : Cond} (h : w ∈ cw4_11) (hg : goodWord w = true) : w ∈ g_tbl := g_mw (ct_4 (by rw [ce_4]; exact List.mem_append_right _ (List.mem_append_right _ (List.mem_append_right _ (List.mem_append_right _ (List.mem_append_right _ (List.mem_append_right _ (List.mem_append_right _ (List.mem_append_right _ (List.mem_append_right _ (List.mem_append_right _ (List.mem_append_right _ (List.mem_append_left _ h))))))))))))) hg
theorem gm_w4_12 {w : Cond} (h : w ∈ cw4_12) (hg : goodWord w = true) : w ∈ g_tbl := g_mw (ct_4 (by rw [ce_4]; exact List.mem_append_right _ (List.mem_append_right _ (List.mem_append_right _ (List.mem_append_right _ (List.mem_append_right _ (List.mem_append_right _ (List.mem_append_right _ (List.mem_append_right _ (List.mem_append_right _ (List.mem_append_right _ (List.mem_append_right _ (List.mem_append_right _ (List.mem_append_left _ h)))))))))))))) hg
theorem gm_w4_13 {w : Cond} (h : w ∈ cw4_13) (hg : goodWord w = true) : w ∈ g_tbl := g_mw (ct_4 (by rw [ce_4]; exact List.mem_append_right _ (List.mem_append_right _ (List.mem_append_right _ (List.mem_append_right _ (List.mem_append_right _ (List.mem_append_right _ (List.mem_append_right _ (List.mem_append_right _ (List.mem_append_right _ (List.mem_append_right _ (List.mem_append_right _ (List.mem_append_right _ (List.mem_append_right _ (List.mem_append_left _ h))))))))))))))) hg
theorem gm_w4_14 {w : Cond} (h : w ∈ cw4_14) (hg : goodWord w = true) : w ∈ g_tbl := g_mw (ct_4 (by rw [ce_4]; exact List.mem_append_right _ (List.mem_append_right _ (List.mem_append_right _ (List.mem_append_right _ (List.mem_append_right _ (List.mem_append_right _ (List.mem_append_right _ (List.mem_append_right _ (List.mem_append_right _ (List.mem_append_right _ (List.mem_append_right _ (List.mem_append_right _ (List.mem_append_right _ (List.mem_append_right _ (h)))))))))))))))) hg
def cw5_0 : List Cond := [(Jvm.Cond.instanceMethod ({ cls := "TypeAtNight", name := "fits", desc := "()I" } : Jvm.MethodName)), (Jvm.Cond.selects "TypeAtNight" ({ cls := "TypeAtNight", name := "fits", desc := "()I" } : Jvm.MethodName) ({ cls := "TypeAtNight", name := "fits", desc := "()I" } : Jvm.MethodName)), (Jvm.Cond.code ({ cls := "TypeAtNight", name := "fits", desc := "()I" } : Jvm.MethodName) prog_1_method_33_code (2 : Nat) (Option.some Jvm.ClassFile.FieldType.int)), (Jvm.Cond.methodLink "TypeAtNight" (334 : Nat) ({ cls := "TypeAtNight$Hearsay", name := "fitting", desc := "(LTypeAtNight$TypeCase;)I" } : Jvm.MethodName)), (Jvm.Cond.instanceMethod ({ cls := "TypeAtNight$Hearsay", name := "fitting", desc := "(LTypeAtNight$TypeCase;)I" } : Jvm.MethodName)), (Jvm.Cond.selects "TypeAtNight$Hearsay" ({ cls := "TypeAtNight$Hearsay", name := "fitting", desc := "(LTypeAtNight$TypeCase;)I" } : Jvm.MethodName) ({ cls := "TypeAtNight$Hearsay", name := "fitting", desc := "(LTypeAtNight$TypeCase;)I" } : Jvm.MethodName)), (Jvm.Cond.code ({ cls := "TypeAtNight$Hearsay", name := "fitting", desc := "(LTypeAtNight$TypeCase;)I" } : Jvm.MethodName) prog_4_method_6_code (4 : Nat) (Option.some Jvm.ClassFile.FieldType.int)), (Jvm.Cond.methodLink "TypeAtNight$Hearsay" (23 : Nat) ({ cls := "TypeAtNight$TypeCase", name := "all", desc := "()I" } : Jvm.MethodName)), (Jvm.Cond.methodLink "TypeAtNight$Hearsay" (29 : Nat) ({ cls := "TypeAtNight$Hearsay", name := "answering", desc := "(LTypeAtNight$TypeCase;I)I" } : Jvm.MethodName)), (Jvm.Cond.static ({ cls := "TypeAtNight$Hearsay", name := "answering", desc := "(LTypeAtNight$TypeCase;I)I" } : Jvm.MethodName)), (Jvm.Cond.code ({ cls := "TypeAtNight$Hearsay", name := "answering", desc := "(LTypeAtNight$TypeCase;I)I" } : Jvm.MethodName) prog_4_method_7_code (4 : Nat) (Option.some Jvm.ClassFile.FieldType.int)), (Jvm.Cond.methodLink "TypeAtNight$Hearsay" (34 : Nat) ({ cls := "TypeAtNight$Hearsay", name := "isSo", desc := "(LTypeAtNight$TypeCase;III)Z" } : Jvm.MethodName)), (Jvm.Cond.static ({ cls := "TypeAtNight$Hearsay", name := "isSo", desc := "(LTypeAtNight$TypeCase;III)Z" } : Jvm.MethodName)), (Jvm.Cond.code ({ cls := "TypeAtNight$Hearsay", name := "isSo", desc := "(LTypeAtNight$TypeCase;III)Z" } : Jvm.MethodName) prog_4_method_8_code (4 : Nat) (Option.some Jvm.ClassFile.FieldType.boolean)), (Jvm.Cond.methodLink "TypeAtNightLaw" (162 : Nat) ({ cls := "TypeAtNight", name := "asks", desc := "()I" } : Jvm.MethodName)), (Jvm.Cond.instanceMethod ({ cls := "TypeAtNight", name := "asks", desc := "()I" } : Jvm.MethodName))]
def cw5_1 : List Cond := [(Jvm.Cond.selects "TypeAtNight" ({ cls := "TypeAtNight", name := "asks", desc := "()I" } : Jvm.MethodName) ({ cls := "TypeAtNight", name := "asks", desc := "()I" } : Jvm.MethodName)), (Jvm.Cond.code ({ cls := "TypeAtNight", name := "asks", desc := "()I" } : Jvm.MethodName) prog_1_method_34_code (3 : Nat) (Option.some Jvm.ClassFile.FieldType.int)), (Jvm.Cond.methodLink "TypeAtNight" (337 : Nat) ({ cls := "TypeAtNight$Hearsay", name := "bestQuestion", desc := "(LTypeAtNight$TypeCase;I)I" } : Jvm.MethodName)), (Jvm.Cond.instanceMethod ({ cls := "TypeAtNight$Hearsay", name := "bestQuestion", desc := "(LTypeAtNight$TypeCase;I)I" } : Jvm.MethodName)), (Jvm.Cond.selects "TypeAtNight$Hearsay" ({ cls := "TypeAtNight$Hearsay", name := "bestQuestion", desc := "(LTypeAtNight$TypeCase;I)I" } : Jvm.MethodName) ({ cls := "TypeAtNight$Hearsay", name := "bestQuestion", desc := "(LTypeAtNight$TypeCase;I)I" } : Jvm.MethodName)), (Jvm.Cond.code ({ cls := "TypeAtNight$Hearsay", name := "bestQuestion", desc := "(LTypeAtNight$TypeCase;I)I" } : Jvm.MethodName) prog_4_method_10_code (8 : Nat) (Option.some Jvm.ClassFile.FieldType.int)), (Jvm.Cond.methodLink "TypeAtNight$Hearsay" (64 : Nat) ({ cls := "TypeAtNight$Hearsay", name := "leftAtMost", desc := "(LTypeAtNight$TypeCase;II)I" } : Jvm.MethodName)), (Jvm.Cond.instanceMethod ({ cls := "TypeAtNight$Hearsay", name := "leftAtMost", desc := "(LTypeAtNight$TypeCase;II)I" } : Jvm.MethodName)), (Jvm.Cond.selects "TypeAtNight$Hearsay" ({ cls := "TypeAtNight$Hearsay", name := "leftAtMost", desc := "(LTypeAtNight$TypeCase;II)I" } : Jvm.MethodName) ({ cls := "TypeAtNight$Hearsay", name := "leftAtMost", desc := "(LTypeAtNight$TypeCase;II)I" } : Jvm.MethodName)), (Jvm.Cond.code ({ cls := "TypeAtNight$Hearsay", name := "leftAtMost", desc := "(LTypeAtNight$TypeCase;II)I" } : Jvm.MethodName) prog_4_method_9_code (5 : Nat) (Option.some Jvm.ClassFile.FieldType.int)), (Jvm.Cond.methodLink "TypeAtNight$Hearsay" (53 : Nat) ({ cls := "java/lang/Integer", name := "bitCount", desc := "(I)I" } : Jvm.MethodName)), (Jvm.Cond.methodLink "TypeAtNight$Hearsay" (58 : Nat) ({ cls := "java/lang/Math", name := "max", desc := "(II)I" } : Jvm.MethodName)), (Jvm.Cond.methodLink "TypeAtNight" (341 : Nat) ({ cls := "TypeAtNight$Hearsay", name := "leftAtMost", desc := "(LTypeAtNight$TypeCase;II)I" } : Jvm.MethodName)), (Jvm.Cond.methodLink "TypeAtNightLaw" (166 : Nat) ({ cls := "TypeAtNight", name := "saw", desc := "(III)I" } : Jvm.MethodName)), (Jvm.Cond.instanceMethod ({ cls := "TypeAtNight", name := "saw", desc := "(III)I" } : Jvm.MethodName)), (Jvm.Cond.selects "TypeAtNight" ({ cls := "TypeAtNight", name := "saw", desc := "(III)I" } : Jvm.MethodName) ({ cls := "TypeAtNight", name := "saw", desc := "(III)I" } : Jvm.MethodName))]
def cw5_2 : List Cond := [(Jvm.Cond.code ({ cls := "TypeAtNight", name := "saw", desc := "(III)I" } : Jvm.MethodName) prog_1_method_35_code (4 : Nat) (Option.some Jvm.ClassFile.FieldType.int)), (Jvm.Cond.methodLink "TypeAtNight" (345 : Nat) ({ cls := "TypeAtNight$Mixing", name := "see", desc := "(III)I" } : Jvm.MethodName)), (Jvm.Cond.instanceMethod ({ cls := "TypeAtNight$Mixing", name := "see", desc := "(III)I" } : Jvm.MethodName)), (Jvm.Cond.selects "TypeAtNight$Mixing" ({ cls := "TypeAtNight$Mixing", name := "see", desc := "(III)I" } : Jvm.MethodName) ({ cls := "TypeAtNight$Mixing", name := "see", desc := "(III)I" } : Jvm.MethodName)), (Jvm.Cond.code ({ cls := "TypeAtNight$Mixing", name := "see", desc := "(III)I" } : Jvm.MethodName) prog_6_method_3_code (4 : Nat) (Option.some Jvm.ClassFile.FieldType.int)), (Jvm.Cond.methodLink "TypeAtNightLaw" (171 : Nat) ({ cls := "TypeAtNight", name := "denies", desc := "()I" } : Jvm.MethodName)), (Jvm.Cond.instanceMethod ({ cls := "TypeAtNight", name := "denies", desc := "()I" } : Jvm.MethodName)), (Jvm.Cond.selects "TypeAtNight" ({ cls := "TypeAtNight", name := "denies", desc := "()I" } : Jvm.MethodName) ({ cls := "TypeAtNight", name := "denies", desc := "()I" } : Jvm.MethodName)), (Jvm.Cond.code ({ cls := "TypeAtNight", name := "denies", desc := "()I" } : Jvm.MethodName) prog_1_method_36_code (1 : Nat) (Option.some Jvm.ClassFile.FieldType.int)), (Jvm.Cond.methodLink "TypeAtNight" (348 : Nat) ({ cls := "TypeAtNight$Mixing", name := "clear", desc := "()I" } : Jvm.MethodName)), (Jvm.Cond.instanceMethod ({ cls := "TypeAtNight$Mixing", name := "clear", desc := "()I" } : Jvm.MethodName)), (Jvm.Cond.selects "TypeAtNight$Mixing" ({ cls := "TypeAtNight$Mixing", name := "clear", desc := "()I" } : Jvm.MethodName) ({ cls := "TypeAtNight$Mixing", name := "clear", desc := "()I" } : Jvm.MethodName)), (Jvm.Cond.code ({ cls := "TypeAtNight$Mixing", name := "clear", desc := "()I" } : Jvm.MethodName) prog_6_method_4_code (2 : Nat) (Option.some Jvm.ClassFile.FieldType.int)), (Jvm.Cond.methodLink "TypeAtNightLaw" (175 : Nat) ({ cls := "TypeAtNight", name := "laws", desc := "()I" } : Jvm.MethodName)), (Jvm.Cond.instanceMethod ({ cls := "TypeAtNight", name := "laws", desc := "()I" } : Jvm.MethodName)), (Jvm.Cond.selects "TypeAtNight" ({ cls := "TypeAtNight", name := "laws", desc := "()I" } : Jvm.MethodName) ({ cls := "TypeAtNight", name := "laws", desc := "()I" } : Jvm.MethodName))]
def cw5_3 : List Cond := [(Jvm.Cond.code ({ cls := "TypeAtNight", name := "laws", desc := "()I" } : Jvm.MethodName) prog_1_method_37_code (3 : Nat) (Option.some Jvm.ClassFile.FieldType.int)), (Jvm.Cond.methodLink "TypeAtNight" (349 : Nat) ({ cls := "TypeAtNight$Mixing", name := "fitting", desc := "()I" } : Jvm.MethodName)), (Jvm.Cond.instanceMethod ({ cls := "TypeAtNight$Mixing", name := "fitting", desc := "()I" } : Jvm.MethodName)), (Jvm.Cond.selects "TypeAtNight$Mixing" ({ cls := "TypeAtNight$Mixing", name := "fitting", desc := "()I" } : Jvm.MethodName) ({ cls := "TypeAtNight$Mixing", name := "fitting", desc := "()I" } : Jvm.MethodName)), (Jvm.Cond.code ({ cls := "TypeAtNight$Mixing", name := "fitting", desc := "()I" } : Jvm.MethodName) prog_6_method_8_code (3 : Nat) (Option.some Jvm.ClassFile.FieldType.int)), (Jvm.Cond.methodLink "TypeAtNight$Mixing" (38 : Nat) ({ cls := "TypeAtNight$Mixing", name := "fitsAll", desc := "(I)Z" } : Jvm.MethodName)), (Jvm.Cond.privateMethod ({ cls := "TypeAtNight$Mixing", name := "fitsAll", desc := "(I)Z" } : Jvm.MethodName)), (Jvm.Cond.instanceMethod ({ cls := "TypeAtNight$Mixing", name := "fitsAll", desc := "(I)Z" } : Jvm.MethodName)), (Jvm.Cond.code ({ cls := "TypeAtNight$Mixing", name := "fitsAll", desc := "(I)Z" } : Jvm.MethodName) prog_6_method_9_code (3 : Nat) (Option.some Jvm.ClassFile.FieldType.boolean)), (Jvm.Cond.methodLink "TypeAtNight$Mixing" (42 : Nat) ({ cls := "TypeAtNight$Mixing", name := "becomes", desc := "(III)I" } : Jvm.MethodName)), (Jvm.Cond.static ({ cls := "TypeAtNight$Mixing", name := "becomes", desc := "(III)I" } : Jvm.MethodName)), (Jvm.Cond.code ({ cls := "TypeAtNight$Mixing", name := "becomes", desc := "(III)I" } : Jvm.MethodName) prog_6_method_7_code (3 : Nat) (Option.some Jvm.ClassFile.FieldType.int)), (Jvm.Cond.methodLink "TypeAtNight$Mixing" (28 : Nat) ({ cls := "TypeAtNight$Mixing", name := "upperOf", desc := "(I)I" } : Jvm.MethodName)), (Jvm.Cond.static ({ cls := "TypeAtNight$Mixing", name := "upperOf", desc := "(I)I" } : Jvm.MethodName)), (Jvm.Cond.code ({ cls := "TypeAtNight$Mixing", name := "upperOf", desc := "(I)I" } : Jvm.MethodName) prog_6_method_5_code (1 : Nat) (Option.some Jvm.ClassFile.FieldType.int)), (Jvm.Cond.methodLink "TypeAtNight$Mixing" (32 : Nat) ({ cls := "TypeAtNight$Mixing", name := "lowerOf", desc := "(I)I" } : Jvm.MethodName))]
def cw5_4 : List Cond := [(Jvm.Cond.static ({ cls := "TypeAtNight$Mixing", name := "lowerOf", desc := "(I)I" } : Jvm.MethodName)), (Jvm.Cond.code ({ cls := "TypeAtNight$Mixing", name := "lowerOf", desc := "(I)I" } : Jvm.MethodName) prog_6_method_6_code (1 : Nat) (Option.some Jvm.ClassFile.FieldType.int)), (Jvm.Cond.methodLinkNest "TypeAtNight$Mixing" (35 : Nat) ({ cls := "TypeAtNight", name := "putToMood", desc := "(I)I" } : Jvm.MethodName) "TypeAtNight"), (Jvm.Cond.methodLink "TypeAtNight" (351 : Nat) ({ cls := "java/lang/Integer", name := "numberOfTrailingZeros", desc := "(I)I" } : Jvm.MethodName)), (Jvm.Cond.static ({ cls := "java/lang/Integer", name := "numberOfTrailingZeros", desc := "(I)I" } : Jvm.MethodName)), (Jvm.Cond.code ({ cls := "java/lang/Integer", name := "numberOfTrailingZeros", desc := "(I)I" } : Jvm.MethodName) prog_20_method_48_code (2 : Nat) (Option.some Jvm.ClassFile.FieldType.int)), (Jvm.Cond.constant "java/lang/Integer" (264 : Nat) (65536 : Int32)), (Jvm.Cond.methodLink "TypeAtNight" (354 : Nat) ({ cls := "TypeAtNight$Mixing", name := "upperOf", desc := "(I)I" } : Jvm.MethodName)), (Jvm.Cond.methodLink "TypeAtNight" (357 : Nat) ({ cls := "TypeAtNight$Mixing", name := "lowerOf", desc := "(I)I" } : Jvm.MethodName)), (Jvm.Cond.methodLink "TypeAtNightLaw" (179 : Nat) ({ cls := "TypeAtNight", name := "looks", desc := "()I" } : Jvm.MethodName)), (Jvm.Cond.instanceMethod ({ cls := "TypeAtNight", name := "looks", desc := "()I" } : Jvm.MethodName)), (Jvm.Cond.selects "TypeAtNight" ({ cls := "TypeAtNight", name := "looks", desc := "()I" } : Jvm.MethodName) ({ cls := "TypeAtNight", name := "looks", desc := "()I" } : Jvm.MethodName)), (Jvm.Cond.code ({ cls := "TypeAtNight", name := "looks", desc := "()I" } : Jvm.MethodName) prog_1_method_38_code (3 : Nat) (Option.some Jvm.ClassFile.FieldType.int)), (Jvm.Cond.methodLink "TypeAtNight" (360 : Nat) ({ cls := "TypeAtNight$Mixing", name := "bestLook", desc := "(I)I" } : Jvm.MethodName)), (Jvm.Cond.instanceMethod ({ cls := "TypeAtNight$Mixing", name := "bestLook", desc := "(I)I" } : Jvm.MethodName)), (Jvm.Cond.selects "TypeAtNight$Mixing" ({ cls := "TypeAtNight$Mixing", name := "bestLook", desc := "(I)I" } : Jvm.MethodName) ({ cls := "TypeAtNight$Mixing", name := "bestLook", desc := "(I)I" } : Jvm.MethodName))]
def cw5_5 : List Cond := [(Jvm.Cond.code ({ cls := "TypeAtNight$Mixing", name := "bestLook", desc := "(I)I" } : Jvm.MethodName) prog_6_method_11_code (6 : Nat) (Option.some Jvm.ClassFile.FieldType.int)), (Jvm.Cond.methodLink "TypeAtNight$Mixing" (58 : Nat) ({ cls := "TypeAtNight$Mixing", name := "leftAtMost", desc := "(II)I" } : Jvm.MethodName)), (Jvm.Cond.instanceMethod ({ cls := "TypeAtNight$Mixing", name := "leftAtMost", desc := "(II)I" } : Jvm.MethodName)), (Jvm.Cond.selects "TypeAtNight$Mixing" ({ cls := "TypeAtNight$Mixing", name := "leftAtMost", desc := "(II)I" } : Jvm.MethodName) ({ cls := "TypeAtNight$Mixing", name := "leftAtMost", desc := "(II)I" } : Jvm.MethodName)), (Jvm.Cond.code ({ cls := "TypeAtNight$Mixing", name := "leftAtMost", desc := "(II)I" } : Jvm.MethodName) prog_6_method_10_code (6 : Nat) (Option.some Jvm.ClassFile.FieldType.int)), (Jvm.Cond.methodLink "TypeAtNight$Mixing" (46 : Nat) ({ cls := "java/util/Arrays", name := "fill", desc := "([II)V" } : Jvm.MethodName)), (Jvm.Cond.methodLink "TypeAtNight$Mixing" (52 : Nat) ({ cls := "java/lang/Math", name := "max", desc := "(II)I" } : Jvm.MethodName)), (Jvm.Cond.methodLink "TypeAtNight" (363 : Nat) ({ cls := "TypeAtNight$Mixing", name := "leftAtMost", desc := "(II)I" } : Jvm.MethodName)), (Jvm.Cond.methodLink "TypeAtNightLaw" (183 : Nat) ({ cls := "TypeAtNight", name := "reads", desc := "(I)I" } : Jvm.MethodName)), (Jvm.Cond.instanceMethod ({ cls := "TypeAtNight", name := "reads", desc := "(I)I" } : Jvm.MethodName)), (Jvm.Cond.selects "TypeAtNight" ({ cls := "TypeAtNight", name := "reads", desc := "(I)I" } : Jvm.MethodName) ({ cls := "TypeAtNight", name := "reads", desc := "(I)I" } : Jvm.MethodName)), (Jvm.Cond.code ({ cls := "TypeAtNight", name := "reads", desc := "(I)I" } : Jvm.MethodName) prog_1_method_39_code (11 : Nat) (Option.some Jvm.ClassFile.FieldType.int)), (Jvm.Cond.constantLong "TypeAtNight" (365 : Nat) (10 : Int64)), (Jvm.Cond.methodLink "TypeAtNight" (368 : Nat) ({ cls := "TypeAtNight", name := "commonDivisor", desc := "(JJ)J" } : Jvm.MethodName)), (Jvm.Cond.static ({ cls := "TypeAtNight", name := "commonDivisor", desc := "(JJ)J" } : Jvm.MethodName)), (Jvm.Cond.code ({ cls := "TypeAtNight", name := "commonDivisor", desc := "(JJ)J" } : Jvm.MethodName) prog_1_method_63_code (11 : Nat) (Option.some Jvm.ClassFile.FieldType.long))]
def cw5_6 : List Cond := [(Jvm.Cond.methodLink "TypeAtNightLaw" (187 : Nat) ({ cls := "TypeAtNight", name := "galley", desc := "(I)I" } : Jvm.MethodName)), (Jvm.Cond.instanceMethod ({ cls := "TypeAtNight", name := "galley", desc := "(I)I" } : Jvm.MethodName)), (Jvm.Cond.selects "TypeAtNight" ({ cls := "TypeAtNight", name := "galley", desc := "(I)I" } : Jvm.MethodName) ({ cls := "TypeAtNight", name := "galley", desc := "(I)I" } : Jvm.MethodName)), (Jvm.Cond.code ({ cls := "TypeAtNight", name := "galley", desc := "(I)I" } : Jvm.MethodName) prog_1_method_40_code (3 : Nat) (Option.some Jvm.ClassFile.FieldType.int)), (Jvm.Cond.methodLink "TypeAtNight" (372 : Nat) ({ cls := "TypeAtNight$Galley", name := "leftOfWin", desc := "(I)I" } : Jvm.MethodName)), (Jvm.Cond.instanceMethod ({ cls := "TypeAtNight$Galley", name := "leftOfWin", desc := "(I)I" } : Jvm.MethodName)), (Jvm.Cond.selects "TypeAtNight$Galley" ({ cls := "TypeAtNight$Galley", name := "leftOfWin", desc := "(I)I" } : Jvm.MethodName) ({ cls := "TypeAtNight$Galley", name := "leftOfWin", desc := "(I)I" } : Jvm.MethodName)), (Jvm.Cond.code ({ cls := "TypeAtNight$Galley", name := "leftOfWin", desc := "(I)I" } : Jvm.MethodName) prog_3_method_2_code (3 : Nat) (Option.some Jvm.ClassFile.FieldType.int)), (Jvm.Cond.methodLink "TypeAtNight$Galley" (19 : Nat) ({ cls := "TypeAtNight$Galley", name := "learn", desc := "(I)V" } : Jvm.MethodName)), (Jvm.Cond.privateMethod ({ cls := "TypeAtNight$Galley", name := "learn", desc := "(I)V" } : Jvm.MethodName)), (Jvm.Cond.instanceMethod ({ cls := "TypeAtNight$Galley", name := "learn", desc := "(I)V" } : Jvm.MethodName)), (Jvm.Cond.code ({ cls := "TypeAtNight$Galley", name := "learn", desc := "(I)V" } : Jvm.MethodName) prog_3_method_3_code (6 : Nat) (Option.none : Option Jvm.ClassFile.FieldType)), (Jvm.Cond.constantLong "TypeAtNight$Galley" (23 : Nat) (-1 : Int64)), (Jvm.Cond.methodLink "TypeAtNight$Galley" (25 : Nat) ({ cls := "java/lang/Long", name := "numberOfTrailingZeros", desc := "(J)I" } : Jvm.MethodName)), (Jvm.Cond.static ({ cls := "java/lang/Long", name := "numberOfTrailingZeros", desc := "(J)I" } : Jvm.MethodName)), (Jvm.Cond.code ({ cls := "java/lang/Long", name := "numberOfTrailingZeros", desc := "(J)I" } : Jvm.MethodName) prog_21_method_49_code (3 : Nat) (Option.some Jvm.ClassFile.FieldType.int))]
def cw5_7 : List Cond := [(Jvm.Cond.methodLink "java/lang/Long" (311 : Nat) ({ cls := "java/lang/Integer", name := "numberOfTrailingZeros", desc := "(I)I" } : Jvm.MethodName)), (Jvm.Cond.methodLink "TypeAtNightLaw" (191 : Nat) ({ cls := "TypeAtNight", name := "rests", desc := "(I)I" } : Jvm.MethodName)), (Jvm.Cond.instanceMethod ({ cls := "TypeAtNight", name := "rests", desc := "(I)I" } : Jvm.MethodName)), (Jvm.Cond.selects "TypeAtNight" ({ cls := "TypeAtNight", name := "rests", desc := "(I)I" } : Jvm.MethodName) ({ cls := "TypeAtNight", name := "rests", desc := "(I)I" } : Jvm.MethodName)), (Jvm.Cond.code ({ cls := "TypeAtNight", name := "rests", desc := "(I)I" } : Jvm.MethodName) prog_1_method_41_code (5 : Nat) (Option.some Jvm.ClassFile.FieldType.int)), (Jvm.Cond.methodLink "TypeAtNight" (375 : Nat) ({ cls := "TypeAtNight", name := "isContent", desc := "(III)Z" } : Jvm.MethodName)), (Jvm.Cond.static ({ cls := "TypeAtNight", name := "isContent", desc := "(III)Z" } : Jvm.MethodName)), (Jvm.Cond.code ({ cls := "TypeAtNight", name := "isContent", desc := "(III)Z" } : Jvm.MethodName) prog_1_method_65_code (4 : Nat) (Option.some Jvm.ClassFile.FieldType.boolean)), (Jvm.Cond.methodLink "TypeAtNight" (469 : Nat) ({ cls := "TypeAtNight", name := "sells", desc := "(III)I" } : Jvm.MethodName)), (Jvm.Cond.static ({ cls := "TypeAtNight", name := "sells", desc := "(III)I" } : Jvm.MethodName)), (Jvm.Cond.code ({ cls := "TypeAtNight", name := "sells", desc := "(III)I" } : Jvm.MethodName) prog_1_method_64_code (4 : Nat) (Option.some Jvm.ClassFile.FieldType.int)), (Jvm.Cond.methodLink "TypeAtNightLaw" (195 : Nat) ({ cls := "TypeAtNight", name := "law", desc := "()I" } : Jvm.MethodName)), (Jvm.Cond.instanceMethod ({ cls := "TypeAtNight", name := "law", desc := "()I" } : Jvm.MethodName)), (Jvm.Cond.selects "TypeAtNight" ({ cls := "TypeAtNight", name := "law", desc := "()I" } : Jvm.MethodName) ({ cls := "TypeAtNight", name := "law", desc := "()I" } : Jvm.MethodName)), (Jvm.Cond.code ({ cls := "TypeAtNight", name := "law", desc := "()I" } : Jvm.MethodName) prog_1_method_42_code (5 : Nat) (Option.some Jvm.ClassFile.FieldType.int)), (Jvm.Cond.methodLink "TypeAtNight" (379 : Nat) ({ cls := "TypeAtNight$TypeCase", name := "farFromRest", desc := "()I" } : Jvm.MethodName))]
def cw5_8 : List Cond := [(Jvm.Cond.instanceMethod ({ cls := "TypeAtNight$TypeCase", name := "farFromRest", desc := "()I" } : Jvm.MethodName)), (Jvm.Cond.selects "TypeAtNight$TypeCase" ({ cls := "TypeAtNight$TypeCase", name := "farFromRest", desc := "()I" } : Jvm.MethodName) ({ cls := "TypeAtNight$TypeCase", name := "farFromRest", desc := "()I" } : Jvm.MethodName)), (Jvm.Cond.code ({ cls := "TypeAtNight$TypeCase", name := "farFromRest", desc := "()I" } : Jvm.MethodName) prog_11_method_13_code (3 : Nat) (Option.some Jvm.ClassFile.FieldType.int)), (Jvm.Cond.methodLink "TypeAtNight$TypeCase" (66 : Nat) ({ cls := "java/lang/Math", name := "abs", desc := "(I)I" } : Jvm.MethodName)), (Jvm.Cond.methodLink "TypeAtNightLaw" (199 : Nat) ({ cls := "TypeAtNight", name := "years", desc := "(II)I" } : Jvm.MethodName)), (Jvm.Cond.instanceMethod ({ cls := "TypeAtNight", name := "years", desc := "(II)I" } : Jvm.MethodName)), (Jvm.Cond.selects "TypeAtNight" ({ cls := "TypeAtNight", name := "years", desc := "(II)I" } : Jvm.MethodName) ({ cls := "TypeAtNight", name := "years", desc := "(II)I" } : Jvm.MethodName)), (Jvm.Cond.code ({ cls := "TypeAtNight", name := "years", desc := "(II)I" } : Jvm.MethodName) prog_1_method_43_code (7 : Nat) (Option.some Jvm.ClassFile.FieldType.int)), (Jvm.Cond.methodLink "TypeAtNight" (382 : Nat) ({ cls := "TypeAtNight", name := "nextDraw", desc := "(I)I" } : Jvm.MethodName)), (Jvm.Cond.static ({ cls := "TypeAtNight", name := "nextDraw", desc := "(I)I" } : Jvm.MethodName)), (Jvm.Cond.code ({ cls := "TypeAtNight", name := "nextDraw", desc := "(I)I" } : Jvm.MethodName) prog_1_method_66_code (1 : Nat) (Option.some Jvm.ClassFile.FieldType.int)), (Jvm.Cond.constant "TypeAtNight" (472 : Nat) (1103515245 : Int32)), (Jvm.Cond.methodLink "TypeAtNight" (385 : Nat) ({ cls := "TypeAtNight", name := "drawOf", desc := "(II)I" } : Jvm.MethodName)), (Jvm.Cond.static ({ cls := "TypeAtNight", name := "drawOf", desc := "(II)I" } : Jvm.MethodName)), (Jvm.Cond.code ({ cls := "TypeAtNight", name := "drawOf", desc := "(II)I" } : Jvm.MethodName) prog_1_method_67_code (2 : Nat) (Option.some Jvm.ClassFile.FieldType.int)), (Jvm.Cond.methodLink "TypeAtNightLaw" (203 : Nat) ({ cls := "TypeAtNight", name := "keep", desc := "(I)Z" } : Jvm.MethodName))]
def cw5_9 : List Cond := [(Jvm.Cond.instanceMethod ({ cls := "TypeAtNight", name := "keep", desc := "(I)Z" } : Jvm.MethodName)), (Jvm.Cond.selects "TypeAtNight" ({ cls := "TypeAtNight", name := "keep", desc := "(I)Z" } : Jvm.MethodName) ({ cls := "TypeAtNight", name := "keep", desc := "(I)Z" } : Jvm.MethodName)), (Jvm.Cond.code ({ cls := "TypeAtNight", name := "keep", desc := "(I)Z" } : Jvm.MethodName) prog_1_method_44_code (2 : Nat) (Option.some Jvm.ClassFile.FieldType.boolean)), (Jvm.Cond.methodLink "TypeAtNight" (388 : Nat) ({ cls := "TypeAtNight$Past", name := "keepUnder", desc := "(ILTypeAtNight$TypeCase;)Z" } : Jvm.MethodName)), (Jvm.Cond.instanceMethod ({ cls := "TypeAtNight$Past", name := "keepUnder", desc := "(ILTypeAtNight$TypeCase;)Z" } : Jvm.MethodName)), (Jvm.Cond.selects "TypeAtNight$Past" ({ cls := "TypeAtNight$Past", name := "keepUnder", desc := "(ILTypeAtNight$TypeCase;)Z" } : Jvm.MethodName) ({ cls := "TypeAtNight$Past", name := "keepUnder", desc := "(ILTypeAtNight$TypeCase;)Z" } : Jvm.MethodName)), (Jvm.Cond.code ({ cls := "TypeAtNight$Past", name := "keepUnder", desc := "(ILTypeAtNight$TypeCase;)Z" } : Jvm.MethodName) prog_8_method_6_code (3 : Nat) (Option.some Jvm.ClassFile.FieldType.boolean)), (Jvm.Cond.methodLink "TypeAtNightLaw" (207 : Nat) ({ cls := "TypeAtNight", name := "again", desc := "(I)Z" } : Jvm.MethodName)), (Jvm.Cond.instanceMethod ({ cls := "TypeAtNight", name := "again", desc := "(I)Z" } : Jvm.MethodName)), (Jvm.Cond.selects "TypeAtNight" ({ cls := "TypeAtNight", name := "again", desc := "(I)Z" } : Jvm.MethodName) ({ cls := "TypeAtNight", name := "again", desc := "(I)Z" } : Jvm.MethodName)), (Jvm.Cond.code ({ cls := "TypeAtNight", name := "again", desc := "(I)Z" } : Jvm.MethodName) prog_1_method_45_code (2 : Nat) (Option.some Jvm.ClassFile.FieldType.boolean)), (Jvm.Cond.methodLink "TypeAtNight" (392 : Nat) ({ cls := "TypeAtNight$Past", name := "bringBack", desc := "(ILTypeAtNight$TypeCase;)Z" } : Jvm.MethodName)), (Jvm.Cond.instanceMethod ({ cls := "TypeAtNight$Past", name := "bringBack", desc := "(ILTypeAtNight$TypeCase;)Z" } : Jvm.MethodName)), (Jvm.Cond.selects "TypeAtNight$Past" ({ cls := "TypeAtNight$Past", name := "bringBack", desc := "(ILTypeAtNight$TypeCase;)Z" } : Jvm.MethodName) ({ cls := "TypeAtNight$Past", name := "bringBack", desc := "(ILTypeAtNight$TypeCase;)Z" } : Jvm.MethodName)), (Jvm.Cond.code ({ cls := "TypeAtNight$Past", name := "bringBack", desc := "(ILTypeAtNight$TypeCase;)Z" } : Jvm.MethodName) prog_8_method_7_code (3 : Nat) (Option.some Jvm.ClassFile.FieldType.boolean)), (Jvm.Cond.methodLink "TypeAtNight$Past" (41 : Nat) ({ cls := "TypeAtNight$Past", name := "clear", desc := "()V" } : Jvm.MethodName))]
def cw5_10 : List Cond := [(Jvm.Cond.methodLink "TypeAtNightLaw" (211 : Nat) ({ cls := "TypeAtNight", name := "count", desc := "(I)I" } : Jvm.MethodName)), (Jvm.Cond.instanceMethod ({ cls := "TypeAtNight", name := "count", desc := "(I)I" } : Jvm.MethodName)), (Jvm.Cond.selects "TypeAtNight" ({ cls := "TypeAtNight", name := "count", desc := "(I)I" } : Jvm.MethodName) ({ cls := "TypeAtNight", name := "count", desc := "(I)I" } : Jvm.MethodName)), (Jvm.Cond.code ({ cls := "TypeAtNight", name := "count", desc := "(I)I" } : Jvm.MethodName) prog_1_method_46_code (2 : Nat) (Option.some Jvm.ClassFile.FieldType.int)), (Jvm.Cond.methodLink "TypeAtNight" (398 : Nat) ({ cls := "TypeAtNight$Hearsay", name := "size", desc := "()I" } : Jvm.MethodName)), (Jvm.Cond.instanceMethod ({ cls := "TypeAtNight$Hearsay", name := "size", desc := "()I" } : Jvm.MethodName)), (Jvm.Cond.selects "TypeAtNight$Hearsay" ({ cls := "TypeAtNight$Hearsay", name := "size", desc := "()I" } : Jvm.MethodName) ({ cls := "TypeAtNight$Hearsay", name := "size", desc := "()I" } : Jvm.MethodName)), (Jvm.Cond.code ({ cls := "TypeAtNight$Hearsay", name := "size", desc := "()I" } : Jvm.MethodName) prog_4_method_2_code (1 : Nat) (Option.some Jvm.ClassFile.FieldType.int)), (Jvm.Cond.methodLink "TypeAtNight" (399 : Nat) ({ cls := "TypeAtNight$Mixing", name := "size", desc := "()I" } : Jvm.MethodName)), (Jvm.Cond.instanceMethod ({ cls := "TypeAtNight$Mixing", name := "size", desc := "()I" } : Jvm.MethodName)), (Jvm.Cond.selects "TypeAtNight$Mixing" ({ cls := "TypeAtNight$Mixing", name := "size", desc := "()I" } : Jvm.MethodName) ({ cls := "TypeAtNight$Mixing", name := "size", desc := "()I" } : Jvm.MethodName)), (Jvm.Cond.code ({ cls := "TypeAtNight$Mixing", name := "size", desc := "()I" } : Jvm.MethodName) prog_6_method_2_code (1 : Nat) (Option.some Jvm.ClassFile.FieldType.int)), (Jvm.Cond.methodLink "TypeAtNight" (400 : Nat) ({ cls := "TypeAtNight$Numbers", name := "size", desc := "()I" } : Jvm.MethodName)), (Jvm.Cond.instanceMethod ({ cls := "TypeAtNight$Numbers", name := "size", desc := "()I" } : Jvm.MethodName)), (Jvm.Cond.selects "TypeAtNight$Numbers" ({ cls := "TypeAtNight$Numbers", name := "size", desc := "()I" } : Jvm.MethodName) ({ cls := "TypeAtNight$Numbers", name := "size", desc := "()I" } : Jvm.MethodName)), (Jvm.Cond.code ({ cls := "TypeAtNight$Numbers", name := "size", desc := "()I" } : Jvm.MethodName) prog_7_method_7_code (1 : Nat) (Option.some Jvm.ClassFile.FieldType.int))]
def cw5_11 : List Cond := [(Jvm.Cond.methodLink "TypeAtNightLaw" (45 : Nat) ({ cls := "TypeAtNightLaw", name := "sort", desc := "(LTypeAtNight;II[J)I" } : Jvm.MethodName)), (Jvm.Cond.static ({ cls := "TypeAtNightLaw", name := "sort", desc := "(LTypeAtNight;II[J)I" } : Jvm.MethodName)), (Jvm.Cond.codeWith ({ cls := "TypeAtNightLaw", name := "sort", desc := "(LTypeAtNight;II[J)I" } : Jvm.MethodName) method_3_code (5 : Nat) (Option.some Jvm.ClassFile.FieldType.int) [((0 : Nat), (10 : Nat), (13 : Nat), (13 : Nat))]), (Jvm.Cond.classLink "TypeAtNightLaw" (13 : Nat) "java/util/NoSuchElementException"), (Jvm.Cond.methodLink "TypeAtNightLaw" (7 : Nat) ({ cls := "TypeAtNight", name := "sort", desc := "(II)I" } : Jvm.MethodName)), (Jvm.Cond.instanceMethod ({ cls := "TypeAtNight", name := "sort", desc := "(II)I" } : Jvm.MethodName)), (Jvm.Cond.selects "TypeAtNight" ({ cls := "TypeAtNight", name := "sort", desc := "(II)I" } : Jvm.MethodName) ({ cls := "TypeAtNight", name := "sort", desc := "(II)I" } : Jvm.MethodName)), (Jvm.Cond.code ({ cls := "TypeAtNight", name := "sort", desc := "(II)I" } : Jvm.MethodName) prog_1_method_6_code (3 : Nat) (Option.some Jvm.ClassFile.FieldType.int)), (Jvm.Cond.classLink "TypeAtNight" (127 : Nat) "java/util/NoSuchElementException"), (Jvm.Cond.instantiable "java/util/NoSuchElementException" (6 : Nat)), (Jvm.Cond.castable "java/util/NoSuchElementException" "java/util/NoSuchElementException"), (Jvm.Cond.declares ({ cls := "java/lang/RuntimeException", name := "<init>", desc := "()V" } : Jvm.MethodName)), (Jvm.Cond.declares ({ cls := "java/lang/RuntimeException", name := "<init>", desc := "(Ljava/lang/String;)V" } : Jvm.MethodName)), (Jvm.Cond.declares ({ cls := "java/lang/Exception", name := "<init>", desc := "()V" } : Jvm.MethodName)), (Jvm.Cond.declares ({ cls := "java/lang/Exception", name := "<init>", desc := "(Ljava/lang/String;)V" } : Jvm.MethodName)), (Jvm.Cond.declares ({ cls := "java/lang/Throwable", name := "<init>", desc := "()V" } : Jvm.MethodName))]
def cw5_12 : List Cond := [(Jvm.Cond.declares ({ cls := "java/lang/Throwable", name := "<init>", desc := "(Ljava/lang/String;)V" } : Jvm.MethodName)), (Jvm.Cond.selects "java/util/NoSuchElementException" ({ cls := "java/lang/Throwable", name := "fillInStackTrace", desc := "(I)Ljava/lang/Throwable;" } : Jvm.MethodName) ({ cls := "java/lang/Throwable", name := "fillInStackTrace", desc := "(I)Ljava/lang/Throwable;" } : Jvm.MethodName)), (Jvm.Cond.selects "java/util/NoSuchElementException" ({ cls := "java/lang/Throwable", name := "fillInStackTrace", desc := "()Ljava/lang/Throwable;" } : Jvm.MethodName) ({ cls := "java/lang/Throwable", name := "fillInStackTrace", desc := "()Ljava/lang/Throwable;" } : Jvm.MethodName)), (Jvm.Cond.lays "java/util/NoSuchElementException" "java/lang/Throwable" "cause" "Ljava/lang/Throwable;"), (Jvm.Cond.lays "java/lang/Throwable" "java/lang/Throwable" "cause" "Ljava/lang/Throwable;"), (Jvm.Cond.lays "java/util/NoSuchElementException" "java/lang/Throwable" "stackTrace" "[Ljava/lang/StackTraceElement;"), (Jvm.Cond.lays "java/lang/Throwable" "java/lang/Throwable" "stackTrace" "[Ljava/lang/StackTraceElement;"), (Jvm.Cond.lays "java/util/NoSuchElementException" "java/lang/Throwable" "suppressedExceptions" "Ljava/util/List;"), (Jvm.Cond.lays "java/lang/Throwable" "java/lang/Throwable" "suppressedExceptions" "Ljava/util/List;"), (Jvm.Cond.lays "java/util/NoSuchElementException" "java/lang/Throwable" "detailMessage" "Ljava/lang/String;"), (Jvm.Cond.lays "java/lang/Throwable" "java/lang/Throwable" "detailMessage" "Ljava/lang/String;"), (Jvm.Cond.lays "java/util/NoSuchElementException" "java/lang/Throwable" "backtrace" "Ljava/lang/Object;"), (Jvm.Cond.lays "java/lang/Throwable" "java/lang/Throwable" "backtrace" "Ljava/lang/Object;"), (Jvm.Cond.fieldLink "java/lang/Throwable" (198 : Nat) "java/lang/Throwable" "backtrace" "Ljava/lang/Object;"), (Jvm.Cond.superclass "java/lang/Throwable" "java/lang/Object"), (Jvm.Cond.instanceMethod ({ cls := "java/lang/Throwable", name := "<init>", desc := "()V" } : Jvm.MethodName))]
def cw5_13 : List Cond := [(Jvm.Cond.code ({ cls := "java/lang/Throwable", name := "<init>", desc := "()V" } : Jvm.MethodName) prog_29_method_1_code (1 : Nat) (Option.none : Option Jvm.ClassFile.FieldType)), (Jvm.Cond.methodLink "java/lang/Throwable" (1 : Nat) ({ cls := "java/lang/Object", name := "<init>", desc := "()V" } : Jvm.MethodName)), (Jvm.Cond.fieldLink "java/lang/Throwable" (13 : Nat) "java/lang/Throwable" "UNASSIGNED_STACK" "[Ljava/lang/StackTraceElement;"), (Jvm.Cond.laysStatic "java/lang/Throwable" "UNASSIGNED_STACK" "[Ljava/lang/StackTraceElement;"), (Jvm.Cond.fieldLink "java/lang/Throwable" (20 : Nat) "java/lang/Throwable" "SUPPRESSED_SENTINEL" "Ljava/util/List;"), (Jvm.Cond.laysStatic "java/lang/Throwable" "SUPPRESSED_SENTINEL" "Ljava/util/List;"), (Jvm.Cond.methodLink "java/lang/Throwable" (27 : Nat) ({ cls := "java/lang/Throwable", name := "fillInStackTrace", desc := "()Ljava/lang/Throwable;" } : Jvm.MethodName)), (Jvm.Cond.instanceMethod ({ cls := "java/lang/Throwable", name := "fillInStackTrace", desc := "()Ljava/lang/Throwable;" } : Jvm.MethodName)), (Jvm.Cond.sameMethod "java/lang/Throwable" "java/lang/Throwable" "fillInStackTrace" "()Ljava/lang/Throwable;"), (Jvm.Cond.codeSync ({ cls := "java/lang/Throwable", name := "fillInStackTrace", desc := "()Ljava/lang/Throwable;" } : Jvm.MethodName) prog_29_method_18_code (1 : Nat) (Option.some (Jvm.ClassFile.FieldType.object "java/lang/Throwable"))), (Jvm.Cond.methodLink "java/lang/Throwable" (202 : Nat) ({ cls := "java/lang/Throwable", name := "fillInStackTrace", desc := "(I)Ljava/lang/Throwable;" } : Jvm.MethodName)), (Jvm.Cond.privateMethod ({ cls := "java/lang/Throwable", name := "fillInStackTrace", desc := "(I)Ljava/lang/Throwable;" } : Jvm.MethodName)), (Jvm.Cond.instanceMethod ({ cls := "java/lang/Throwable", name := "fillInStackTrace", desc := "(I)Ljava/lang/Throwable;" } : Jvm.MethodName)), (Jvm.Cond.instantiable "java/lang/Throwable" (6 : Nat)), (Jvm.Cond.native ({ cls := "java/lang/Throwable", name := "fillInStackTrace", desc := "(I)Ljava/lang/Throwable;" } : Jvm.MethodName)), (Jvm.Cond.stringRef "TypeAtNight" (129 : Nat) "no such sort")]
def cw5_14 : List Cond := [(Jvm.Cond.methodLink "TypeAtNight" (131 : Nat) ({ cls := "java/util/NoSuchElementException", name := "<init>", desc := "(Ljava/lang/String;)V" } : Jvm.MethodName)), (Jvm.Cond.instanceMethod ({ cls := "java/util/NoSuchElementException", name := "<init>", desc := "(Ljava/lang/String;)V" } : Jvm.MethodName)), (Jvm.Cond.code ({ cls := "java/util/NoSuchElementException", name := "<init>", desc := "(Ljava/lang/String;)V" } : Jvm.MethodName) prog_33_method_4_code (2 : Nat) (Option.none : Option Jvm.ClassFile.FieldType)), (Jvm.Cond.methodLink "java/util/NoSuchElementException" (13 : Nat) ({ cls := "java/lang/RuntimeException", name := "<init>", desc := "(Ljava/lang/String;)V" } : Jvm.MethodName)), (Jvm.Cond.instanceMethod ({ cls := "java/lang/RuntimeException", name := "<init>", desc := "(Ljava/lang/String;)V" } : Jvm.MethodName)), (Jvm.Cond.code ({ cls := "java/lang/RuntimeException", name := "<init>", desc := "(Ljava/lang/String;)V" } : Jvm.MethodName) prog_24_method_2_code (2 : Nat) (Option.none : Option Jvm.ClassFile.FieldType)), (Jvm.Cond.methodLink "java/lang/RuntimeException" (7 : Nat) ({ cls := "java/lang/Exception", name := "<init>", desc := "(Ljava/lang/String;)V" } : Jvm.MethodName)), (Jvm.Cond.instanceMethod ({ cls := "java/lang/Exception", name := "<init>", desc := "(Ljava/lang/String;)V" } : Jvm.MethodName)), (Jvm.Cond.code ({ cls := "java/lang/Exception", name := "<init>", desc := "(Ljava/lang/String;)V" } : Jvm.MethodName) prog_19_method_2_code (2 : Nat) (Option.none : Option Jvm.ClassFile.FieldType)), (Jvm.Cond.methodLink "java/lang/Exception" (7 : Nat) ({ cls := "java/lang/Throwable", name := "<init>", desc := "(Ljava/lang/String;)V" } : Jvm.MethodName)), (Jvm.Cond.instanceMethod ({ cls := "java/lang/Throwable", name := "<init>", desc := "(Ljava/lang/String;)V" } : Jvm.MethodName)), (Jvm.Cond.code ({ cls := "java/lang/Throwable", name := "<init>", desc := "(Ljava/lang/String;)V" } : Jvm.MethodName) prog_29_method_2_code (2 : Nat) (Option.none : Option Jvm.ClassFile.FieldType)), (Jvm.Cond.fieldLink "java/lang/Throwable" (198 : Nat) "java/lang/Throwable" "backtrace" "Ljava/lang/Object;"), (Jvm.Cond.fieldLink "java/lang/Throwable" (31 : Nat) "java/lang/Throwable" "detailMessage" "Ljava/lang/String;"), (Jvm.Cond.fieldLink "java/lang/Throwable" (7 : Nat) "java/lang/Throwable" "cause" "Ljava/lang/Throwable;"), (Jvm.Cond.fieldLink "java/lang/Throwable" (17 : Nat) "java/lang/Throwable" "stackTrace" "[Ljava/lang/StackTraceElement;")]
set_option maxRecDepth 100000 in
theorem ce_5 : tables_1_5 = cw5_0 ++ (cw5_1 ++ (cw5_2 ++ (cw5_3 ++ (cw5_4 ++ (cw5_5 ++ (cw5_6 ++ (cw5_7 ++ (cw5_8 ++ (cw5_9 ++ (cw5_10 ++ (cw5_11 ++ (cw5_12 ++ (cw5_13 ++ (cw5_14)))))))))))))) := rfl
theorem ct_5 {w : Cond} (h : w ∈ tables_1_5) : w ∈ lw_tbl := by
  refine List.mem_append_right _ ?_
  unfold tables_1
  simp only [List.mem_append]
  exact Or.inr (Or.inr (Or.inr (Or.inr (Or.inl h))))
theorem gm_w5_0 {w : Cond} (h : w ∈ cw5_0) (hg : goodWord w = true) : w ∈ g_tbl := g_mw (ct_5 (by rw [ce_5]; exact List.mem_append_left _ h)) hg
theorem gm_w5_1 {w : Cond} (h : w ∈ cw5_1) (hg : goodWord w = true) : w ∈ g_tbl := g_mw (ct_5 (by rw [ce_5]; exact List.mem_append_right _ (List.mem_append_left _ h))) hg
theorem gm_w5_2 {w : Cond} (h : w ∈ cw5_2) (hg : goodWord w = true) : w ∈ g_tbl := g_mw (ct_5 (by rw [ce_5]; exact List.mem_append_right _ (List.mem_append_right _ (List.mem_append_left _ h)))) hg
theorem gm_w5_3 {w : Cond} (h : w ∈ cw5_3) (hg : goodWord w = true) : w ∈ g_tbl := g_mw (ct_5 (by rw [ce_5]; exact List.mem_append_right _ (List.mem_append_right _ (List.mem_append_right _ (List.mem_append_left _ h))))) hg
theorem gm_w5_4 {w : Cond} (h : w ∈ cw5_4) (hg : goodWord w = true) : w ∈ g_tbl := g_mw (ct_5 (by rw [ce_5]; exact List.mem_append_right _ (List.mem_append_right _ (List.mem_append_right _ (List.mem_append_right _ (List.mem_append_left _ h)))))) hg
theorem gm_w5_5 {w : Cond} (h : w ∈ cw5_5) (hg : goodWord w = true) : w ∈ g_tbl := g_mw (ct_5 (by rw [ce_5]; exact List.mem_append_right _ (List.mem_append_right _ (List.mem_append_right _ (List.mem_append_right _ (List.mem_append_right _ (List.mem_append_left _ h))))))) hg
theorem gm_w5_6 {w : Cond} (h : w ∈ cw5_6) (hg : goodWord w = true) : w ∈ g_tbl := g_mw (ct_5 (by rw [ce_5]; exact List.mem_append_right _ (List.mem_append_right _ (List.mem_append_right _ (List.mem_append_right _ (List.mem_append_right _ (List.mem_append_right _ (List.mem_append_left _ h)))))))) hg
theorem gm_w5_7 {w : Cond} (h : w ∈ cw5_7) (hg : goodWord w = true) : w ∈ g_tbl := g_mw (ct_5 (by rw [ce_5]; exact List.mem_append_right _ (List.mem_append_right _ (List.mem_append_right _ (List.mem_append_right _ (List.mem_append_right _ (List.mem_append_right _ (List.mem_append_right _ (List.mem_append_left _ h))))))))) hg
theorem gm_w5_8 {w : Cond} (h : w ∈ cw5_8) (hg : goodWord w = true) : w ∈ g_tbl := g_mw (ct_5 (by rw [ce_5]; exact List.mem_append_right _ (List.mem_append_right _ (List.mem_append_right _ (List.mem_append_right _ (List.mem_append_right _ (List.mem_append_right _ (List.mem_append_right _ (List.mem_append_right _ (List.mem_append_left _ h)))))))))) hg
theorem gm_w5_9 {w : Cond} (h : w ∈ cw5_9) (hg : goodWord w = true) : w ∈ g_tbl := g_mw (ct_5 (by rw [ce_5]; exact List.mem_append_right _ (List.mem_append_right _ (List.mem_append_right _ (List.mem_append_right _ (List.mem_append_right _ (List.mem_append_right _ (List.mem_append_right _ (List.mem_append_right _ (List.mem_append_right _ (List.mem_append_left _ h))))))))))) hg
theorem gm_w5_10 {w : Cond} (h : w ∈ cw5_10) (hg : goodWord w = true) : w ∈ g_tbl := g_mw (ct_5 (by rw [ce_5]; exact List.mem_append_right _ (List.mem_append_right _ (List.mem_append_right _ (List.mem_append_right _ (List.mem_append_right _ (List.mem_append_right _ (List.mem_append_right _ (List.mem_append_right _ (List.mem_append_right _ (List.mem_append_right _ (List.mem_append_left _ h)))))))))))) hg
theorem gm_w5_11 {w : Cond} (h : w ∈ cw5_11) (hg : goodWord w = true) : w ∈ g_tbl := g_mw (ct_5 (by rw [ce_5]; exact List.mem_append_right _ (List.mem_append_right _ (List.mem_append_right _ (List.mem_append_right _ (List.mem_append_right _ (List.mem_append_right _ (List.mem_append_right _ (List.mem_append_right _ (List.mem_append_right _ (List.mem_append_right _ (List.mem_append_right _ (List.mem_append_left _ h))))))))))))) hg
theorem gm_w5_12 {w : Cond} (h : w ∈ cw5_12) (hg : goodWord w = true) : w ∈ g_tbl := g_mw (ct_5 (by rw [ce_5]; exact List.mem_append_right _ (List.mem_append_right _ (List.mem_append_right _ (List.mem_append_right _ (List.mem_append_right _ (List.mem_append_right _ (List.mem_append_right _ (List.mem_append_right _ (List.mem_append_right _ (List.mem_append_right _ (List.mem_append_right _ (List.mem_append_right _ (List.mem_append_left _ h)))))))))))))) hg
theorem gm_w5_13 {w : Cond} (h : w ∈ cw5_13) (hg : goodWord w = true) : w ∈ g_tbl := g_mw (ct_5 (by rw [ce_5]; exact List.mem_append_right _ (List.mem_append_right _ (List.mem_append_right _ (List.mem_append_right _ (List.mem_append_right _ (List.mem_append_right _ (List.mem_append_right _ (List.mem_append_right _ (List.mem_append_right _ (List.mem_append_right _ (List.mem_append_right _ (List.mem_append_right _ (List.mem_append_right _ (List.mem_append_left _ h))))))))))))))) hg
theorem gm_w5_14 {w : Cond} (h : w ∈ cw5_14) (hg : goodWord w = true) : w ∈ g_tbl := g_mw (ct_5 (by rw [ce_5]; exact List.mem_append_right _ (List.mem_append_right _ (List.mem_append_right _ (List.mem_append_right _ (List.mem_append_right _ (List.mem_append_right _ (List.mem_append_right _ (List.mem_append_right _ (List.mem_append_right _ (List.mem_append_right _ (List.mem_append_right _ (List.mem_append_right _ (List.mem_append_right _ (List.mem_append_right _ (h)))))))))))))))) hg
def cw6_0 : List Cond := [(Jvm.Cond.fieldLink "java/lang/Throwable" (24 : Nat) "java/lang/Throwable" "suppressedExceptions" "Ljava/util/List;"), (Jvm.Cond.soleField "java/lang/Throwable" "backtrace"), (Jvm.Cond.soleField "java/lang/Throwable" "detailMessage"), (Jvm.Cond.soleField "java/lang/Throwable" "cause"), (Jvm.Cond.soleField "java/lang/Throwable" "stackTrace"), (Jvm.Cond.lays "java/util/NoSuchElementException" "java/lang/Throwable" "depth" "I"), (Jvm.Cond.soleField "java/lang/Throwable" "depth"), (Jvm.Cond.soleField "java/lang/Throwable" "suppressedExceptions"), (Jvm.Cond.superclass "java/util/NoSuchElementException" "java/lang/RuntimeException"), (Jvm.Cond.methodLink "TypeAtNight" (151 : Nat) ({ cls := "TypeAtNight$TypeCase", name := "turnNow", desc := "(LTypeAtNight$Rule;I)I" } : Jvm.MethodName)), (Jvm.Cond.instanceMethod ({ cls := "TypeAtNight$TypeCase", name := "turnNow", desc := "(LTypeAtNight$Rule;I)I" } : Jvm.MethodName)), (Jvm.Cond.selects "TypeAtNight$TypeCase" ({ cls := "TypeAtNight$TypeCase", name := "turnNow", desc := "(LTypeAtNight$Rule;I)I" } : Jvm.MethodName) ({ cls := "TypeAtNight$TypeCase", name := "turnNow", desc := "(LTypeAtNight$Rule;I)I" } : Jvm.MethodName)), (Jvm.Cond.code ({ cls := "TypeAtNight$TypeCase", name := "turnNow", desc := "(LTypeAtNight$Rule;I)I" } : Jvm.MethodName) prog_11_method_28_code (3 : Nat) (Option.some Jvm.ClassFile.FieldType.int)), (Jvm.Cond.stringRef "TypeAtNight" (155 : Nat) "no such thing of a sort"), (Jvm.Cond.methodLink "TypeAtNightLaw" (54 : Nat) ({ cls := "TypeAtNightLaw", name := "box", desc := "(LTypeAtNight;II[J)I" } : Jvm.MethodName)), (Jvm.Cond.static ({ cls := "TypeAtNightLaw", name := "box", desc := "(LTypeAtNight;II[J)I" } : Jvm.MethodName))]
def cw6_1 : List Cond := [(Jvm.Cond.codeWith ({ cls := "TypeAtNightLaw", name := "box", desc := "(LTypeAtNight;II[J)I" } : Jvm.MethodName) method_4_code (5 : Nat) (Option.some Jvm.ClassFile.FieldType.int) [((0 : Nat), (10 : Nat), (13 : Nat), (13 : Nat))]), (Jvm.Cond.methodLink "TypeAtNightLaw" (15 : Nat) ({ cls := "TypeAtNight", name := "box", desc := "(II)I" } : Jvm.MethodName)), (Jvm.Cond.instanceMethod ({ cls := "TypeAtNight", name := "box", desc := "(II)I" } : Jvm.MethodName)), (Jvm.Cond.selects "TypeAtNight" ({ cls := "TypeAtNight", name := "box", desc := "(II)I" } : Jvm.MethodName) ({ cls := "TypeAtNight", name := "box", desc := "(II)I" } : Jvm.MethodName)), (Jvm.Cond.code ({ cls := "TypeAtNight", name := "box", desc := "(II)I" } : Jvm.MethodName) prog_1_method_7_code (3 : Nat) (Option.some Jvm.ClassFile.FieldType.int)), (Jvm.Cond.methodLink "TypeAtNight" (157 : Nat) ({ cls := "TypeAtNight", name := "isBox", desc := "(I)Z" } : Jvm.MethodName)), (Jvm.Cond.stringRef "TypeAtNight" (160 : Nat) "no such box"), (Jvm.Cond.stringRef "TypeAtNight" (168 : Nat) "no such thing of a box"), (Jvm.Cond.methodLink "TypeAtNightLaw" (215 : Nat) ({ cls := "TypeAtNightLaw", name := "row", desc := "(LTypeAtNight;I[J)I" } : Jvm.MethodName)), (Jvm.Cond.static ({ cls := "TypeAtNightLaw", name := "row", desc := "(LTypeAtNight;I[J)I" } : Jvm.MethodName)), (Jvm.Cond.codeWith ({ cls := "TypeAtNightLaw", name := "row", desc := "(LTypeAtNight;I[J)I" } : Jvm.MethodName) method_5_code (4 : Nat) (Option.some Jvm.ClassFile.FieldType.int) [((0 : Nat), (8 : Nat), (11 : Nat), (13 : Nat))]), (Jvm.Cond.methodLink "TypeAtNightLaw" (18 : Nat) ({ cls := "TypeAtNight", name := "row", desc := "(I)J" } : Jvm.MethodName)), (Jvm.Cond.instanceMethod ({ cls := "TypeAtNight", name := "row", desc := "(I)J" } : Jvm.MethodName)), (Jvm.Cond.selects "TypeAtNight" ({ cls := "TypeAtNight", name := "row", desc := "(I)J" } : Jvm.MethodName) ({ cls := "TypeAtNight", name := "row", desc := "(I)J" } : Jvm.MethodName)), (Jvm.Cond.code ({ cls := "TypeAtNight", name := "row", desc := "(I)J" } : Jvm.MethodName) prog_1_method_47_code (2 : Nat) (Option.some Jvm.ClassFile.FieldType.long)), (Jvm.Cond.methodLink "TypeAtNight" (401 : Nat) ({ cls := "TypeAtNight$Numbers", name := "has", desc := "(I)Z" } : Jvm.MethodName))]
def cw6_2 : List Cond := [(Jvm.Cond.instanceMethod ({ cls := "TypeAtNight$Numbers", name := "has", desc := "(I)Z" } : Jvm.MethodName)), (Jvm.Cond.selects "TypeAtNight$Numbers" ({ cls := "TypeAtNight$Numbers", name := "has", desc := "(I)Z" } : Jvm.MethodName) ({ cls := "TypeAtNight$Numbers", name := "has", desc := "(I)Z" } : Jvm.MethodName)), (Jvm.Cond.code ({ cls := "TypeAtNight$Numbers", name := "has", desc := "(I)Z" } : Jvm.MethodName) prog_7_method_8_code (2 : Nat) (Option.some Jvm.ClassFile.FieldType.boolean)), (Jvm.Cond.stringRef "TypeAtNight" (402 : Nat) "no such number of the row"), (Jvm.Cond.methodLink "TypeAtNight" (404 : Nat) ({ cls := "TypeAtNight$Numbers", name := "at", desc := "(I)J" } : Jvm.MethodName)), (Jvm.Cond.instanceMethod ({ cls := "TypeAtNight$Numbers", name := "at", desc := "(I)J" } : Jvm.MethodName)), (Jvm.Cond.selects "TypeAtNight$Numbers" ({ cls := "TypeAtNight$Numbers", name := "at", desc := "(I)J" } : Jvm.MethodName) ({ cls := "TypeAtNight$Numbers", name := "at", desc := "(I)J" } : Jvm.MethodName)), (Jvm.Cond.code ({ cls := "TypeAtNight$Numbers", name := "at", desc := "(I)J" } : Jvm.MethodName) prog_7_method_9_code (2 : Nat) (Option.some Jvm.ClassFile.FieldType.long)), (Jvm.Cond.methodLink "TypeAtNight$Numbers" (32 : Nat) ({ cls := "TypeAtNight$Numbers", name := "has", desc := "(I)Z" } : Jvm.MethodName)), (Jvm.Cond.classLink "TypeAtNightLaw" (23 : Nat) "TypeAtNightModel"), (Jvm.Cond.instantiable "TypeAtNightModel" (47 : Nat)), (Jvm.Cond.methodLink "TypeAtNightLaw" (25 : Nat) ({ cls := "TypeAtNightModel", name := "<init>", desc := "()V" } : Jvm.MethodName)), (Jvm.Cond.instanceMethod ({ cls := "TypeAtNightModel", name := "<init>", desc := "()V" } : Jvm.MethodName)), (Jvm.Cond.code ({ cls := "TypeAtNightModel", name := "<init>", desc := "()V" } : Jvm.MethodName) prog_14_method_1_code (1 : Nat) (Option.none : Option Jvm.ClassFile.FieldType)), (Jvm.Cond.methodLink "TypeAtNightModel" (3 : Nat) ({ cls := "java/lang/Object", name := "<init>", desc := "()V" } : Jvm.MethodName)), (Jvm.Cond.fieldLink "TypeAtNightModel" (9 : Nat) "TypeAtNightModel" "now" "[I")]
def cw6_3 : List Cond := [(Jvm.Cond.fieldLink "TypeAtNightModel" (116 : Nat) "TypeAtNightModel" "sorts" "I"), (Jvm.Cond.fieldLink "TypeAtNightModel" (13 : Nat) "TypeAtNightModel" "letter" "[I"), (Jvm.Cond.fieldLink "TypeAtNightModel" (16 : Nat) "TypeAtNightModel" "text" "[B"), (Jvm.Cond.fieldLink "TypeAtNightModel" (123 : Nat) "TypeAtNightModel" "typed" "I"), (Jvm.Cond.fieldLink "TypeAtNightModel" (20 : Nat) "TypeAtNightModel" "row" "[J"), (Jvm.Cond.fieldLink "TypeAtNightModel" (113 : Nat) "TypeAtNightModel" "rowMany" "I"), (Jvm.Cond.fieldLink "TypeAtNightModel" (100 : Nat) "TypeAtNightModel" "thrown" "I"), (Jvm.Cond.fieldLink "TypeAtNightModel" (126 : Nat) "TypeAtNightModel" "read" "[B"), (Jvm.Cond.fieldLink "TypeAtNightModel" (129 : Nat) "TypeAtNightModel" "length" "I"), (Jvm.Cond.fieldLink "TypeAtNightModel" (132 : Nat) "TypeAtNightModel" "top" "I"), (Jvm.Cond.fieldLink "TypeAtNightModel" (135 : Nat) "TypeAtNightModel" "at" "I"), (Jvm.Cond.fieldLink "TypeAtNightModel" (138 : Nat) "TypeAtNightModel" "wrong" "I"), (Jvm.Cond.fieldLink "TypeAtNightModel" (24 : Nat) "TypeAtNightModel" "aheadOf" "[I"), (Jvm.Cond.fieldLink "TypeAtNightModel" (27 : Nat) "TypeAtNightModel" "rule" "[B"), (Jvm.Cond.fieldLink "TypeAtNightModel" (30 : Nat) "TypeAtNightModel" "otherRule" "[B"), (Jvm.Cond.fieldLink "TypeAtNightModel" (209 : Nat) "TypeAtNightModel" "ruleSize" "I")]
def cw6_4 : List Cond := [(Jvm.Cond.fieldLink "TypeAtNightModel" (202 : Nat) "TypeAtNightModel" "isAsked" "Z"), (Jvm.Cond.fieldLink "TypeAtNightModel" (33 : Nat) "TypeAtNightModel" "asked" "[I"), (Jvm.Cond.fieldLink "TypeAtNightModel" (36 : Nat) "TypeAtNightModel" "undos" "[I"), (Jvm.Cond.fieldLink "TypeAtNightModel" (174 : Nat) "TypeAtNightModel" "undoMany" "I"), (Jvm.Cond.fieldLink "TypeAtNightModel" (39 : Nat) "TypeAtNightModel" "aside" "[I"), (Jvm.Cond.fieldLink "TypeAtNightModel" (42 : Nat) "TypeAtNightModel" "then" "[I"), (Jvm.Cond.fieldLink "TypeAtNightModel" (45 : Nat) "TypeAtNightModel" "line" "[I"), (Jvm.Cond.fieldLink "TypeAtNightModel" (243 : Nat) "TypeAtNightModel" "lineMany" "I"), (Jvm.Cond.fieldLink "TypeAtNightModel" (48 : Nat) "TypeAtNightModel" "need" "[I"), (Jvm.Cond.fieldLink "TypeAtNightModel" (51 : Nat) "TypeAtNightModel" "acts" "[I"), (Jvm.Cond.fieldLink "TypeAtNightModel" (54 : Nat) "TypeAtNightModel" "letters" "[I"), (Jvm.Cond.fieldLink "TypeAtNightModel" (293 : Nat) "TypeAtNightModel" "lettersMany" "I"), (Jvm.Cond.fieldLink "TypeAtNightModel" (57 : Nat) "TypeAtNightModel" "worded" "[I"), (Jvm.Cond.fieldLink "TypeAtNightModel" (60 : Nat) "TypeAtNightModel" "trail" "[I"), (Jvm.Cond.fieldLink "TypeAtNightModel" (63 : Nat) "TypeAtNightModel" "foes" "[I"), (Jvm.Cond.fieldLink "TypeAtNightModel" (66 : Nat) "TypeAtNightModel" "boxed" "[I")]
def cw6_5 : List Cond := [(Jvm.Cond.fieldLink "TypeAtNightModel" (69 : Nat) "TypeAtNightModel" "heardOf" "[I"), (Jvm.Cond.fieldLink "TypeAtNightModel" (72 : Nat) "TypeAtNightModel" "heardBy" "[I"), (Jvm.Cond.fieldLink "TypeAtNightModel" (342 : Nat) "TypeAtNightModel" "heardMany" "I"), (Jvm.Cond.fieldLink "TypeAtNightModel" (75 : Nat) "TypeAtNightModel" "sawOf" "[I"), (Jvm.Cond.fieldLink "TypeAtNightModel" (78 : Nat) "TypeAtNightModel" "sawBeside" "[I"), (Jvm.Cond.fieldLink "TypeAtNightModel" (81 : Nat) "TypeAtNightModel" "sawAs" "[I"), (Jvm.Cond.fieldLink "TypeAtNightModel" (354 : Nat) "TypeAtNightModel" "sawMany" "I"), (Jvm.Cond.fieldLink "TypeAtNightModel" (84 : Nat) "TypeAtNightModel" "many" "[I"), (Jvm.Cond.fieldLink "TypeAtNightModel" (87 : Nat) "TypeAtNightModel" "worth" "[I"), (Jvm.Cond.fieldLink "TypeAtNightModel" (391 : Nat) "TypeAtNightModel" "drawn" "I"), (Jvm.Cond.fieldLink "TypeAtNightModel" (177 : Nat) "TypeAtNightModel" "came" "I"), (Jvm.Cond.fieldLink "TypeAtNightModel" (90 : Nat) "TypeAtNightModel" "kept" "[I"), (Jvm.Cond.fieldLink "TypeAtNightModel" (93 : Nat) "TypeAtNightModel" "isKept" "[Z"), (Jvm.Cond.fieldLink "TypeAtNightModel" (97 : Nat) "TypeAtNightModel" "keptCame" "[I"), (Jvm.Cond.laysFinal "TypeAtNightModel" "TypeAtNightModel" "now" "[I"), (Jvm.Cond.soleField "TypeAtNightModel" "now")]
def cw6_6 : List Cond := [(Jvm.Cond.lays "TypeAtNightModel" "TypeAtNightModel" "sorts" "I"), (Jvm.Cond.soleField "TypeAtNightModel" "sorts"), (Jvm.Cond.laysFinal "TypeAtNightModel" "TypeAtNightModel" "letter" "[I"), (Jvm.Cond.soleField "TypeAtNightModel" "letter"), (Jvm.Cond.laysFinal "TypeAtNightModel" "TypeAtNightModel" "text" "[B"), (Jvm.Cond.soleField "TypeAtNightModel" "text"), (Jvm.Cond.lays "TypeAtNightModel" "TypeAtNightModel" "typed" "I"), (Jvm.Cond.soleField "TypeAtNightModel" "typed"), (Jvm.Cond.laysFinal "TypeAtNightModel" "TypeAtNightModel" "row" "[J"), (Jvm.Cond.soleField "TypeAtNightModel" "row"), (Jvm.Cond.lays "TypeAtNightModel" "TypeAtNightModel" "rowMany" "I"), (Jvm.Cond.soleField "TypeAtNightModel" "rowMany"), (Jvm.Cond.lays "TypeAtNightModel" "TypeAtNightModel" "thrown" "I"), (Jvm.Cond.soleField "TypeAtNightModel" "thrown"), (Jvm.Cond.lays "TypeAtNightModel" "TypeAtNightModel" "read" "[B"), (Jvm.Cond.soleField "TypeAtNightModel" "read")]
def cw6_7 : List Cond := [(Jvm.Cond.lays "TypeAtNightModel" "TypeAtNightModel" "length" "I"), (Jvm.Cond.soleField "TypeAtNightModel" "length"), (Jvm.Cond.lays "TypeAtNightModel" "TypeAtNightModel" "top" "I"), (Jvm.Cond.soleField "TypeAtNightModel" "top"), (Jvm.Cond.lays "TypeAtNightModel" "TypeAtNightModel" "at" "I"), (Jvm.Cond.soleField "TypeAtNightModel" "at"), (Jvm.Cond.lays "TypeAtNightModel" "TypeAtNightModel" "wrong" "I"), (Jvm.Cond.soleField "TypeAtNightModel" "wrong"), (Jvm.Cond.laysFinal "TypeAtNightModel" "TypeAtNightModel" "aheadOf" "[I"), (Jvm.Cond.soleField "TypeAtNightModel" "aheadOf"), (Jvm.Cond.lays "TypeAtNightModel" "TypeAtNightModel" "rule" "[B"), (Jvm.Cond.soleField "TypeAtNightModel" "rule"), (Jvm.Cond.lays "TypeAtNightModel" "TypeAtNightModel" "otherRule" "[B"), (Jvm.Cond.soleField "TypeAtNightModel" "otherRule"), (Jvm.Cond.lays "TypeAtNightModel" "TypeAtNightModel" "ruleSize" "I"), (Jvm.Cond.soleField "TypeAtNightModel" "ruleSize")]
def cw6_8 : List Cond := [(Jvm.Cond.lays "TypeAtNightModel" "TypeAtNightModel" "isAsked" "Z"), (Jvm.Cond.soleField "TypeAtNightModel" "isAsked"), (Jvm.Cond.laysFinal "TypeAtNightModel" "TypeAtNightModel" "asked" "[I"), (Jvm.Cond.soleField "TypeAtNightModel" "asked"), (Jvm.Cond.laysFinal "TypeAtNightModel" "TypeAtNightModel" "undos" "[I"), (Jvm.Cond.soleField "TypeAtNightModel" "undos"), (Jvm.Cond.lays "TypeAtNightModel" "TypeAtNightModel" "undoMany" "I"), (Jvm.Cond.soleField "TypeAtNightModel" "undoMany"), (Jvm.Cond.laysFinal "TypeAtNightModel" "TypeAtNightModel" "aside" "[I"), (Jvm.Cond.soleField "TypeAtNightModel" "aside"), (Jvm.Cond.laysFinal "TypeAtNightModel" "TypeAtNightModel" "then" "[I"), (Jvm.Cond.soleField "TypeAtNightModel" "then"), (Jvm.Cond.laysFinal "TypeAtNightModel" "TypeAtNightModel" "line" "[I"), (Jvm.Cond.soleField "TypeAtNightModel" "line"), (Jvm.Cond.lays "TypeAtNightModel" "TypeAtNightModel" "lineMany" "I"), (Jvm.Cond.soleField "TypeAtNightModel" "lineMany")]
def cw6_9 : List Cond := [(Jvm.Cond.laysFinal "TypeAtNightModel" "TypeAtNightModel" "need" "[I"), (Jvm.Cond.soleField "TypeAtNightModel" "need"), (Jvm.Cond.laysFinal "TypeAtNightModel" "TypeAtNightModel" "acts" "[I"), (Jvm.Cond.soleField "TypeAtNightModel" "acts"), (Jvm.Cond.laysFinal "TypeAtNightModel" "TypeAtNightModel" "letters" "[I"), (Jvm.Cond.soleField "TypeAtNightModel" "letters"), (Jvm.Cond.lays "TypeAtNightModel" "TypeAtNightModel" "lettersMany" "I"), (Jvm.Cond.soleField "TypeAtNightModel" "lettersMany"), (Jvm.Cond.laysFinal "TypeAtNightModel" "TypeAtNightModel" "worded" "[I"), (Jvm.Cond.soleField "TypeAtNightModel" "worded"), (Jvm.Cond.laysFinal "TypeAtNightModel" "TypeAtNightModel" "trail" "[I"), (Jvm.Cond.soleField "TypeAtNightModel" "trail"), (Jvm.Cond.laysFinal "TypeAtNightModel" "TypeAtNightModel" "foes" "[I"), (Jvm.Cond.soleField "TypeAtNightModel" "foes"), (Jvm.Cond.laysFinal "TypeAtNightModel" "TypeAtNightModel" "boxed" "[I"), (Jvm.Cond.soleField "TypeAtNightModel" "boxed")]
def cw6_10 : List Cond := [(Jvm.Cond.laysFinal "TypeAtNightModel" "TypeAtNightModel" "heardOf" "[I"), (Jvm.Cond.soleField "TypeAtNightModel" "heardOf"), (Jvm.Cond.laysFinal "TypeAtNightModel" "TypeAtNightModel" "heardBy" "[I"), (Jvm.Cond.soleField "TypeAtNightModel" "heardBy"), (Jvm.Cond.lays "TypeAtNightModel" "TypeAtNightModel" "heardMany" "I"), (Jvm.Cond.soleField "TypeAtNightModel" "heardMany"), (Jvm.Cond.laysFinal "TypeAtNightModel" "TypeAtNightModel" "sawOf" "[I"), (Jvm.Cond.soleField "TypeAtNightModel" "sawOf"), (Jvm.Cond.laysFinal "TypeAtNightModel" "TypeAtNightModel" "sawBeside" "[I"), (Jvm.Cond.soleField "TypeAtNightModel" "sawBeside"), (Jvm.Cond.laysFinal "TypeAtNightModel" "TypeAtNightModel" "sawAs" "[I"), (Jvm.Cond.soleField "TypeAtNightModel" "sawAs"), (Jvm.Cond.lays "TypeAtNightModel" "TypeAtNightModel" "sawMany" "I"), (Jvm.Cond.soleField "TypeAtNightModel" "sawMany"), (Jvm.Cond.laysFinal "TypeAtNightModel" "TypeAtNightModel" "many" "[I"), (Jvm.Cond.soleField "TypeAtNightModel" "many")]
def cw6_11 : List Cond := [(Jvm.Cond.laysFinal "TypeAtNightModel" "TypeAtNightModel" "worth" "[I"), (Jvm.Cond.soleField "TypeAtNightModel" "worth"), (Jvm.Cond.lays "TypeAtNightModel" "TypeAtNightModel" "drawn" "I"), (Jvm.Cond.soleField "TypeAtNightModel" "drawn"), (Jvm.Cond.lays "TypeAtNightModel" "TypeAtNightModel" "came" "I"), (Jvm.Cond.soleField "TypeAtNightModel" "came"), (Jvm.Cond.laysFinal "TypeAtNightModel" "TypeAtNightModel" "kept" "[I"), (Jvm.Cond.soleField "TypeAtNightModel" "kept"), (Jvm.Cond.laysFinal "TypeAtNightModel" "TypeAtNightModel" "isKept" "[Z"), (Jvm.Cond.soleField "TypeAtNightModel" "isKept"), (Jvm.Cond.laysFinal "TypeAtNightModel" "TypeAtNightModel" "keptCame" "[I"), (Jvm.Cond.soleField "TypeAtNightModel" "keptCame"), (Jvm.Cond.superclass "TypeAtNightModel" "java/lang/Object"), (Jvm.Cond.methodLink "TypeAtNightLaw" (51 : Nat) ({ cls := "TypeAtNightModel", name := "thrown", desc := "()I" } : Jvm.MethodName)), (Jvm.Cond.instanceMethod ({ cls := "TypeAtNightModel", name := "thrown", desc := "()I" } : Jvm.MethodName)), (Jvm.Cond.selects "TypeAtNightModel" ({ cls := "TypeAtNightModel", name := "thrown", desc := "()I" } : Jvm.MethodName) ({ cls := "TypeAtNightModel", name := "thrown", desc := "()I" } : Jvm.MethodName))]
def cw6_12 : List Cond := [(Jvm.Cond.code ({ cls := "TypeAtNightModel", name := "thrown", desc := "()I" } : Jvm.MethodName) prog_14_method_2_code (1 : Nat) (Option.some Jvm.ClassFile.FieldType.int)), (Jvm.Cond.methodLink "TypeAtNightLaw" (30 : Nat) ({ cls := "TypeAtNightModel", name := "sign", desc := "(I)I" } : Jvm.MethodName)), (Jvm.Cond.instanceMethod ({ cls := "TypeAtNightModel", name := "sign", desc := "(I)I" } : Jvm.MethodName)), (Jvm.Cond.selects "TypeAtNightModel" ({ cls := "TypeAtNightModel", name := "sign", desc := "(I)I" } : Jvm.MethodName) ({ cls := "TypeAtNightModel", name := "sign", desc := "(I)I" } : Jvm.MethodName)), (Jvm.Cond.code ({ cls := "TypeAtNightModel", name := "sign", desc := "(I)I" } : Jvm.MethodName) prog_14_method_10_code (3 : Nat) (Option.some Jvm.ClassFile.FieldType.int)), (Jvm.Cond.methodLink "TypeAtNightLaw" (35 : Nat) ({ cls := "TypeAtNightModel", name := "end", desc := "(I)Z" } : Jvm.MethodName)), (Jvm.Cond.instanceMethod ({ cls := "TypeAtNightModel", name := "end", desc := "(I)Z" } : Jvm.MethodName)), (Jvm.Cond.selects "TypeAtNightModel" ({ cls := "TypeAtNightModel", name := "end", desc := "(I)Z" } : Jvm.MethodName) ({ cls := "TypeAtNightModel", name := "end", desc := "(I)Z" } : Jvm.MethodName)), (Jvm.Cond.code ({ cls := "TypeAtNightModel", name := "end", desc := "(I)Z" } : Jvm.MethodName) prog_14_method_11_code (2 : Nat) (Option.some Jvm.ClassFile.FieldType.boolean)), (Jvm.Cond.methodLink "TypeAtNightModel" (119 : Nat) ({ cls := "TypeAtNightModel", name := "in", desc := "(III)Z" } : Jvm.MethodName)), (Jvm.Cond.static ({ cls := "TypeAtNightModel", name := "in", desc := "(III)Z" } : Jvm.MethodName)), (Jvm.Cond.code ({ cls := "TypeAtNightModel", name := "in", desc := "(III)Z" } : Jvm.MethodName) prog_14_method_3_code (3 : Nat) (Option.some Jvm.ClassFile.FieldType.boolean)), (Jvm.Cond.methodLink "TypeAtNightLaw" (40 : Nat) ({ cls := "TypeAtNightModel", name := "sorts", desc := "()I" } : Jvm.MethodName)), (Jvm.Cond.instanceMethod ({ cls := "TypeAtNightModel", name := "sorts", desc := "()I" } : Jvm.MethodName)), (Jvm.Cond.selects "TypeAtNightModel" ({ cls := "TypeAtNightModel", name := "sorts", desc := "()I" } : Jvm.MethodName) ({ cls := "TypeAtNightModel", name := "sorts", desc := "()I" } : Jvm.MethodName)), (Jvm.Cond.code ({ cls := "TypeAtNightModel", name := "sorts", desc := "()I" } : Jvm.MethodName) prog_14_method_23_code (4 : Nat) (Option.some Jvm.ClassFile.FieldType.int))]
def cw6_13 : List Cond := [(Jvm.Cond.methodLink "TypeAtNightModel" (165 : Nat) ({ cls := "TypeAtNightModel", name := "beginText", desc := "(I)V" } : Jvm.MethodName)), (Jvm.Cond.privateMethod ({ cls := "TypeAtNightModel", name := "beginText", desc := "(I)V" } : Jvm.MethodName)), (Jvm.Cond.instanceMethod ({ cls := "TypeAtNightModel", name := "beginText", desc := "(I)V" } : Jvm.MethodName)), (Jvm.Cond.code ({ cls := "TypeAtNightModel", name := "beginText", desc := "(I)V" } : Jvm.MethodName) prog_14_method_13_code (2 : Nat) (Option.none : Option Jvm.ClassFile.FieldType)), (Jvm.Cond.methodLink "TypeAtNightModel" (141 : Nat) ({ cls := "TypeAtNightModel", name := "begin", desc := "([BII)V" } : Jvm.MethodName)), (Jvm.Cond.privateMethod ({ cls := "TypeAtNightModel", name := "begin", desc := "([BII)V" } : Jvm.MethodName)), (Jvm.Cond.instanceMethod ({ cls := "TypeAtNightModel", name := "begin", desc := "([BII)V" } : Jvm.MethodName)), (Jvm.Cond.code ({ cls := "TypeAtNightModel", name := "begin", desc := "([BII)V" } : Jvm.MethodName) prog_14_method_12_code (4 : Nat) (Option.none : Option Jvm.ClassFile.FieldType)), (Jvm.Cond.methodLink "TypeAtNightModel" (145 : Nat) ({ cls := "TypeAtNightModel", name := "fine", desc := "()Z" } : Jvm.MethodName)), (Jvm.Cond.privateMethod ({ cls := "TypeAtNightModel", name := "fine", desc := "()Z" } : Jvm.MethodName)), (Jvm.Cond.instanceMethod ({ cls := "TypeAtNightModel", name := "fine", desc := "()Z" } : Jvm.MethodName)), (Jvm.Cond.code ({ cls := "TypeAtNightModel", name := "fine", desc := "()Z" } : Jvm.MethodName) prog_14_method_15_code (1 : Nat) (Option.some Jvm.ClassFile.FieldType.boolean)), (Jvm.Cond.methodLink "TypeAtNightModel" (157 : Nat) ({ cls := "TypeAtNightModel", name := "fault", desc := "(I)V" } : Jvm.MethodName)), (Jvm.Cond.privateMethod ({ cls := "TypeAtNightModel", name := "fault", desc := "(I)V" } : Jvm.MethodName)), (Jvm.Cond.instanceMethod ({ cls := "TypeAtNightModel", name := "fault", desc := "(I)V" } : Jvm.MethodName)), (Jvm.Cond.code ({ cls := "TypeAtNightModel", name := "fault", desc := "(I)V" } : Jvm.MethodName) prog_14_method_16_code (2 : Nat) (Option.none : Option Jvm.ClassFile.FieldType))]
def cw6_14 : List Cond := [(Jvm.Cond.methodLink "TypeAtNightModel" (161 : Nat) ({ cls := "TypeAtNightModel", name := "oneOf", desc := "(CI)I" } : Jvm.MethodName)), (Jvm.Cond.privateMethod ({ cls := "TypeAtNightModel", name := "oneOf", desc := "(CI)I" } : Jvm.MethodName)), (Jvm.Cond.instanceMethod ({ cls := "TypeAtNightModel", name := "oneOf", desc := "(CI)I" } : Jvm.MethodName)), (Jvm.Cond.code ({ cls := "TypeAtNightModel", name := "oneOf", desc := "(CI)I" } : Jvm.MethodName) prog_14_method_19_code (3 : Nat) (Option.some Jvm.ClassFile.FieldType.int)), (Jvm.Cond.methodLink "TypeAtNightModel" (149 : Nat) ({ cls := "TypeAtNightModel", name := "here", desc := "()I" } : Jvm.MethodName)), (Jvm.Cond.privateMethod ({ cls := "TypeAtNightModel", name := "here", desc := "()I" } : Jvm.MethodName)), (Jvm.Cond.instanceMethod ({ cls := "TypeAtNightModel", name := "here", desc := "()I" } : Jvm.MethodName)), (Jvm.Cond.code ({ cls := "TypeAtNightModel", name := "here", desc := "()I" } : Jvm.MethodName) prog_14_method_14_code (1 : Nat) (Option.some Jvm.ClassFile.FieldType.int)), (Jvm.Cond.methodLink "TypeAtNightModel" (168 : Nat) ({ cls := "TypeAtNightModel", name := "signedOf", desc := "()I" } : Jvm.MethodName)), (Jvm.Cond.privateMethod ({ cls := "TypeAtNightModel", name := "signedOf", desc := "()I" } : Jvm.MethodName)), (Jvm.Cond.instanceMethod ({ cls := "TypeAtNightModel", name := "signedOf", desc := "()I" } : Jvm.MethodName)), (Jvm.Cond.code ({ cls := "TypeAtNightModel", name := "signedOf", desc := "()I" } : Jvm.MethodName) prog_14_method_22_code (3 : Nat) (Option.some Jvm.ClassFile.FieldType.int)), (Jvm.Cond.methodLink "TypeAtNightModel" (153 : Nat) ({ cls := "TypeAtNightModel", name := "passes", desc := "(C)Z" } : Jvm.MethodName)), (Jvm.Cond.privateMethod ({ cls := "TypeAtNightModel", name := "passes", desc := "(C)Z" } : Jvm.MethodName)), (Jvm.Cond.instanceMethod ({ cls := "TypeAtNightModel", name := "passes", desc := "(C)Z" } : Jvm.MethodName)), (Jvm.Cond.code ({ cls := "TypeAtNightModel", name := "passes", desc := "(C)Z" } : Jvm.MethodName) prog_14_method_17_code (2 : Nat) (Option.some Jvm.ClassFile.FieldType.boolean))]
set_option maxRecDepth 100000 in
theorem ce_6 : tables_1_6 = cw6_0 ++ (cw6_1 ++ (cw6_2 ++ (cw6_3 ++ (cw6_4 ++ (cw6_5 ++ (cw6_6 ++ (cw6_7 ++ (cw6_8 ++ (cw6_9 ++ (cw6_10 ++ (cw6_11 ++ (cw6_12 ++ (cw6_13 ++ (cw6_14)))))))))))))) := rfl
theorem ct_6 {w : Cond} (h : w ∈ tables_1_6) : w ∈ lw_tbl := by
  refine List.mem_append_right _ ?_
  unfold tables_1
  simp only [List.mem_append]
  exact Or.inr (Or.inr (Or.inr (Or.inr (Or.inr (Or.inl h)))))
theorem gm_w6_0 {w : Cond} (h : w ∈ cw6_0) (hg : goodWord w = true) : w ∈ g_tbl := g_mw (ct_6 (by rw [ce_6]; exact List.mem_append_left _ h)) hg
theorem gm_w6_1 {w : Cond} (h : w ∈ cw6_1) (hg : goodWord w = true) : w ∈ g_tbl := g_mw (ct_6 (by rw [ce_6]; exact List.mem_append_right _ (List.mem_append_left _ h))) hg
theorem gm_w6_2 {w : Cond} (h : w ∈ cw6_2) (hg : goodWord w = true) : w ∈ g_tbl := g_mw (ct_6 (by rw [ce_6]; exact List.mem_append_right _ (List.mem_append_right _ (List.mem_append_left _ h)))) hg
theorem gm_w6_3 {w : Cond} (h : w ∈ cw6_3) (hg : goodWord w = true) : w ∈ g_tbl := g_mw (ct_6 (by rw [ce_6]; exact List.mem_append_right _ (List.mem_append_right _ (List.mem_append_right _ (List.mem_append_left _ h))))) hg
theorem gm_w6_4 {w : Cond} (h : w ∈ cw6_4) (hg : goodWord w = true) : w ∈ g_tbl := g_mw (ct_6 (by rw [ce_6]; exact List.mem_append_right _ (List.mem_append_right _ (List.mem_append_right _ (List.mem_append_right _ (List.mem_append_left _ h)))))) hg
theorem gm_w6_5 {w : Cond} (h : w ∈ cw6_5) (hg : goodWord w = true) : w ∈ g_tbl := g_mw (ct_6 (by rw [ce_6]; exact List.mem_append_right _ (List.mem_append_right _ (List.mem_append_right _ (List.mem_append_right _ (List.mem_append_right _ (List.mem_append_left _ h))))))) hg
theorem gm_w6_6 {w : Cond} (h : w ∈ cw6_6) (hg : goodWord w = true) : w ∈ g_tbl := g_mw (ct_6 (by rw [ce_6]; exact List.mem_append_right _ (List.mem_append_right _ (List.mem_append_right _ (List.mem_append_right _ (List.mem_append_right _ (List.mem_append_right _ (List.mem_append_left _ h)))))))) hg
theorem gm_w6_7 {w : Cond} (h : w ∈ cw6_7) (hg : goodWord w = true) : w ∈ g_tbl := g_mw (ct_6 (by rw [ce_6]; exact List.mem_append_right _ (List.mem_append_right _ (List.mem_append_right _ (List.mem_append_right _ (List.mem_append_right _ (List.mem_append_right _ (List.mem_append_right _ (List.mem_append_left _ h))))))))) hg
theorem gm_w6_8 {w : Cond} (h : w ∈ cw6_8) (hg : goodWord w = true) : w ∈ g_tbl := g_mw (ct_6 (by rw [ce_6]; exact List.mem_append_right _ (List.mem_append_right _ (List.mem_append_right _ (List.mem_append_right _ (List.mem_append_right _ (List.mem_append_right _ (List.mem_append_right _ (List.mem_append_right _ (List.mem_append_left _ h)))))))))) hg
theorem gm_w6_9 {w : Cond} (h : w ∈ cw6_9) (hg : goodWord w = true) : w ∈ g_tbl := g_mw (ct_6 (by rw [ce_6]; exact List.mem_append_right _ (List.mem_append_right _ (List.mem_append_right _ (List.mem_append_right _ (List.mem_append_right _ (List.mem_append_right _ (List.mem_append_right _ (List.mem_append_right _ (List.mem_append_right _ (List.mem_append_left _ h))))))))))) hg
theorem gm_w6_10 {w : Cond} (h : w ∈ cw6_10) (hg : goodWord w = true) : w ∈ g_tbl := g_mw (ct_6 (by rw [ce_6]; exact List.mem_append_right _ (List.mem_append_right _ (List.mem_append_right _ (List.mem_append_right _ (List.mem_append_right _ (List.mem_append_right _ (List.mem_append_right _ (List.mem_append_right _ (List.mem_append_right _ (List.mem_append_right _ (List.mem_append_left _ h)))))))))))) hg
theorem gm_w6_11 {w : Cond} (h : w ∈ cw6_11) (hg : goodWord w = true) : w ∈ g_tbl := g_mw (ct_6 (by rw [ce_6]; exact List.mem_append_right _ (List.mem_append_right _ (List.mem_append_right _ (List.mem_append_right _ (List.mem_append_right _ (List.mem_append_right _ (List.mem_append_right _ (List.mem_append_right _ (List.mem_append_right _ (List.mem_append_right _ (List.mem_append_right _ (List.mem_append_left _ h))))))))))))) hg
theorem gm_w6_12 {w : Cond} (h : w ∈ cw6_12) (hg : goodWord w = true) : w ∈ g_tbl := g_mw (ct_6 (by rw [ce_6]; exact List.mem_append_right _ (List.mem_append_right _ (List.mem_append_right _ (List.mem_append_right _ (List.mem_append_right _ (List.mem_append_right _ (List.mem_append_right _ (List.mem_append_right _ (List.mem_append_right _ (List.mem_append_right _ (List.mem_append_right _ (List.mem_append_right _ (List.mem_append_left _ h)))))))))))))) hg
theorem gm_w6_13 {w : Cond} (h : w ∈ cw6_13) (hg : goodWord w = true) : w ∈ g_tbl := g_mw (ct_6 (by rw [ce_6]; exact List.mem_append_right _ (List.mem_append_right _ (List.mem_append_right _ (List.mem_append_right _ (List.mem_append_right _ (List.mem_append_right _ (List.mem_append_right _ (List.mem_append_right _ (List.mem_append_right _ (List.mem_append_right _ (List.mem_append_right _ (List.mem_append_right _ (List.mem_append_right _ (List.mem_append_left _ h))))))))))))))) hg
theorem gm_w6_14 {w : Cond} (h : w ∈ cw6_14) (hg : goodWord w = true) : w ∈ g_tbl := g_mw (ct_6 (by rw [ce_6]; exact List.mem_append_right _ (List.mem_append_right _ (List.mem_append_right _ (List.mem_append_right _ (List.mem_append_right _ (List.mem_append_right _ (List.mem_append_right _ (List.mem_append_right _ (List.mem_append_right _ (List.mem_append_right _ (List.mem_append_right _ (List.mem_append_right _ (List.mem_append_right _ (List.mem_append_right _ (h)))))))))))))))) hg
def cw7_0 : List Cond := [(Jvm.Cond.methodLink "TypeAtNightModel" (171 : Nat) ({ cls := "TypeAtNightModel", name := "wasRight", desc := "()Z" } : Jvm.MethodName)), (Jvm.Cond.privateMethod ({ cls := "TypeAtNightModel", name := "wasRight", desc := "()Z" } : Jvm.MethodName)), (Jvm.Cond.instanceMethod ({ cls := "TypeAtNightModel", name := "wasRight", desc := "()Z" } : Jvm.MethodName)), (Jvm.Cond.code ({ cls := "TypeAtNightModel", name := "wasRight", desc := "()Z" } : Jvm.MethodName) prog_14_method_21_code (1 : Nat) (Option.some Jvm.ClassFile.FieldType.boolean)), (Jvm.Cond.methodLink "TypeAtNightLaw" (44 : Nat) ({ cls := "TypeAtNightModel", name := "rule", desc := "()I" } : Jvm.MethodName)), (Jvm.Cond.instanceMethod ({ cls := "TypeAtNightModel", name := "rule", desc := "()I" } : Jvm.MethodName)), (Jvm.Cond.selects "TypeAtNightModel" ({ cls := "TypeAtNightModel", name := "rule", desc := "()I" } : Jvm.MethodName) ({ cls := "TypeAtNightModel", name := "rule", desc := "()I" } : Jvm.MethodName)), (Jvm.Cond.code ({ cls := "TypeAtNightModel", name := "rule", desc := "()I" } : Jvm.MethodName) prog_14_method_30_code (3 : Nat) (Option.some Jvm.ClassFile.FieldType.int)), (Jvm.Cond.methodLink "TypeAtNightModel" (206 : Nat) ({ cls := "TypeAtNightModel", name := "readRule", desc := "()Z" } : Jvm.MethodName)), (Jvm.Cond.privateMethod ({ cls := "TypeAtNightModel", name := "readRule", desc := "()Z" } : Jvm.MethodName)), (Jvm.Cond.instanceMethod ({ cls := "TypeAtNightModel", name := "readRule", desc := "()Z" } : Jvm.MethodName)), (Jvm.Cond.code ({ cls := "TypeAtNightModel", name := "readRule", desc := "()Z" } : Jvm.MethodName) prog_14_method_29_code (1 : Nat) (Option.some Jvm.ClassFile.FieldType.boolean)), (Jvm.Cond.methodLink "TypeAtNightModel" (190 : Nat) ({ cls := "TypeAtNightModel", name := "held", desc := "(I)I" } : Jvm.MethodName)), (Jvm.Cond.privateMethod ({ cls := "TypeAtNightModel", name := "held", desc := "(I)I" } : Jvm.MethodName)), (Jvm.Cond.instanceMethod ({ cls := "TypeAtNightModel", name := "held", desc := "(I)I" } : Jvm.MethodName)), (Jvm.Cond.code ({ cls := "TypeAtNightModel", name := "held", desc := "(I)I" } : Jvm.MethodName) prog_14_method_24_code (3 : Nat) (Option.some Jvm.ClassFile.FieldType.int))]
def cw7_1 : List Cond := [(Jvm.Cond.methodLink "TypeAtNightModel" (180 : Nat) ({ cls := "TypeAtNightModel", name := "sum", desc := "(I)I" } : Jvm.MethodName)), (Jvm.Cond.privateMethod ({ cls := "TypeAtNightModel", name := "sum", desc := "(I)I" } : Jvm.MethodName)), (Jvm.Cond.instanceMethod ({ cls := "TypeAtNightModel", name := "sum", desc := "(I)I" } : Jvm.MethodName)), (Jvm.Cond.code ({ cls := "TypeAtNightModel", name := "sum", desc := "(I)I" } : Jvm.MethodName) prog_14_method_25_code (5 : Nat) (Option.some Jvm.ClassFile.FieldType.int)), (Jvm.Cond.methodLink "TypeAtNightModel" (184 : Nat) ({ cls := "TypeAtNightModel", name := "product", desc := "(I)I" } : Jvm.MethodName)), (Jvm.Cond.privateMethod ({ cls := "TypeAtNightModel", name := "product", desc := "(I)I" } : Jvm.MethodName)), (Jvm.Cond.instanceMethod ({ cls := "TypeAtNightModel", name := "product", desc := "(I)I" } : Jvm.MethodName)), (Jvm.Cond.code ({ cls := "TypeAtNightModel", name := "product", desc := "(I)I" } : Jvm.MethodName) prog_14_method_26_code (5 : Nat) (Option.some Jvm.ClassFile.FieldType.int)), (Jvm.Cond.methodLink "TypeAtNightModel" (187 : Nat) ({ cls := "TypeAtNightModel", name := "thing", desc := "(I)I" } : Jvm.MethodName)), (Jvm.Cond.privateMethod ({ cls := "TypeAtNightModel", name := "thing", desc := "(I)I" } : Jvm.MethodName)), (Jvm.Cond.instanceMethod ({ cls := "TypeAtNightModel", name := "thing", desc := "(I)I" } : Jvm.MethodName)), (Jvm.Cond.code ({ cls := "TypeAtNightModel", name := "thing", desc := "(I)I" } : Jvm.MethodName) prog_14_method_28_code (4 : Nat) (Option.some Jvm.ClassFile.FieldType.int)), (Jvm.Cond.methodLink "TypeAtNightModel" (193 : Nat) ({ cls := "TypeAtNightModel", name := "need", desc := "(C)V" } : Jvm.MethodName)), (Jvm.Cond.privateMethod ({ cls := "TypeAtNightModel", name := "need", desc := "(C)V" } : Jvm.MethodName)), (Jvm.Cond.instanceMethod ({ cls := "TypeAtNightModel", name := "need", desc := "(C)V" } : Jvm.MethodName)), (Jvm.Cond.code ({ cls := "TypeAtNightModel", name := "need", desc := "(C)V" } : Jvm.MethodName) prog_14_method_18_code (2 : Nat) (Option.none : Option Jvm.ClassFile.FieldType))]
def cw7_2 : List Cond := [(Jvm.Cond.methodLink "TypeAtNightModel" (196 : Nat) ({ cls := "TypeAtNightModel", name := "number", desc := "(I)I" } : Jvm.MethodName)), (Jvm.Cond.privateMethod ({ cls := "TypeAtNightModel", name := "number", desc := "(I)I" } : Jvm.MethodName)), (Jvm.Cond.instanceMethod ({ cls := "TypeAtNightModel", name := "number", desc := "(I)I" } : Jvm.MethodName)), (Jvm.Cond.code ({ cls := "TypeAtNightModel", name := "number", desc := "(I)I" } : Jvm.MethodName) prog_14_method_20_code (4 : Nat) (Option.some Jvm.ClassFile.FieldType.int)), (Jvm.Cond.methodLink "TypeAtNightModel" (199 : Nat) ({ cls := "TypeAtNightModel", name := "letterOf", desc := "(I)I" } : Jvm.MethodName)), (Jvm.Cond.static ({ cls := "TypeAtNightModel", name := "letterOf", desc := "(I)I" } : Jvm.MethodName)), (Jvm.Cond.code ({ cls := "TypeAtNightModel", name := "letterOf", desc := "(I)I" } : Jvm.MethodName) prog_14_method_27_code (1 : Nat) (Option.some Jvm.ClassFile.FieldType.int)), (Jvm.Cond.methodLink "TypeAtNightLaw" (50 : Nat) ({ cls := "TypeAtNightModel", name := "sort", desc := "(II)I" } : Jvm.MethodName)), (Jvm.Cond.instanceMethod ({ cls := "TypeAtNightModel", name := "sort", desc := "(II)I" } : Jvm.MethodName)), (Jvm.Cond.selects "TypeAtNightModel" ({ cls := "TypeAtNightModel", name := "sort", desc := "(II)I" } : Jvm.MethodName) ({ cls := "TypeAtNightModel", name := "sort", desc := "(II)I" } : Jvm.MethodName)), (Jvm.Cond.code ({ cls := "TypeAtNightModel", name := "sort", desc := "(II)I" } : Jvm.MethodName) prog_14_method_32_code (3 : Nat) (Option.some Jvm.ClassFile.FieldType.int)), (Jvm.Cond.methodLink "TypeAtNightModel" (215 : Nat) ({ cls := "TypeAtNightModel", name := "isSort", desc := "(I)Z" } : Jvm.MethodName)), (Jvm.Cond.privateMethod ({ cls := "TypeAtNightModel", name := "isSort", desc := "(I)Z" } : Jvm.MethodName)), (Jvm.Cond.instanceMethod ({ cls := "TypeAtNightModel", name := "isSort", desc := "(I)Z" } : Jvm.MethodName)), (Jvm.Cond.code ({ cls := "TypeAtNightModel", name := "isSort", desc := "(I)Z" } : Jvm.MethodName) prog_14_method_8_code (2 : Nat) (Option.some Jvm.ClassFile.FieldType.boolean)), (Jvm.Cond.methodLink "TypeAtNightModel" (219 : Nat) ({ cls := "TypeAtNightModel", name := "lost", desc := "()I" } : Jvm.MethodName))]
def cw7_3 : List Cond := [(Jvm.Cond.privateMethod ({ cls := "TypeAtNightModel", name := "lost", desc := "()I" } : Jvm.MethodName)), (Jvm.Cond.instanceMethod ({ cls := "TypeAtNightModel", name := "lost", desc := "()I" } : Jvm.MethodName)), (Jvm.Cond.code ({ cls := "TypeAtNightModel", name := "lost", desc := "()I" } : Jvm.MethodName) prog_14_method_6_code (1 : Nat) (Option.some Jvm.ClassFile.FieldType.int)), (Jvm.Cond.methodLink "TypeAtNightModel" (222 : Nat) ({ cls := "TypeAtNightModel", name := "turnOf", desc := "([II)I" } : Jvm.MethodName)), (Jvm.Cond.privateMethod ({ cls := "TypeAtNightModel", name := "turnOf", desc := "([II)I" } : Jvm.MethodName)), (Jvm.Cond.instanceMethod ({ cls := "TypeAtNightModel", name := "turnOf", desc := "([II)I" } : Jvm.MethodName)), (Jvm.Cond.code ({ cls := "TypeAtNightModel", name := "turnOf", desc := "([II)I" } : Jvm.MethodName) prog_14_method_31_code (6 : Nat) (Option.some Jvm.ClassFile.FieldType.int)), (Jvm.Cond.methodLink "TypeAtNightModel" (212 : Nat) ({ cls := "TypeAtNightModel", name := "put", desc := "(I)I" } : Jvm.MethodName)), (Jvm.Cond.static ({ cls := "TypeAtNightModel", name := "put", desc := "(I)I" } : Jvm.MethodName)), (Jvm.Cond.code ({ cls := "TypeAtNightModel", name := "put", desc := "(I)I" } : Jvm.MethodName) prog_14_method_5_code (1 : Nat) (Option.some Jvm.ClassFile.FieldType.int)), (Jvm.Cond.methodLink "TypeAtNightModel" (104 : Nat) ({ cls := "java/lang/Math", name := "min", desc := "(II)I" } : Jvm.MethodName)), (Jvm.Cond.methodLink "TypeAtNightModel" (110 : Nat) ({ cls := "java/lang/Math", name := "max", desc := "(II)I" } : Jvm.MethodName)), (Jvm.Cond.methodLink "TypeAtNightLaw" (56 : Nat) ({ cls := "TypeAtNightModel", name := "box", desc := "(II)I" } : Jvm.MethodName)), (Jvm.Cond.instanceMethod ({ cls := "TypeAtNightModel", name := "box", desc := "(II)I" } : Jvm.MethodName)), (Jvm.Cond.selects "TypeAtNightModel" ({ cls := "TypeAtNightModel", name := "box", desc := "(II)I" } : Jvm.MethodName) ({ cls := "TypeAtNightModel", name := "box", desc := "(II)I" } : Jvm.MethodName)), (Jvm.Cond.code ({ cls := "TypeAtNightModel", name := "box", desc := "(II)I" } : Jvm.MethodName) prog_14_method_35_code (3 : Nat) (Option.some Jvm.ClassFile.FieldType.int))]
def cw7_4 : List Cond := [(Jvm.Cond.methodLink "TypeAtNightModel" (230 : Nat) ({ cls := "TypeAtNightModel", name := "inBox", desc := "([II)I" } : Jvm.MethodName)), (Jvm.Cond.privateMethod ({ cls := "TypeAtNightModel", name := "inBox", desc := "([II)I" } : Jvm.MethodName)), (Jvm.Cond.instanceMethod ({ cls := "TypeAtNightModel", name := "inBox", desc := "([II)I" } : Jvm.MethodName)), (Jvm.Cond.code ({ cls := "TypeAtNightModel", name := "inBox", desc := "([II)I" } : Jvm.MethodName) prog_14_method_33_code (5 : Nat) (Option.some Jvm.ClassFile.FieldType.int)), (Jvm.Cond.methodLink "TypeAtNightModel" (233 : Nat) ({ cls := "TypeAtNightModel", name := "moodsOf", desc := "([II)I" } : Jvm.MethodName)), (Jvm.Cond.privateMethod ({ cls := "TypeAtNightModel", name := "moodsOf", desc := "([II)I" } : Jvm.MethodName)), (Jvm.Cond.instanceMethod ({ cls := "TypeAtNightModel", name := "moodsOf", desc := "([II)I" } : Jvm.MethodName)), (Jvm.Cond.code ({ cls := "TypeAtNightModel", name := "moodsOf", desc := "([II)I" } : Jvm.MethodName) prog_14_method_34_code (5 : Nat) (Option.some Jvm.ClassFile.FieldType.int)), (Jvm.Cond.methodLink "TypeAtNightModel" (226 : Nat) ({ cls := "TypeAtNightModel", name := "has", desc := "(II)Z" } : Jvm.MethodName)), (Jvm.Cond.static ({ cls := "TypeAtNightModel", name := "has", desc := "(II)Z" } : Jvm.MethodName)), (Jvm.Cond.code ({ cls := "TypeAtNightModel", name := "has", desc := "(II)Z" } : Jvm.MethodName) prog_14_method_4_code (2 : Nat) (Option.some Jvm.ClassFile.FieldType.boolean)), (Jvm.Cond.methodLink "TypeAtNightLaw" (61 : Nat) ({ cls := "TypeAtNightModel", name := "sheet", desc := "(IIII)I" } : Jvm.MethodName)), (Jvm.Cond.instanceMethod ({ cls := "TypeAtNightModel", name := "sheet", desc := "(IIII)I" } : Jvm.MethodName)), (Jvm.Cond.selects "TypeAtNightModel" ({ cls := "TypeAtNightModel", name := "sheet", desc := "(IIII)I" } : Jvm.MethodName) ({ cls := "TypeAtNightModel", name := "sheet", desc := "(IIII)I" } : Jvm.MethodName)), (Jvm.Cond.code ({ cls := "TypeAtNightModel", name := "sheet", desc := "(IIII)I" } : Jvm.MethodName) prog_14_method_37_code (8 : Nat) (Option.some Jvm.ClassFile.FieldType.int)), (Jvm.Cond.methodLink "TypeAtNightModel" (236 : Nat) ({ cls := "TypeAtNightModel", name := "wears", desc := "()I" } : Jvm.MethodName))]
def cw7_5 : List Cond := [(Jvm.Cond.privateMethod ({ cls := "TypeAtNightModel", name := "wears", desc := "()I" } : Jvm.MethodName)), (Jvm.Cond.instanceMethod ({ cls := "TypeAtNightModel", name := "wears", desc := "()I" } : Jvm.MethodName)), (Jvm.Cond.code ({ cls := "TypeAtNightModel", name := "wears", desc := "()I" } : Jvm.MethodName) prog_14_method_36_code (3 : Nat) (Option.some Jvm.ClassFile.FieldType.int)), (Jvm.Cond.methodLink "TypeAtNightLaw" (65 : Nat) ({ cls := "TypeAtNightModel", name := "sets", desc := "(I)I" } : Jvm.MethodName)), (Jvm.Cond.instanceMethod ({ cls := "TypeAtNightModel", name := "sets", desc := "(I)I" } : Jvm.MethodName)), (Jvm.Cond.selects "TypeAtNightModel" ({ cls := "TypeAtNightModel", name := "sets", desc := "(I)I" } : Jvm.MethodName) ({ cls := "TypeAtNightModel", name := "sets", desc := "(I)I" } : Jvm.MethodName)), (Jvm.Cond.code ({ cls := "TypeAtNightModel", name := "sets", desc := "(I)I" } : Jvm.MethodName) prog_14_method_45_code (3 : Nat) (Option.some Jvm.ClassFile.FieldType.int)), (Jvm.Cond.methodLink "TypeAtNightModel" (255 : Nat) ({ cls := "TypeAtNightModel", name := "readLine", desc := "()Z" } : Jvm.MethodName)), (Jvm.Cond.privateMethod ({ cls := "TypeAtNightModel", name := "readLine", desc := "()Z" } : Jvm.MethodName)), (Jvm.Cond.instanceMethod ({ cls := "TypeAtNightModel", name := "readLine", desc := "()Z" } : Jvm.MethodName)), (Jvm.Cond.code ({ cls := "TypeAtNightModel", name := "readLine", desc := "()Z" } : Jvm.MethodName) prog_14_method_41_code (2 : Nat) (Option.some Jvm.ClassFile.FieldType.boolean)), (Jvm.Cond.methodLink "TypeAtNightModel" (246 : Nat) ({ cls := "TypeAtNightModel", name := "layNeed", desc := "()V" } : Jvm.MethodName)), (Jvm.Cond.privateMethod ({ cls := "TypeAtNightModel", name := "layNeed", desc := "()V" } : Jvm.MethodName)), (Jvm.Cond.instanceMethod ({ cls := "TypeAtNightModel", name := "layNeed", desc := "()V" } : Jvm.MethodName)), (Jvm.Cond.code ({ cls := "TypeAtNightModel", name := "layNeed", desc := "()V" } : Jvm.MethodName) prog_14_method_40_code (2 : Nat) (Option.none : Option Jvm.ClassFile.FieldType)), (Jvm.Cond.methodLink "TypeAtNightModel" (258 : Nat) ({ cls := "TypeAtNightModel", name := "wouldTake", desc := "()I" } : Jvm.MethodName))]
def cw7_6 : List Cond := [(Jvm.Cond.privateMethod ({ cls := "TypeAtNightModel", name := "wouldTake", desc := "()I" } : Jvm.MethodName)), (Jvm.Cond.instanceMethod ({ cls := "TypeAtNightModel", name := "wouldTake", desc := "()I" } : Jvm.MethodName)), (Jvm.Cond.code ({ cls := "TypeAtNightModel", name := "wouldTake", desc := "()I" } : Jvm.MethodName) prog_14_method_44_code (1 : Nat) (Option.some Jvm.ClassFile.FieldType.int)), (Jvm.Cond.methodLink "TypeAtNightModel" (239 : Nat) ({ cls := "TypeAtNightModel", name := "lay", desc := "([I[II)V" } : Jvm.MethodName)), (Jvm.Cond.static ({ cls := "TypeAtNightModel", name := "lay", desc := "([I[II)V" } : Jvm.MethodName)), (Jvm.Cond.code ({ cls := "TypeAtNightModel", name := "lay", desc := "([I[II)V" } : Jvm.MethodName) prog_14_method_38_code (4 : Nat) (Option.none : Option Jvm.ClassFile.FieldType)), (Jvm.Cond.methodLink "TypeAtNightModel" (252 : Nat) ({ cls := "TypeAtNightModel", name := "goSet", desc := "([II)I" } : Jvm.MethodName)), (Jvm.Cond.privateMethod ({ cls := "TypeAtNightModel", name := "goSet", desc := "([II)I" } : Jvm.MethodName)), (Jvm.Cond.instanceMethod ({ cls := "TypeAtNightModel", name := "goSet", desc := "([II)I" } : Jvm.MethodName)), (Jvm.Cond.code ({ cls := "TypeAtNightModel", name := "goSet", desc := "([II)I" } : Jvm.MethodName) prog_14_method_43_code (6 : Nat) (Option.some Jvm.ClassFile.FieldType.int)), (Jvm.Cond.methodLink "TypeAtNightModel" (249 : Nat) ({ cls := "TypeAtNightModel", name := "takes", desc := "([II)I" } : Jvm.MethodName)), (Jvm.Cond.privateMethod ({ cls := "TypeAtNightModel", name := "takes", desc := "([II)I" } : Jvm.MethodName)), (Jvm.Cond.instanceMethod ({ cls := "TypeAtNightModel", name := "takes", desc := "([II)I" } : Jvm.MethodName)), (Jvm.Cond.code ({ cls := "TypeAtNightModel", name := "takes", desc := "([II)I" } : Jvm.MethodName) prog_14_method_42_code (5 : Nat) (Option.some Jvm.ClassFile.FieldType.int)), (Jvm.Cond.methodLink "TypeAtNightModel" (261 : Nat) ({ cls := "TypeAtNightModel", name := "remember", desc := "([I)V" } : Jvm.MethodName)), (Jvm.Cond.privateMethod ({ cls := "TypeAtNightModel", name := "remember", desc := "([I)V" } : Jvm.MethodName))]
def cw7_7 : List Cond := [(Jvm.Cond.instanceMethod ({ cls := "TypeAtNightModel", name := "remember", desc := "([I)V" } : Jvm.MethodName)), (Jvm.Cond.code ({ cls := "TypeAtNightModel", name := "remember", desc := "([I)V" } : Jvm.MethodName) prog_14_method_39_code (3 : Nat) (Option.none : Option Jvm.ClassFile.FieldType)), (Jvm.Cond.methodLink "TypeAtNightModel" (265 : Nat) ({ cls := "TypeAtNightModel", name := "tell", desc := "(J)V" } : Jvm.MethodName)), (Jvm.Cond.privateMethod ({ cls := "TypeAtNightModel", name := "tell", desc := "(J)V" } : Jvm.MethodName)), (Jvm.Cond.instanceMethod ({ cls := "TypeAtNightModel", name := "tell", desc := "(J)V" } : Jvm.MethodName)), (Jvm.Cond.code ({ cls := "TypeAtNightModel", name := "tell", desc := "(J)V" } : Jvm.MethodName) prog_14_method_7_code (3 : Nat) (Option.none : Option Jvm.ClassFile.FieldType)), (Jvm.Cond.methodLink "TypeAtNightLaw" (69 : Nat) ({ cls := "TypeAtNightModel", name := "nights", desc := "(I)I" } : Jvm.MethodName)), (Jvm.Cond.instanceMethod ({ cls := "TypeAtNightModel", name := "nights", desc := "(I)I" } : Jvm.MethodName)), (Jvm.Cond.selects "TypeAtNightModel" ({ cls := "TypeAtNightModel", name := "nights", desc := "(I)I" } : Jvm.MethodName) ({ cls := "TypeAtNightModel", name := "nights", desc := "(I)I" } : Jvm.MethodName)), (Jvm.Cond.code ({ cls := "TypeAtNightModel", name := "nights", desc := "(I)I" } : Jvm.MethodName) prog_14_method_49_code (2 : Nat) (Option.some Jvm.ClassFile.FieldType.int)), (Jvm.Cond.methodLink "TypeAtNightModel" (272 : Nat) ({ cls := "TypeAtNightModel", name := "goNights", desc := "([II)V" } : Jvm.MethodName)), (Jvm.Cond.privateMethod ({ cls := "TypeAtNightModel", name := "goNights", desc := "([II)V" } : Jvm.MethodName)), (Jvm.Cond.instanceMethod ({ cls := "TypeAtNightModel", name := "goNights", desc := "([II)V" } : Jvm.MethodName)), (Jvm.Cond.code ({ cls := "TypeAtNightModel", name := "goNights", desc := "([II)V" } : Jvm.MethodName) prog_14_method_47_code (4 : Nat) (Option.none : Option Jvm.ClassFile.FieldType)), (Jvm.Cond.methodLink "TypeAtNightModel" (269 : Nat) ({ cls := "TypeAtNightModel", name := "goNight", desc := "([I)V" } : Jvm.MethodName)), (Jvm.Cond.privateMethod ({ cls := "TypeAtNightModel", name := "goNight", desc := "([I)V" } : Jvm.MethodName))]
def cw7_8 : List Cond := [(Jvm.Cond.instanceMethod ({ cls := "TypeAtNightModel", name := "goNight", desc := "([I)V" } : Jvm.MethodName)), (Jvm.Cond.code ({ cls := "TypeAtNightModel", name := "goNight", desc := "([I)V" } : Jvm.MethodName) prog_14_method_46_code (3 : Nat) (Option.none : Option Jvm.ClassFile.FieldType)), (Jvm.Cond.methodLink "TypeAtNightModel" (276 : Nat) ({ cls := "TypeAtNightModel", name := "all", desc := "()I" } : Jvm.MethodName)), (Jvm.Cond.privateMethod ({ cls := "TypeAtNightModel", name := "all", desc := "()I" } : Jvm.MethodName)), (Jvm.Cond.instanceMethod ({ cls := "TypeAtNightModel", name := "all", desc := "()I" } : Jvm.MethodName)), (Jvm.Cond.code ({ cls := "TypeAtNightModel", name := "all", desc := "()I" } : Jvm.MethodName) prog_14_method_9_code (1 : Nat) (Option.some Jvm.ClassFile.FieldType.int)), (Jvm.Cond.methodLink "TypeAtNightModel" (279 : Nat) ({ cls := "TypeAtNightModel", name := "atHome", desc := "([I)I" } : Jvm.MethodName)), (Jvm.Cond.privateMethod ({ cls := "TypeAtNightModel", name := "atHome", desc := "([I)I" } : Jvm.MethodName)), (Jvm.Cond.instanceMethod ({ cls := "TypeAtNightModel", name := "atHome", desc := "([I)I" } : Jvm.MethodName)), (Jvm.Cond.code ({ cls := "TypeAtNightModel", name := "atHome", desc := "([I)I" } : Jvm.MethodName) prog_14_method_48_code (4 : Nat) (Option.some Jvm.ClassFile.FieldType.int)), (Jvm.Cond.methodLink "TypeAtNightLaw" (73 : Nat) ({ cls := "TypeAtNightModel", name := "moves", desc := "(II)I" } : Jvm.MethodName)), (Jvm.Cond.instanceMethod ({ cls := "TypeAtNightModel", name := "moves", desc := "(II)I" } : Jvm.MethodName)), (Jvm.Cond.selects "TypeAtNightModel" ({ cls := "TypeAtNightModel", name := "moves", desc := "(II)I" } : Jvm.MethodName) ({ cls := "TypeAtNightModel", name := "moves", desc := "(II)I" } : Jvm.MethodName)), (Jvm.Cond.code ({ cls := "TypeAtNightModel", name := "moves", desc := "(II)I" } : Jvm.MethodName) prog_14_method_51_code (5 : Nat) (Option.some Jvm.ClassFile.FieldType.int)), (Jvm.Cond.methodLink "TypeAtNightModel" (283 : Nat) ({ cls := "TypeAtNightModel", name := "refusesMove", desc := "([III)I" } : Jvm.MethodName)), (Jvm.Cond.privateMethod ({ cls := "TypeAtNightModel", name := "refusesMove", desc := "([III)I" } : Jvm.MethodName))]
def cw7_9 : List Cond := [(Jvm.Cond.instanceMethod ({ cls := "TypeAtNightModel", name := "refusesMove", desc := "([III)I" } : Jvm.MethodName)), (Jvm.Cond.code ({ cls := "TypeAtNightModel", name := "refusesMove", desc := "([III)I" } : Jvm.MethodName) prog_14_method_50_code (4 : Nat) (Option.some Jvm.ClassFile.FieldType.int)), (Jvm.Cond.methodLink "TypeAtNightLaw" (77 : Nat) ({ cls := "TypeAtNightModel", name := "cleans", desc := "(I)I" } : Jvm.MethodName)), (Jvm.Cond.instanceMethod ({ cls := "TypeAtNightModel", name := "cleans", desc := "(I)I" } : Jvm.MethodName)), (Jvm.Cond.selects "TypeAtNightModel" ({ cls := "TypeAtNightModel", name := "cleans", desc := "(I)I" } : Jvm.MethodName) ({ cls := "TypeAtNightModel", name := "cleans", desc := "(I)I" } : Jvm.MethodName)), (Jvm.Cond.code ({ cls := "TypeAtNightModel", name := "cleans", desc := "(I)I" } : Jvm.MethodName) prog_14_method_53_code (4 : Nat) (Option.some Jvm.ClassFile.FieldType.int)), (Jvm.Cond.methodLink "TypeAtNightModel" (287 : Nat) ({ cls := "TypeAtNightModel", name := "refusesClean", desc := "(I)I" } : Jvm.MethodName)), (Jvm.Cond.privateMethod ({ cls := "TypeAtNightModel", name := "refusesClean", desc := "(I)I" } : Jvm.MethodName)), (Jvm.Cond.instanceMethod ({ cls := "TypeAtNightModel", name := "refusesClean", desc := "(I)I" } : Jvm.MethodName)), (Jvm.Cond.code ({ cls := "TypeAtNightModel", name := "refusesClean", desc := "(I)I" } : Jvm.MethodName) prog_14_method_52_code (2 : Nat) (Option.some Jvm.ClassFile.FieldType.int)), (Jvm.Cond.methodLink "TypeAtNightLaw" (81 : Nat) ({ cls := "TypeAtNightModel", name := "casts", desc := "(I)I" } : Jvm.MethodName)), (Jvm.Cond.instanceMethod ({ cls := "TypeAtNightModel", name := "casts", desc := "(I)I" } : Jvm.MethodName)), (Jvm.Cond.selects "TypeAtNightModel" ({ cls := "TypeAtNightModel", name := "casts", desc := "(I)I" } : Jvm.MethodName) ({ cls := "TypeAtNightModel", name := "casts", desc := "(I)I" } : Jvm.MethodName)), (Jvm.Cond.code ({ cls := "TypeAtNightModel", name := "casts", desc := "(I)I" } : Jvm.MethodName) prog_14_method_55_code (4 : Nat) (Option.some Jvm.ClassFile.FieldType.int)), (Jvm.Cond.methodLink "TypeAtNightModel" (290 : Nat) ({ cls := "TypeAtNightModel", name := "refusesCast", desc := "(I)I" } : Jvm.MethodName)), (Jvm.Cond.privateMethod ({ cls := "TypeAtNightModel", name := "refusesCast", desc := "(I)I" } : Jvm.MethodName))]
def cw7_10 : List Cond := [(Jvm.Cond.instanceMethod ({ cls := "TypeAtNightModel", name := "refusesCast", desc := "(I)I" } : Jvm.MethodName)), (Jvm.Cond.code ({ cls := "TypeAtNightModel", name := "refusesCast", desc := "(I)I" } : Jvm.MethodName) prog_14_method_54_code (2 : Nat) (Option.some Jvm.ClassFile.FieldType.int)), (Jvm.Cond.methodLink "TypeAtNightLaw" (85 : Nat) ({ cls := "TypeAtNightModel", name := "week", desc := "()I" } : Jvm.MethodName)), (Jvm.Cond.instanceMethod ({ cls := "TypeAtNightModel", name := "week", desc := "()I" } : Jvm.MethodName)), (Jvm.Cond.selects "TypeAtNightModel" ({ cls := "TypeAtNightModel", name := "week", desc := "()I" } : Jvm.MethodName) ({ cls := "TypeAtNightModel", name := "week", desc := "()I" } : Jvm.MethodName)), (Jvm.Cond.code ({ cls := "TypeAtNightModel", name := "week", desc := "()I" } : Jvm.MethodName) prog_14_method_56_code (3 : Nat) (Option.some Jvm.ClassFile.FieldType.int)), (Jvm.Cond.methodLink "TypeAtNightModel" (296 : Nat) ({ cls := "TypeAtNightModel", name := "readAct", desc := "(I)V" } : Jvm.MethodName)), (Jvm.Cond.privateMethod ({ cls := "TypeAtNightModel", name := "readAct", desc := "(I)V" } : Jvm.MethodName)), (Jvm.Cond.instanceMethod ({ cls := "TypeAtNightModel", name := "readAct", desc := "(I)V" } : Jvm.MethodName)), (Jvm.Cond.code ({ cls := "TypeAtNightModel", name := "readAct", desc := "(I)V" } : Jvm.MethodName) prog_14_method_57_code (3 : Nat) (Option.none : Option Jvm.ClassFile.FieldType)), (Jvm.Cond.methodLink "TypeAtNightModel" (299 : Nat) ({ cls := "TypeAtNightModel", name := "act", desc := "(I)Z" } : Jvm.MethodName)), (Jvm.Cond.privateMethod ({ cls := "TypeAtNightModel", name := "act", desc := "(I)Z" } : Jvm.MethodName)), (Jvm.Cond.instanceMethod ({ cls := "TypeAtNightModel", name := "act", desc := "(I)Z" } : Jvm.MethodName)), (Jvm.Cond.code ({ cls := "TypeAtNightModel", name := "act", desc := "(I)Z" } : Jvm.MethodName) prog_14_method_58_code (5 : Nat) (Option.some Jvm.ClassFile.FieldType.boolean)), (Jvm.Cond.methodLink "TypeAtNightModel" (302 : Nat) ({ cls := "java/lang/Integer", name := "bitCount", desc := "(I)I" } : Jvm.MethodName)), (Jvm.Cond.methodLink "TypeAtNightLaw" (89 : Nat) ({ cls := "TypeAtNightModel", name := "undo", desc := "()I" } : Jvm.MethodName))]
def cw7_11 : List Cond := [(Jvm.Cond.instanceMethod ({ cls := "TypeAtNightModel", name := "undo", desc := "()I" } : Jvm.MethodName)), (Jvm.Cond.selects "TypeAtNightModel" ({ cls := "TypeAtNightModel", name := "undo", desc := "()I" } : Jvm.MethodName) ({ cls := "TypeAtNightModel", name := "undo", desc := "()I" } : Jvm.MethodName)), (Jvm.Cond.code ({ cls := "TypeAtNightModel", name := "undo", desc := "()I" } : Jvm.MethodName) prog_14_method_59_code (2 : Nat) (Option.some Jvm.ClassFile.FieldType.int)), (Jvm.Cond.methodLink "TypeAtNightLaw" (93 : Nat) ({ cls := "TypeAtNightModel", name := "tells", desc := "()I" } : Jvm.MethodName)), (Jvm.Cond.instanceMethod ({ cls := "TypeAtNightModel", name := "tells", desc := "()I" } : Jvm.MethodName)), (Jvm.Cond.selects "TypeAtNightModel" ({ cls := "TypeAtNightModel", name := "tells", desc := "()I" } : Jvm.MethodName) ({ cls := "TypeAtNightModel", name := "tells", desc := "()I" } : Jvm.MethodName)), (Jvm.Cond.code ({ cls := "TypeAtNightModel", name := "tells", desc := "()I" } : Jvm.MethodName) prog_14_method_60_code (2 : Nat) (Option.some Jvm.ClassFile.FieldType.int)), (Jvm.Cond.methodLink "TypeAtNightLaw" (97 : Nat) ({ cls := "TypeAtNightModel", name := "often", desc := "()I" } : Jvm.MethodName)), (Jvm.Cond.instanceMethod ({ cls := "TypeAtNightModel", name := "often", desc := "()I" } : Jvm.MethodName)), (Jvm.Cond.selects "TypeAtNightModel" ({ cls := "TypeAtNightModel", name := "often", desc := "()I" } : Jvm.MethodName) ({ cls := "TypeAtNightModel", name := "often", desc := "()I" } : Jvm.MethodName)), (Jvm.Cond.code ({ cls := "TypeAtNightModel", name := "often", desc := "()I" } : Jvm.MethodName) prog_14_method_62_code (4 : Nat) (Option.some Jvm.ClassFile.FieldType.int)), (Jvm.Cond.constant "TypeAtNightModel" (307 : Nat) (1000000 : Int32)), (Jvm.Cond.methodLink "TypeAtNightModel" (308 : Nat) ({ cls := "TypeAtNightModel", name := "free", desc := "(I)I" } : Jvm.MethodName)), (Jvm.Cond.privateMethod ({ cls := "TypeAtNightModel", name := "free", desc := "(I)I" } : Jvm.MethodName)), (Jvm.Cond.instanceMethod ({ cls := "TypeAtNightModel", name := "free", desc := "(I)I" } : Jvm.MethodName)), (Jvm.Cond.code ({ cls := "TypeAtNightModel", name := "free", desc := "(I)I" } : Jvm.MethodName) prog_14_method_61_code (4 : Nat) (Option.some Jvm.ClassFile.FieldType.int))]
def cw7_12 : List Cond := [(Jvm.Cond.methodLink "TypeAtNightLaw" (101 : Nat) ({ cls := "TypeAtNightModel", name := "shortest", desc := "()I" } : Jvm.MethodName)), (Jvm.Cond.instanceMethod ({ cls := "TypeAtNightModel", name := "shortest", desc := "()I" } : Jvm.MethodName)), (Jvm.Cond.selects "TypeAtNightModel" ({ cls := "TypeAtNightModel", name := "shortest", desc := "()I" } : Jvm.MethodName) ({ cls := "TypeAtNightModel", name := "shortest", desc := "()I" } : Jvm.MethodName)), (Jvm.Cond.code ({ cls := "TypeAtNightModel", name := "shortest", desc := "()I" } : Jvm.MethodName) prog_14_method_63_code (4 : Nat) (Option.some Jvm.ClassFile.FieldType.int)), (Jvm.Cond.methodLink "TypeAtNightLaw" (105 : Nat) ({ cls := "TypeAtNightModel", name := "bears", desc := "(I)I" } : Jvm.MethodName)), (Jvm.Cond.instanceMethod ({ cls := "TypeAtNightModel", name := "bears", desc := "(I)I" } : Jvm.MethodName)), (Jvm.Cond.selects "TypeAtNightModel" ({ cls := "TypeAtNightModel", name := "bears", desc := "(I)I" } : Jvm.MethodName) ({ cls := "TypeAtNightModel", name := "bears", desc := "(I)I" } : Jvm.MethodName)), (Jvm.Cond.code ({ cls := "TypeAtNightModel", name := "bears", desc := "(I)I" } : Jvm.MethodName) prog_14_method_65_code (4 : Nat) (Option.some Jvm.ClassFile.FieldType.int)), (Jvm.Cond.methodLink "TypeAtNightModel" (311 : Nat) ({ cls := "TypeAtNightModel", name := "isText", desc := "(I)Z" } : Jvm.MethodName)), (Jvm.Cond.privateMethod ({ cls := "TypeAtNightModel", name := "isText", desc := "(I)Z" } : Jvm.MethodName)), (Jvm.Cond.instanceMethod ({ cls := "TypeAtNightModel", name := "isText", desc := "(I)Z" } : Jvm.MethodName)), (Jvm.Cond.code ({ cls := "TypeAtNightModel", name := "isText", desc := "(I)Z" } : Jvm.MethodName) prog_14_method_64_code (3 : Nat) (Option.some Jvm.ClassFile.FieldType.boolean)), (Jvm.Cond.methodLink "TypeAtNightLaw" (109 : Nat) ({ cls := "TypeAtNightModel", name := "spans", desc := "()I" } : Jvm.MethodName)), (Jvm.Cond.instanceMethod ({ cls := "TypeAtNightModel", name := "spans", desc := "()I" } : Jvm.MethodName)), (Jvm.Cond.selects "TypeAtNightModel" ({ cls := "TypeAtNightModel", name := "spans", desc := "()I" } : Jvm.MethodName) ({ cls := "TypeAtNightModel", name := "spans", desc := "()I" } : Jvm.MethodName)), (Jvm.Cond.code ({ cls := "TypeAtNightModel", name := "spans", desc := "()I" } : Jvm.MethodName) prog_14_method_66_code (4 : Nat) (Option.some Jvm.ClassFile.FieldType.int))]
def cw7_13 : List Cond := [(Jvm.Cond.methodLink "TypeAtNightLaw" (113 : Nat) ({ cls := "TypeAtNightModel", name := "packs", desc := "()I" } : Jvm.MethodName)), (Jvm.Cond.instanceMethod ({ cls := "TypeAtNightModel", name := "packs", desc := "()I" } : Jvm.MethodName)), (Jvm.Cond.selects "TypeAtNightModel" ({ cls := "TypeAtNightModel", name := "packs", desc := "()I" } : Jvm.MethodName) ({ cls := "TypeAtNightModel", name := "packs", desc := "()I" } : Jvm.MethodName)), (Jvm.Cond.code ({ cls := "TypeAtNightModel", name := "packs", desc := "()I" } : Jvm.MethodName) prog_14_method_68_code (5 : Nat) (Option.some Jvm.ClassFile.FieldType.int)), (Jvm.Cond.methodLink "TypeAtNightModel" (314 : Nat) ({ cls := "TypeAtNightModel", name := "canSet", desc := "(I)Z" } : Jvm.MethodName)), (Jvm.Cond.privateMethod ({ cls := "TypeAtNightModel", name := "canSet", desc := "(I)Z" } : Jvm.MethodName)), (Jvm.Cond.instanceMethod ({ cls := "TypeAtNightModel", name := "canSet", desc := "(I)Z" } : Jvm.MethodName)), (Jvm.Cond.code ({ cls := "TypeAtNightModel", name := "canSet", desc := "(I)Z" } : Jvm.MethodName) prog_14_method_67_code (5 : Nat) (Option.some Jvm.ClassFile.FieldType.boolean)), (Jvm.Cond.methodLink "TypeAtNightLaw" (117 : Nat) ({ cls := "TypeAtNightModel", name := "later", desc := "(II)I" } : Jvm.MethodName)), (Jvm.Cond.instanceMethod ({ cls := "TypeAtNightModel", name := "later", desc := "(II)I" } : Jvm.MethodName)), (Jvm.Cond.selects "TypeAtNightModel" ({ cls := "TypeAtNightModel", name := "later", desc := "(II)I" } : Jvm.MethodName) ({ cls := "TypeAtNightModel", name := "later", desc := "(II)I" } : Jvm.MethodName)), (Jvm.Cond.code ({ cls := "TypeAtNightModel", name := "later", desc := "(II)I" } : Jvm.MethodName) prog_14_method_70_code (3 : Nat) (Option.some Jvm.ClassFile.FieldType.int)), (Jvm.Cond.methodLink "TypeAtNightModel" (317 : Nat) ({ cls := "TypeAtNightModel", name := "goThen", desc := "(I)V" } : Jvm.MethodName)), (Jvm.Cond.privateMethod ({ cls := "TypeAtNightModel", name := "goThen", desc := "(I)V" } : Jvm.MethodName)), (Jvm.Cond.instanceMethod ({ cls := "TypeAtNightModel", name := "goThen", desc := "(I)V" } : Jvm.MethodName)), (Jvm.Cond.code ({ cls := "TypeAtNightModel", name := "goThen", desc := "(I)V" } : Jvm.MethodName) prog_14_method_69_code (2 : Nat) (Option.none : Option Jvm.ClassFile.FieldType))]
def cw7_14 : List Cond := [(Jvm.Cond.methodLink "TypeAtNightLaw" (121 : Nat) ({ cls := "TypeAtNightModel", name := "settles", desc := "()I" } : Jvm.MethodName)), (Jvm.Cond.instanceMethod ({ cls := "TypeAtNightModel", name := "settles", desc := "()I" } : Jvm.MethodName)), (Jvm.Cond.selects "TypeAtNightModel" ({ cls := "TypeAtNightModel", name := "settles", desc := "()I" } : Jvm.MethodName) ({ cls := "TypeAtNightModel", name := "settles", desc := "()I" } : Jvm.MethodName)), (Jvm.Cond.code ({ cls := "TypeAtNightModel", name := "settles", desc := "()I" } : Jvm.MethodName) prog_14_method_73_code (5 : Nat) (Option.some Jvm.ClassFile.FieldType.int)), (Jvm.Cond.methodLink "TypeAtNightModel" (320 : Nat) ({ cls := "TypeAtNightModel", name := "layTrail", desc := "()V" } : Jvm.MethodName)), (Jvm.Cond.privateMethod ({ cls := "TypeAtNightModel", name := "layTrail", desc := "()V" } : Jvm.MethodName)), (Jvm.Cond.instanceMethod ({ cls := "TypeAtNightModel", name := "layTrail", desc := "()V" } : Jvm.MethodName)), (Jvm.Cond.code ({ cls := "TypeAtNightModel", name := "layTrail", desc := "()V" } : Jvm.MethodName) prog_14_method_71_code (2 : Nat) (Option.none : Option Jvm.ClassFile.FieldType)), (Jvm.Cond.methodLink "TypeAtNightModel" (323 : Nat) ({ cls := "TypeAtNightModel", name := "areLike", desc := "(IIII)Z" } : Jvm.MethodName)), (Jvm.Cond.privateMethod ({ cls := "TypeAtNightModel", name := "areLike", desc := "(IIII)Z" } : Jvm.MethodName)), (Jvm.Cond.instanceMethod ({ cls := "TypeAtNightModel", name := "areLike", desc := "(IIII)Z" } : Jvm.MethodName)), (Jvm.Cond.code ({ cls := "TypeAtNightModel", name := "areLike", desc := "(IIII)Z" } : Jvm.MethodName) prog_14_method_72_code (6 : Nat) (Option.some Jvm.ClassFile.FieldType.boolean)), (Jvm.Cond.methodLink "TypeAtNightLaw" (125 : Nat) ({ cls := "TypeAtNightModel", name := "round", desc := "()I" } : Jvm.MethodName)), (Jvm.Cond.instanceMethod ({ cls := "TypeAtNightModel", name := "round", desc := "()I" } : Jvm.MethodName)), (Jvm.Cond.selects "TypeAtNightModel" ({ cls := "TypeAtNightModel", name := "round", desc := "()I" } : Jvm.MethodName) ({ cls := "TypeAtNightModel", name := "round", desc := "()I" } : Jvm.MethodName)), (Jvm.Cond.code ({ cls := "TypeAtNightModel", name := "round", desc := "()I" } : Jvm.MethodName) prog_14_method_74_code (3 : Nat) (Option.some Jvm.ClassFile.FieldType.int))]
set_option maxRecDepth 100000 in
theorem ce_7 : tables_1_7 = cw7_0 ++ (cw7_1 ++ (cw7_2 ++ (cw7_3 ++ (cw7_4 ++ (cw7_5 ++ (cw7_6 ++ (cw7_7 ++ (cw7_8 ++ (cw7_9 ++ (cw7_10 ++ (cw7_11 ++ (cw7_12 ++ (cw7_13 ++ (cw7_14)))))))))))))) := rfl
theorem ct_7 {w : Cond} (h : w ∈ tables_1_7) : w ∈ lw_tbl := by
  refine List.mem_append_right _ ?_
  unfold tables_1
  simp only [List.mem_append]
  exact Or.inr (Or.inr (Or.inr (Or.inr (Or.inr (Or.inr (Or.inl h))))))
theorem gm_w7_0 {w : Cond} (h : w ∈ cw7_0) (hg : goodWord w = true) : w ∈ g_tbl := g_mw (ct_7 (by rw [ce_7]; exact List.mem_append_left _ h)) hg
theorem gm_w7_1 {w : Cond} (h : w ∈ cw7_1) (hg : goodWord w = true) : w ∈ g_tbl := g_mw (ct_7 (by rw [ce_7]; exact List.mem_append_right _ (List.mem_append_left _ h))) hg
theorem gm_w7_2 {w : Cond} (h : w ∈ cw7_2) (hg : goodWord w = true) : w ∈ g_tbl := g_mw (ct_7 (by rw [ce_7]; exact List.mem_append_right _ (List.mem_append_right _ (List.mem_append_left _ h)))) hg
theorem gm_w7_3 {w : Cond} (h : w ∈ cw7_3) (hg : goodWord w = true) : w ∈ g_tbl := g_mw (ct_7 (by rw [ce_7]; exact List.mem_append_right _ (List.mem_append_right _ (List.mem_append_right _ (List.mem_append_left _ h))))) hg
theorem gm_w7_4 {w : Cond} (h : w ∈ cw7_4) (hg : goodWord w = true) : w ∈ g_tbl := g_mw (ct_7 (by rw [ce_7]; exact List.mem_append_right _ (List.mem_append_right _ (List.mem_append_right _ (List.mem_append_right _ (List.mem_append_left _ h)))))) hg
theorem gm_w7_5 {w : Cond} (h : w ∈ cw7_5) (hg : goodWord w = true) : w ∈ g_tbl := g_mw (ct_7 (by rw [ce_7]; exact List.mem_append_right _ (List.mem_append_right _ (List.mem_append_right _ (List.mem_append_right _ (List.mem_append_right _ (List.mem_append_left _ h))))))) hg
theorem gm_w7_6 {w : Cond} (h : w ∈ cw7_6) (hg : goodWord w = true) : w ∈ g_tbl := g_mw (ct_7 (by rw [ce_7]; exact List.mem_append_right _ (List.mem_append_right _ (List.mem_append_right _ (List.mem_append_right _ (List.mem_append_right _ (List.mem_append_right _ (List.mem_append_left _ h)))))))) hg
theorem gm_w7_7 {w : Cond} (h : w ∈ cw7_7) (hg : goodWord w = true) : w ∈ g_tbl := g_mw (ct_7 (by rw [ce_7]; exact List.mem_append_right _ (List.mem_append_right _ (List.mem_append_right _ (List.mem_append_right _ (List.mem_append_right _ (List.mem_append_right _ (List.mem_append_right _ (List.mem_append_left _ h))))))))) hg
theorem gm_w7_8 {w : Cond} (h : w ∈ cw7_8) (hg : goodWord w = true) : w ∈ g_tbl := g_mw (ct_7 (by rw [ce_7]; exact List.mem_append_right _ (List.mem_append_right _ (List.mem_append_right _ (List.mem_append_right _ (List.mem_append_right _ (List.mem_append_right _ (List.mem_append_right _ (List.mem_append_right _ (List.mem_append_left _ h)))))))))) hg
theorem gm_w7_9 {w : Cond} (h : w ∈ cw7_9) (hg : goodWord w = true) : w ∈ g_tbl := g_mw (ct_7 (by rw [ce_7]; exact List.mem_append_right _ (List.mem_append_right _ (List.mem_append_right _ (List.mem_append_right _ (List.mem_append_right _ (List.mem_append_right _ (List.mem_append_right _ (List.mem_append_right _ (List.mem_append_right _ (List.mem_append_left _ h))))))))))) hg
theorem gm_w7_10 {w : Cond} (h : w ∈ cw7_10) (hg : goodWord w = true) : w ∈ g_tbl := g_mw (ct_7 (by rw [ce_7]; exact List.mem_append_right _ (List.mem_append_right _ (List.mem_append_right _ (List.mem_append_right _ (List.mem_append_right _ (List.mem_append_right _ (List.mem_append_right _ (List.mem_append_right _ (List.mem_append_right _ (List.mem_append_right _ (List.mem_append_left _ h)))))))))))) hg
theorem gm_w7_11 {w : Cond} (h : w ∈ cw7_11) (hg : goodWord w = true) : w ∈ g_tbl := g_mw (ct_7 (by rw [ce_7]; exact List.mem_append_right _ (List.mem_append_right _ (List.mem_append_right _ (List.mem_append_right _ (List.mem_append_right _ (List.mem_append_right _ (List.mem_append_right _ (List.mem_append_right _ (List.mem_append_right _ (List.mem_append_right _ (List.mem_append_right _ (List.mem_append_left _ h))))))))))))) hg
theorem gm_w7_12 {w : Cond} (h : w ∈ cw7_12) (hg : goodWord w = true) : w ∈ g_tbl := g_mw (ct_7 (by rw [ce_7]; exact List.mem_append_right _ (List.mem_append_right _ (List.mem_append_right _ (List.mem_append_right _ (List.mem_append_right _ (List.mem_append_right _ (List.mem_append_right _ (List.mem_append_right _ (List.mem_append_right _ (List.mem_append_right _ (List.mem_append_right _ (List.mem_append_right _ (List.mem_append_left _ h)))))))))))))) hg
theorem gm_w7_13 {w : Cond} (h : w ∈ cw7_13) (hg : goodWord w = true) : w ∈ g_tbl := g_mw (ct_7 (by rw [ce_7]; exact List.mem_append_right _ (List.mem_append_right _ (List.mem_append_right _ (List.mem_append_right _ (List.mem_append_right _ (List.mem_append_right _ (List.mem_append_right _ (List.mem_append_right _ (List.mem_append_right _ (List.mem_append_right _ (List.mem_append_right _ (List.mem_append_right _ (List.mem_append_right _ (List.mem_append_left _ h))))))))))))))) hg
theorem gm_w7_14 {w : Cond} (h : w ∈ cw7_14) (hg : goodWord w = true) : w ∈ g_tbl := g_mw (ct_7 (by rw [ce_7]; exact List.mem_append_right _ (List.mem_append_right _ (List.mem_append_right _ (List.mem_append_right _ (List.mem_append_right _ (List.mem_append_right _ (List.mem_append_right _ (List.mem_append_right _ (List.mem_append_right _ (List.mem_append_right _ (List.mem_append_right _ (List.mem_append_right _ (List.mem_append_right _ (List.mem_append_right _ (h)))))))))))))))) hg
def cw8_0 : List Cond := [(Jvm.Cond.methodLink "TypeAtNightLaw" (129 : Nat) ({ cls := "TypeAtNightModel", name := "gravest", desc := "(I)I" } : Jvm.MethodName)), (Jvm.Cond.instanceMethod ({ cls := "TypeAtNightModel", name := "gravest", desc := "(I)I" } : Jvm.MethodName)), (Jvm.Cond.selects "TypeAtNightModel" ({ cls := "TypeAtNightModel", name := "gravest", desc := "(I)I" } : Jvm.MethodName) ({ cls := "TypeAtNightModel", name := "gravest", desc := "(I)I" } : Jvm.MethodName)), (Jvm.Cond.code ({ cls := "TypeAtNightModel", name := "gravest", desc := "(I)I" } : Jvm.MethodName) prog_14_method_75_code (4 : Nat) (Option.some Jvm.ClassFile.FieldType.int)), (Jvm.Cond.methodLink "TypeAtNightModel" (327 : Nat) ({ cls := "java/lang/Math", name := "abs", desc := "(I)I" } : Jvm.MethodName)), (Jvm.Cond.methodLink "TypeAtNightLaw" (133 : Nat) ({ cls := "TypeAtNightModel", name := "blows", desc := "(II)I" } : Jvm.MethodName)), (Jvm.Cond.instanceMethod ({ cls := "TypeAtNightModel", name := "blows", desc := "(II)I" } : Jvm.MethodName)), (Jvm.Cond.selects "TypeAtNightModel" ({ cls := "TypeAtNightModel", name := "blows", desc := "(II)I" } : Jvm.MethodName) ({ cls := "TypeAtNightModel", name := "blows", desc := "(II)I" } : Jvm.MethodName)), (Jvm.Cond.code ({ cls := "TypeAtNightModel", name := "blows", desc := "(II)I" } : Jvm.MethodName) prog_14_method_77_code (5 : Nat) (Option.some Jvm.ClassFile.FieldType.int)), (Jvm.Cond.methodLink "TypeAtNightModel" (330 : Nat) ({ cls := "TypeAtNightModel", name := "isCalm", desc := "(III)Z" } : Jvm.MethodName)), (Jvm.Cond.privateMethod ({ cls := "TypeAtNightModel", name := "isCalm", desc := "(III)Z" } : Jvm.MethodName)), (Jvm.Cond.instanceMethod ({ cls := "TypeAtNightModel", name := "isCalm", desc := "(III)Z" } : Jvm.MethodName)), (Jvm.Cond.code ({ cls := "TypeAtNightModel", name := "isCalm", desc := "(III)Z" } : Jvm.MethodName) prog_14_method_76_code (5 : Nat) (Option.some Jvm.ClassFile.FieldType.boolean)), (Jvm.Cond.methodLink "TypeAtNightLaw" (137 : Nat) ({ cls := "TypeAtNightModel", name := "parts", desc := "()I" } : Jvm.MethodName)), (Jvm.Cond.instanceMethod ({ cls := "TypeAtNightModel", name := "parts", desc := "()I" } : Jvm.MethodName)), (Jvm.Cond.selects "TypeAtNightModel" ({ cls := "TypeAtNightModel", name := "parts", desc := "()I" } : Jvm.MethodName) ({ cls := "TypeAtNightModel", name := "parts", desc := "()I" } : Jvm.MethodName))]
def cw8_1 : List Cond := [(Jvm.Cond.code ({ cls := "TypeAtNightModel", name := "parts", desc := "()I" } : Jvm.MethodName) prog_14_method_79_code (4 : Nat) (Option.some Jvm.ClassFile.FieldType.int)), (Jvm.Cond.methodLink "TypeAtNightModel" (333 : Nat) ({ cls := "TypeAtNightModel", name := "canBox", desc := "(II)Z" } : Jvm.MethodName)), (Jvm.Cond.privateMethod ({ cls := "TypeAtNightModel", name := "canBox", desc := "(II)Z" } : Jvm.MethodName)), (Jvm.Cond.instanceMethod ({ cls := "TypeAtNightModel", name := "canBox", desc := "(II)Z" } : Jvm.MethodName)), (Jvm.Cond.code ({ cls := "TypeAtNightModel", name := "canBox", desc := "(II)Z" } : Jvm.MethodName) prog_14_method_78_code (6 : Nat) (Option.some Jvm.ClassFile.FieldType.boolean)), (Jvm.Cond.methodLink "TypeAtNightLaw" (141 : Nat) ({ cls := "TypeAtNightModel", name := "mixed", desc := "()I" } : Jvm.MethodName)), (Jvm.Cond.instanceMethod ({ cls := "TypeAtNightModel", name := "mixed", desc := "()I" } : Jvm.MethodName)), (Jvm.Cond.selects "TypeAtNightModel" ({ cls := "TypeAtNightModel", name := "mixed", desc := "()I" } : Jvm.MethodName) ({ cls := "TypeAtNightModel", name := "mixed", desc := "()I" } : Jvm.MethodName)), (Jvm.Cond.code ({ cls := "TypeAtNightModel", name := "mixed", desc := "()I" } : Jvm.MethodName) prog_14_method_80_code (4 : Nat) (Option.some Jvm.ClassFile.FieldType.int)), (Jvm.Cond.methodLink "TypeAtNightLaw" (145 : Nat) ({ cls := "TypeAtNightModel", name := "rubs", desc := "()I" } : Jvm.MethodName)), (Jvm.Cond.instanceMethod ({ cls := "TypeAtNightModel", name := "rubs", desc := "()I" } : Jvm.MethodName)), (Jvm.Cond.selects "TypeAtNightModel" ({ cls := "TypeAtNightModel", name := "rubs", desc := "()I" } : Jvm.MethodName) ({ cls := "TypeAtNightModel", name := "rubs", desc := "()I" } : Jvm.MethodName)), (Jvm.Cond.code ({ cls := "TypeAtNightModel", name := "rubs", desc := "()I" } : Jvm.MethodName) prog_14_method_81_code (6 : Nat) (Option.some Jvm.ClassFile.FieldType.int)), (Jvm.Cond.methodLink "TypeAtNightLaw" (149 : Nat) ({ cls := "TypeAtNightModel", name := "chord", desc := "(I)I" } : Jvm.MethodName)), (Jvm.Cond.instanceMethod ({ cls := "TypeAtNightModel", name := "chord", desc := "(I)I" } : Jvm.MethodName)), (Jvm.Cond.selects "TypeAtNightModel" ({ cls := "TypeAtNightModel", name := "chord", desc := "(I)I" } : Jvm.MethodName) ({ cls := "TypeAtNightModel", name := "chord", desc := "(I)I" } : Jvm.MethodName))]
def cw8_2 : List Cond := [(Jvm.Cond.code ({ cls := "TypeAtNightModel", name := "chord", desc := "(I)I" } : Jvm.MethodName) prog_14_method_83_code (4 : Nat) (Option.some Jvm.ClassFile.FieldType.int)), (Jvm.Cond.methodLink "TypeAtNightModel" (336 : Nat) ({ cls := "TypeAtNightModel", name := "isChord", desc := "(I)Z" } : Jvm.MethodName)), (Jvm.Cond.privateMethod ({ cls := "TypeAtNightModel", name := "isChord", desc := "(I)Z" } : Jvm.MethodName)), (Jvm.Cond.instanceMethod ({ cls := "TypeAtNightModel", name := "isChord", desc := "(I)Z" } : Jvm.MethodName)), (Jvm.Cond.code ({ cls := "TypeAtNightModel", name := "isChord", desc := "(I)Z" } : Jvm.MethodName) prog_14_method_82_code (3 : Nat) (Option.some Jvm.ClassFile.FieldType.boolean)), (Jvm.Cond.methodLink "TypeAtNightLaw" (153 : Nat) ({ cls := "TypeAtNightModel", name := "heard", desc := "(II)I" } : Jvm.MethodName)), (Jvm.Cond.instanceMethod ({ cls := "TypeAtNightModel", name := "heard", desc := "(II)I" } : Jvm.MethodName)), (Jvm.Cond.selects "TypeAtNightModel" ({ cls := "TypeAtNightModel", name := "heard", desc := "(II)I" } : Jvm.MethodName) ({ cls := "TypeAtNightModel", name := "heard", desc := "(II)I" } : Jvm.MethodName)), (Jvm.Cond.code ({ cls := "TypeAtNightModel", name := "heard", desc := "(II)I" } : Jvm.MethodName) prog_14_method_85_code (3 : Nat) (Option.some Jvm.ClassFile.FieldType.int)), (Jvm.Cond.methodLink "TypeAtNightModel" (339 : Nat) ({ cls := "TypeAtNightModel", name := "highOf", desc := "(I)I" } : Jvm.MethodName)), (Jvm.Cond.static ({ cls := "TypeAtNightModel", name := "highOf", desc := "(I)I" } : Jvm.MethodName)), (Jvm.Cond.code ({ cls := "TypeAtNightModel", name := "highOf", desc := "(I)I" } : Jvm.MethodName) prog_14_method_84_code (1 : Nat) (Option.some Jvm.ClassFile.FieldType.int)), (Jvm.Cond.methodLink "TypeAtNightLaw" (157 : Nat) ({ cls := "TypeAtNightModel", name := "forget", desc := "()I" } : Jvm.MethodName)), (Jvm.Cond.instanceMethod ({ cls := "TypeAtNightModel", name := "forget", desc := "()I" } : Jvm.MethodName)), (Jvm.Cond.selects "TypeAtNightModel" ({ cls := "TypeAtNightModel", name := "forget", desc := "()I" } : Jvm.MethodName) ({ cls := "TypeAtNightModel", name := "forget", desc := "()I" } : Jvm.MethodName)), (Jvm.Cond.code ({ cls := "TypeAtNightModel", name := "forget", desc := "()I" } : Jvm.MethodName) prog_14_method_86_code (2 : Nat) (Option.some Jvm.ClassFile.FieldType.int))]
def cw8_3 : List Cond := [(Jvm.Cond.methodLink "TypeAtNightLaw" (161 : Nat) ({ cls := "TypeAtNightModel", name := "fits", desc := "()I" } : Jvm.MethodName)), (Jvm.Cond.instanceMethod ({ cls := "TypeAtNightModel", name := "fits", desc := "()I" } : Jvm.MethodName)), (Jvm.Cond.selects "TypeAtNightModel" ({ cls := "TypeAtNightModel", name := "fits", desc := "()I" } : Jvm.MethodName) ({ cls := "TypeAtNightModel", name := "fits", desc := "()I" } : Jvm.MethodName)), (Jvm.Cond.code ({ cls := "TypeAtNightModel", name := "fits", desc := "()I" } : Jvm.MethodName) prog_14_method_89_code (2 : Nat) (Option.some Jvm.ClassFile.FieldType.int)), (Jvm.Cond.methodLink "TypeAtNightModel" (348 : Nat) ({ cls := "TypeAtNightModel", name := "fitting", desc := "()I" } : Jvm.MethodName)), (Jvm.Cond.privateMethod ({ cls := "TypeAtNightModel", name := "fitting", desc := "()I" } : Jvm.MethodName)), (Jvm.Cond.instanceMethod ({ cls := "TypeAtNightModel", name := "fitting", desc := "()I" } : Jvm.MethodName)), (Jvm.Cond.code ({ cls := "TypeAtNightModel", name := "fitting", desc := "()I" } : Jvm.MethodName) prog_14_method_88_code (5 : Nat) (Option.some Jvm.ClassFile.FieldType.int)), (Jvm.Cond.methodLink "TypeAtNightModel" (345 : Nat) ({ cls := "TypeAtNightModel", name := "isSo", desc := "(III)Z" } : Jvm.MethodName)), (Jvm.Cond.privateMethod ({ cls := "TypeAtNightModel", name := "isSo", desc := "(III)Z" } : Jvm.MethodName)), (Jvm.Cond.instanceMethod ({ cls := "TypeAtNightModel", name := "isSo", desc := "(III)Z" } : Jvm.MethodName)), (Jvm.Cond.code ({ cls := "TypeAtNightModel", name := "isSo", desc := "(III)Z" } : Jvm.MethodName) prog_14_method_87_code (4 : Nat) (Option.some Jvm.ClassFile.FieldType.boolean)), (Jvm.Cond.methodLink "TypeAtNightLaw" (165 : Nat) ({ cls := "TypeAtNightModel", name := "asks", desc := "()I" } : Jvm.MethodName)), (Jvm.Cond.instanceMethod ({ cls := "TypeAtNightModel", name := "asks", desc := "()I" } : Jvm.MethodName)), (Jvm.Cond.selects "TypeAtNightModel" ({ cls := "TypeAtNightModel", name := "asks", desc := "()I" } : Jvm.MethodName) ({ cls := "TypeAtNightModel", name := "asks", desc := "()I" } : Jvm.MethodName)), (Jvm.Cond.code ({ cls := "TypeAtNightModel", name := "asks", desc := "()I" } : Jvm.MethodName) prog_14_method_90_code (7 : Nat) (Option.some Jvm.ClassFile.FieldType.int))]
def cw8_4 : List Cond := [(Jvm.Cond.methodLink "TypeAtNightLaw" (170 : Nat) ({ cls := "TypeAtNightModel", name := "saw", desc := "(III)I" } : Jvm.MethodName)), (Jvm.Cond.instanceMethod ({ cls := "TypeAtNightModel", name := "saw", desc := "(III)I" } : Jvm.MethodName)), (Jvm.Cond.selects "TypeAtNightModel" ({ cls := "TypeAtNightModel", name := "saw", desc := "(III)I" } : Jvm.MethodName) ({ cls := "TypeAtNightModel", name := "saw", desc := "(III)I" } : Jvm.MethodName)), (Jvm.Cond.code ({ cls := "TypeAtNightModel", name := "saw", desc := "(III)I" } : Jvm.MethodName) prog_14_method_92_code (4 : Nat) (Option.some Jvm.ClassFile.FieldType.int)), (Jvm.Cond.methodLink "TypeAtNightModel" (351 : Nat) ({ cls := "TypeAtNightModel", name := "isMood", desc := "(I)Z" } : Jvm.MethodName)), (Jvm.Cond.static ({ cls := "TypeAtNightModel", name := "isMood", desc := "(I)Z" } : Jvm.MethodName)), (Jvm.Cond.code ({ cls := "TypeAtNightModel", name := "isMood", desc := "(I)Z" } : Jvm.MethodName) prog_14_method_91_code (1 : Nat) (Option.some Jvm.ClassFile.FieldType.boolean)), (Jvm.Cond.methodLink "TypeAtNightLaw" (174 : Nat) ({ cls := "TypeAtNightModel", name := "denies", desc := "()I" } : Jvm.MethodName)), (Jvm.Cond.instanceMethod ({ cls := "TypeAtNightModel", name := "denies", desc := "()I" } : Jvm.MethodName)), (Jvm.Cond.selects "TypeAtNightModel" ({ cls := "TypeAtNightModel", name := "denies", desc := "()I" } : Jvm.MethodName) ({ cls := "TypeAtNightModel", name := "denies", desc := "()I" } : Jvm.MethodName)), (Jvm.Cond.code ({ cls := "TypeAtNightModel", name := "denies", desc := "()I" } : Jvm.MethodName) prog_14_method_93_code (2 : Nat) (Option.some Jvm.ClassFile.FieldType.int)), (Jvm.Cond.methodLink "TypeAtNightLaw" (178 : Nat) ({ cls := "TypeAtNightModel", name := "laws", desc := "()I" } : Jvm.MethodName)), (Jvm.Cond.instanceMethod ({ cls := "TypeAtNightModel", name := "laws", desc := "()I" } : Jvm.MethodName)), (Jvm.Cond.selects "TypeAtNightModel" ({ cls := "TypeAtNightModel", name := "laws", desc := "()I" } : Jvm.MethodName) ({ cls := "TypeAtNightModel", name := "laws", desc := "()I" } : Jvm.MethodName)), (Jvm.Cond.code ({ cls := "TypeAtNightModel", name := "laws", desc := "()I" } : Jvm.MethodName) prog_14_method_96_code (3 : Nat) (Option.some Jvm.ClassFile.FieldType.int)), (Jvm.Cond.methodLink "TypeAtNightModel" (361 : Nat) ({ cls := "TypeAtNightModel", name := "isLaw", desc := "(I)Z" } : Jvm.MethodName))]
def cw8_5 : List Cond := [(Jvm.Cond.privateMethod ({ cls := "TypeAtNightModel", name := "isLaw", desc := "(I)Z" } : Jvm.MethodName)), (Jvm.Cond.instanceMethod ({ cls := "TypeAtNightModel", name := "isLaw", desc := "(I)Z" } : Jvm.MethodName)), (Jvm.Cond.code ({ cls := "TypeAtNightModel", name := "isLaw", desc := "(I)Z" } : Jvm.MethodName) prog_14_method_95_code (3 : Nat) (Option.some Jvm.ClassFile.FieldType.boolean)), (Jvm.Cond.methodLink "TypeAtNightModel" (357 : Nat) ({ cls := "TypeAtNightModel", name := "becomes", desc := "(III)I" } : Jvm.MethodName)), (Jvm.Cond.static ({ cls := "TypeAtNightModel", name := "becomes", desc := "(III)I" } : Jvm.MethodName)), (Jvm.Cond.code ({ cls := "TypeAtNightModel", name := "becomes", desc := "(III)I" } : Jvm.MethodName) prog_14_method_94_code (3 : Nat) (Option.some Jvm.ClassFile.FieldType.int)), (Jvm.Cond.methodLink "TypeAtNightLaw" (182 : Nat) ({ cls := "TypeAtNightModel", name := "looks", desc := "()I" } : Jvm.MethodName)), (Jvm.Cond.instanceMethod ({ cls := "TypeAtNightModel", name := "looks", desc := "()I" } : Jvm.MethodName)), (Jvm.Cond.selects "TypeAtNightModel" ({ cls := "TypeAtNightModel", name := "looks", desc := "()I" } : Jvm.MethodName) ({ cls := "TypeAtNightModel", name := "looks", desc := "()I" } : Jvm.MethodName)), (Jvm.Cond.code ({ cls := "TypeAtNightModel", name := "looks", desc := "()I" } : Jvm.MethodName) prog_14_method_97_code (8 : Nat) (Option.some Jvm.ClassFile.FieldType.int)), (Jvm.Cond.methodLink "TypeAtNightLaw" (186 : Nat) ({ cls := "TypeAtNightModel", name := "reads", desc := "(I)I" } : Jvm.MethodName)), (Jvm.Cond.instanceMethod ({ cls := "TypeAtNightModel", name := "reads", desc := "(I)I" } : Jvm.MethodName)), (Jvm.Cond.selects "TypeAtNightModel" ({ cls := "TypeAtNightModel", name := "reads", desc := "(I)I" } : Jvm.MethodName) ({ cls := "TypeAtNightModel", name := "reads", desc := "(I)I" } : Jvm.MethodName)), (Jvm.Cond.code ({ cls := "TypeAtNightModel", name := "reads", desc := "(I)I" } : Jvm.MethodName) prog_14_method_100_code (8 : Nat) (Option.some Jvm.ClassFile.FieldType.int)), (Jvm.Cond.methodLink "TypeAtNightModel" (368 : Nat) ({ cls := "TypeAtNightModel", name := "power", desc := "(JI)J" } : Jvm.MethodName)), (Jvm.Cond.static ({ cls := "TypeAtNightModel", name := "power", desc := "(JI)J" } : Jvm.MethodName))]
def cw8_6 : List Cond := [(Jvm.Cond.code ({ cls := "TypeAtNightModel", name := "power", desc := "(JI)J" } : Jvm.MethodName) prog_14_method_99_code (6 : Nat) (Option.some Jvm.ClassFile.FieldType.long)), (Jvm.Cond.constantLong "TypeAtNightModel" (372 : Nat) (10 : Int64)), (Jvm.Cond.methodLink "TypeAtNightModel" (364 : Nat) ({ cls := "TypeAtNightModel", name := "common", desc := "(JJ)J" } : Jvm.MethodName)), (Jvm.Cond.static ({ cls := "TypeAtNightModel", name := "common", desc := "(JJ)J" } : Jvm.MethodName)), (Jvm.Cond.code ({ cls := "TypeAtNightModel", name := "common", desc := "(JJ)J" } : Jvm.MethodName) prog_14_method_98_code (4 : Nat) (Option.some Jvm.ClassFile.FieldType.long)), (Jvm.Cond.methodLink "TypeAtNightLaw" (190 : Nat) ({ cls := "TypeAtNightModel", name := "galley", desc := "(I)I" } : Jvm.MethodName)), (Jvm.Cond.instanceMethod ({ cls := "TypeAtNightModel", name := "galley", desc := "(I)I" } : Jvm.MethodName)), (Jvm.Cond.selects "TypeAtNightModel" ({ cls := "TypeAtNightModel", name := "galley", desc := "(I)I" } : Jvm.MethodName) ({ cls := "TypeAtNightModel", name := "galley", desc := "(I)I" } : Jvm.MethodName)), (Jvm.Cond.code ({ cls := "TypeAtNightModel", name := "galley", desc := "(I)I" } : Jvm.MethodName) prog_14_method_101_code (6 : Nat) (Option.some Jvm.ClassFile.FieldType.int)), (Jvm.Cond.constantLong "TypeAtNightModel" (374 : Nat) (-1 : Int64)), (Jvm.Cond.methodLink "TypeAtNightModel" (376 : Nat) ({ cls := "java/lang/Long", name := "numberOfTrailingZeros", desc := "(J)I" } : Jvm.MethodName)), (Jvm.Cond.methodLink "TypeAtNightLaw" (194 : Nat) ({ cls := "TypeAtNightModel", name := "rests", desc := "(I)I" } : Jvm.MethodName)), (Jvm.Cond.instanceMethod ({ cls := "TypeAtNightModel", name := "rests", desc := "(I)I" } : Jvm.MethodName)), (Jvm.Cond.selects "TypeAtNightModel" ({ cls := "TypeAtNightModel", name := "rests", desc := "(I)I" } : Jvm.MethodName) ({ cls := "TypeAtNightModel", name := "rests", desc := "(I)I" } : Jvm.MethodName)), (Jvm.Cond.code ({ cls := "TypeAtNightModel", name := "rests", desc := "(I)I" } : Jvm.MethodName) prog_14_method_104_code (5 : Nat) (Option.some Jvm.ClassFile.FieldType.int)), (Jvm.Cond.methodLink "TypeAtNightModel" (385 : Nat) ({ cls := "TypeAtNightModel", name := "isBest", desc := "(III)Z" } : Jvm.MethodName))]
def cw8_7 : List Cond := [(Jvm.Cond.static ({ cls := "TypeAtNightModel", name := "isBest", desc := "(III)Z" } : Jvm.MethodName)), (Jvm.Cond.code ({ cls := "TypeAtNightModel", name := "isBest", desc := "(III)Z" } : Jvm.MethodName) prog_14_method_103_code (4 : Nat) (Option.some Jvm.ClassFile.FieldType.boolean)), (Jvm.Cond.methodLink "TypeAtNightModel" (382 : Nat) ({ cls := "TypeAtNightModel", name := "gets", desc := "(III)I" } : Jvm.MethodName)), (Jvm.Cond.static ({ cls := "TypeAtNightModel", name := "gets", desc := "(III)I" } : Jvm.MethodName)), (Jvm.Cond.code ({ cls := "TypeAtNightModel", name := "gets", desc := "(III)I" } : Jvm.MethodName) prog_14_method_102_code (4 : Nat) (Option.some Jvm.ClassFile.FieldType.int)), (Jvm.Cond.methodLink "TypeAtNightLaw" (198 : Nat) ({ cls := "TypeAtNightModel", name := "law", desc := "()I" } : Jvm.MethodName)), (Jvm.Cond.instanceMethod ({ cls := "TypeAtNightModel", name := "law", desc := "()I" } : Jvm.MethodName)), (Jvm.Cond.selects "TypeAtNightModel" ({ cls := "TypeAtNightModel", name := "law", desc := "()I" } : Jvm.MethodName) ({ cls := "TypeAtNightModel", name := "law", desc := "()I" } : Jvm.MethodName)), (Jvm.Cond.code ({ cls := "TypeAtNightModel", name := "law", desc := "()I" } : Jvm.MethodName) prog_14_method_106_code (7 : Nat) (Option.some Jvm.ClassFile.FieldType.int)), (Jvm.Cond.methodLink "TypeAtNightModel" (388 : Nat) ({ cls := "TypeAtNightModel", name := "farBehind5", desc := "()I" } : Jvm.MethodName)), (Jvm.Cond.privateMethod ({ cls := "TypeAtNightModel", name := "farBehind5", desc := "()I" } : Jvm.MethodName)), (Jvm.Cond.instanceMethod ({ cls := "TypeAtNightModel", name := "farBehind5", desc := "()I" } : Jvm.MethodName)), (Jvm.Cond.code ({ cls := "TypeAtNightModel", name := "farBehind5", desc := "()I" } : Jvm.MethodName) prog_14_method_105_code (3 : Nat) (Option.some Jvm.ClassFile.FieldType.int)), (Jvm.Cond.methodLink "TypeAtNightLaw" (202 : Nat) ({ cls := "TypeAtNightModel", name := "years", desc := "(II)I" } : Jvm.MethodName)), (Jvm.Cond.instanceMethod ({ cls := "TypeAtNightModel", name := "years", desc := "(II)I" } : Jvm.MethodName)), (Jvm.Cond.selects "TypeAtNightModel" ({ cls := "TypeAtNightModel", name := "years", desc := "(II)I" } : Jvm.MethodName) ({ cls := "TypeAtNightModel", name := "years", desc := "(II)I" } : Jvm.MethodName))]
def cw8_8 : List Cond := [(Jvm.Cond.code ({ cls := "TypeAtNightModel", name := "years", desc := "(II)I" } : Jvm.MethodName) prog_14_method_108_code (7 : Nat) (Option.some Jvm.ClassFile.FieldType.int)), (Jvm.Cond.methodLink "TypeAtNightModel" (395 : Nat) ({ cls := "TypeAtNightModel", name := "draw", desc := "(I)I" } : Jvm.MethodName)), (Jvm.Cond.privateMethod ({ cls := "TypeAtNightModel", name := "draw", desc := "(I)I" } : Jvm.MethodName)), (Jvm.Cond.instanceMethod ({ cls := "TypeAtNightModel", name := "draw", desc := "(I)I" } : Jvm.MethodName)), (Jvm.Cond.code ({ cls := "TypeAtNightModel", name := "draw", desc := "(I)I" } : Jvm.MethodName) prog_14_method_107_code (2 : Nat) (Option.some Jvm.ClassFile.FieldType.int)), (Jvm.Cond.constant "TypeAtNightModel" (394 : Nat) (1103515245 : Int32)), (Jvm.Cond.methodLink "TypeAtNightLaw" (206 : Nat) ({ cls := "TypeAtNightModel", name := "keep", desc := "(I)Z" } : Jvm.MethodName)), (Jvm.Cond.instanceMethod ({ cls := "TypeAtNightModel", name := "keep", desc := "(I)Z" } : Jvm.MethodName)), (Jvm.Cond.selects "TypeAtNightModel" ({ cls := "TypeAtNightModel", name := "keep", desc := "(I)Z" } : Jvm.MethodName) ({ cls := "TypeAtNightModel", name := "keep", desc := "(I)Z" } : Jvm.MethodName)), (Jvm.Cond.code ({ cls := "TypeAtNightModel", name := "keep", desc := "(I)Z" } : Jvm.MethodName) prog_14_method_109_code (2 : Nat) (Option.some Jvm.ClassFile.FieldType.boolean)), (Jvm.Cond.methodLink "TypeAtNightLaw" (210 : Nat) ({ cls := "TypeAtNightModel", name := "again", desc := "(I)Z" } : Jvm.MethodName)), (Jvm.Cond.instanceMethod ({ cls := "TypeAtNightModel", name := "again", desc := "(I)Z" } : Jvm.MethodName)), (Jvm.Cond.selects "TypeAtNightModel" ({ cls := "TypeAtNightModel", name := "again", desc := "(I)Z" } : Jvm.MethodName) ({ cls := "TypeAtNightModel", name := "again", desc := "(I)Z" } : Jvm.MethodName)), (Jvm.Cond.code ({ cls := "TypeAtNightModel", name := "again", desc := "(I)Z" } : Jvm.MethodName) prog_14_method_110_code (3 : Nat) (Option.some Jvm.ClassFile.FieldType.boolean)), (Jvm.Cond.methodLink "TypeAtNightLaw" (214 : Nat) ({ cls := "TypeAtNightModel", name := "count", desc := "(I)I" } : Jvm.MethodName)), (Jvm.Cond.instanceMethod ({ cls := "TypeAtNightModel", name := "count", desc := "(I)I" } : Jvm.MethodName))]
def cw8_9 : List Cond := [(Jvm.Cond.selects "TypeAtNightModel" ({ cls := "TypeAtNightModel", name := "count", desc := "(I)I" } : Jvm.MethodName) ({ cls := "TypeAtNightModel", name := "count", desc := "(I)I" } : Jvm.MethodName)), (Jvm.Cond.code ({ cls := "TypeAtNightModel", name := "count", desc := "(I)I" } : Jvm.MethodName) prog_14_method_111_code (2 : Nat) (Option.some Jvm.ClassFile.FieldType.int)), (Jvm.Cond.methodLink "TypeAtNightLaw" (218 : Nat) ({ cls := "TypeAtNightModel", name := "row", desc := "(I)J" } : Jvm.MethodName)), (Jvm.Cond.instanceMethod ({ cls := "TypeAtNightModel", name := "row", desc := "(I)J" } : Jvm.MethodName)), (Jvm.Cond.selects "TypeAtNightModel" ({ cls := "TypeAtNightModel", name := "row", desc := "(I)J" } : Jvm.MethodName) ({ cls := "TypeAtNightModel", name := "row", desc := "(I)J" } : Jvm.MethodName)), (Jvm.Cond.code ({ cls := "TypeAtNightModel", name := "row", desc := "(I)J" } : Jvm.MethodName) prog_14_method_112_code (2 : Nat) (Option.some Jvm.ClassFile.FieldType.long)), (Jvm.Cond.sameMethod "java/lang/Throwable" "java/lang/Throwable" "fillInStackTrace" "(I)Ljava/lang/Throwable;"), (Jvm.Cond.castable "TypeAtNight" "java/lang/Object"), (Jvm.Cond.castable "TypeAtNight$Text" "java/lang/Object"), (Jvm.Cond.castable "TypeAtNight$Numbers" "java/lang/Object"), (Jvm.Cond.castable "TypeAtNight$TypeCase" "java/lang/Object"), (Jvm.Cond.castable "TypeAtNight$Past" "java/lang/Object"), (Jvm.Cond.castable "TypeAtNight$Rule" "java/lang/Object"), (Jvm.Cond.castable "TypeAtNight$Letters" "java/lang/Object"), (Jvm.Cond.castable "TypeAtNight$Words" "java/lang/Object"), (Jvm.Cond.castable "TypeAtNight$Boxing" "java/lang/Object")]
def cw8_10 : List Cond := [(Jvm.Cond.castable "TypeAtNight$Hearsay" "java/lang/Object"), (Jvm.Cond.castable "TypeAtNight$Mixing" "java/lang/Object"), (Jvm.Cond.castable "TypeAtNight$Galley" "java/lang/Object"), (Jvm.Cond.castable "TypeAtNightModel" "java/lang/Object"), (Jvm.Cond.castable "java/util/NoSuchElementException" "java/lang/Object"), (Jvm.Cond.castable "java/lang/Throwable" "java/lang/Object"), (Jvm.Cond.castable "java/lang/String" "java/lang/Object"), (Jvm.Cond.fieldLink "java/lang/String" (9 : Nat) "java/lang/String" "value" "[B"), (Jvm.Cond.fieldLink "java/lang/String" (15 : Nat) "java/lang/String" "coder" "B")]
set_option maxRecDepth 100000 in
theorem ce_8 : tables_1_8 = cw8_0 ++ (cw8_1 ++ (cw8_2 ++ (cw8_3 ++ (cw8_4 ++ (cw8_5 ++ (cw8_6 ++ (cw8_7 ++ (cw8_8 ++ (cw8_9 ++ (cw8_10)))))))))) := rfl
theorem ct_8 {w : Cond} (h : w ∈ tables_1_8) : w ∈ lw_tbl := by
  refine List.mem_append_right _ ?_
  unfold tables_1
  simp only [List.mem_append]
  exact Or.inr (Or.inr (Or.inr (Or.inr (Or.inr (Or.inr (Or.inr (h)))))))
theorem gm_w8_0 {w : Cond} (h : w ∈ cw8_0) (hg : goodWord w = true) : w ∈ g_tbl := g_mw (ct_8 (by rw [ce_8]; exact List.mem_append_left _ h)) hg
theorem gm_w8_1 {w : Cond} (h : w ∈ cw8_1) (hg : goodWord w = true) : w ∈ g_tbl := g_mw (ct_8 (by rw [ce_8]; exact List.mem_append_right _ (List.mem_append_left _ h))) hg
theorem gm_w8_2 {w : Cond} (h : w ∈ cw8_2) (hg : goodWord w = true) : w ∈ g_tbl := g_mw (ct_8 (by rw [ce_8]; exact List.mem_append_right _ (List.mem_append_right _ (List.mem_append_left _ h)))) hg
theorem gm_w8_3 {w : Cond} (h : w ∈ cw8_3) (hg : goodWord w = true) : w ∈ g_tbl := g_mw (ct_8 (by rw [ce_8]; exact List.mem_append_right _ (List.mem_append_right _ (List.mem_append_right _ (List.mem_append_left _ h))))) hg
theorem gm_w8_4 {w : Cond} (h : w ∈ cw8_4) (hg : goodWord w = true) : w ∈ g_tbl := g_mw (ct_8 (by rw [ce_8]; exact List.mem_append_right _ (List.mem_append_right _ (List.mem_append_right _ (List.mem_append_right _ (List.mem_append_left _ h)))))) hg
theorem gm_w8_5 {w : Cond} (h : w ∈ cw8_5) (hg : goodWord w = true) : w ∈ g_tbl := g_mw (ct_8 (by rw [ce_8]; exact List.mem_append_right _ (List.mem_append_right _ (List.mem_append_right _ (List.mem_append_right _ (List.mem_append_right _ (List.mem_append_left _ h))))))) hg
theorem gm_w8_6 {w : Cond} (h : w ∈ cw8_6) (hg : goodWord w = true) : w ∈ g_tbl := g_mw (ct_8 (by rw [ce_8]; exact List.mem_append_right _ (List.mem_append_right _ (List.mem_append_right _ (List.mem_append_right _ (List.mem_append_right _ (List.mem_append_right _ (List.mem_append_left _ h)))))))) hg
theorem gm_w8_7 {w : Cond} (h : w ∈ cw8_7) (hg : goodWord w = true) : w ∈ g_tbl := g_mw (ct_8 (by rw [ce_8]; exact List.mem_append_right _ (List.mem_append_right _ (List.mem_append_right _ (List.mem_append_right _ (List.mem_append_right _ (List.mem_append_right _ (List.mem_append_right _ (List.mem_append_left _ h))))))))) hg
theorem gm_w8_8 {w : Cond} (h : w ∈ cw8_8) (hg : goodWord w = true) : w ∈ g_tbl := g_mw (ct_8 (by rw [ce_8]; exact List.mem_append_right _ (List.mem_append_right _ (List.mem_append_right _ (List.mem_append_right _ (List.mem_append_right _ (List.mem_append_right _ (List.mem_append_right _ (List.mem_append_right _ (List.mem_append_left _ h)))))))))) hg
theorem gm_w8_9 {w : Cond} (h : w ∈ cw8_9) (hg : goodWord w = true) : w ∈ g_tbl := g_mw (ct_8 (by rw [ce_8]; exact List.mem_append_right _ (List.mem_append_right _ (List.mem_append_right _ (List.mem_append_right _ (List.mem_append_right _ (List.mem_append_right _ (List.mem_append_right _ (List.mem_append_right _ (List.mem_append_right _ (List.mem_append_left _ h))))))))))) hg
theorem gm_w8_10 {w : Cond} (h : w ∈ cw8_10) (hg : goodWord w = true) : w ∈ g_tbl := g_mw (ct_8 (by rw [ce_8]; exact List.mem_append_right _ (List.mem_append_right _ (List.mem_append_right _ (List.mem_append_right _ (List.mem_append_right _ (List.mem_append_right _ (List.mem_append_right _ (List.mem_append_right _ (List.mem_append_right _ (List.mem_append_right _ (h)))))))))))) hg
end
