/-! THE THIN MACHINE: a plain function that runs a method's decoded instructions over a heap that is a function from addresses to cells. Nothing here speaks of one program: the tables are parameters. -/
abbrev tm_E : Type := (Nat × vp_A) ⊕ (Nat × List Value)
/-- the next address, the slots made so far, the cells -/
abbrev tm_H : Type := Nat × Nat × (Nat → tm_E)
/-- an instruction and two numbers that belong to it -/
abbrev tm_N : Type := Instr × Nat × Nat
/-- a method: name, code, locals, what it returns, the number of its class -/
abbrev tm_M : Type := MethodName × ByteArray × Nat × Option FieldType × Nat
abbrev tm_O : Type := (Nat × List Value × List Value × tm_H) ⊕ (Option Value ⊕ (Nat × List Value × List Value))
def tm_up (f : Nat → tm_E) (a : Nat) (e : tm_E) : Nat → tm_E := fun q => if q = a then e else f q
theorem tm_up_s {f : Nat → tm_E} {a : Nat} {e : tm_E} : tm_up f a e a = e := if_pos rfl
theorem tm_up_n {f : Nat → tm_E} {a b : Nat} {e : tm_E} (h : b ≠ a) : tm_up f a e b = f b := if_neg h
def tm_put (h : tm_H) (a : Nat) (e : tm_E) : tm_H := (h.1, h.2.1, tm_up h.2.2 a e)
def tm_new (h : tm_H) (k : Nat) (e : tm_E) : tm_H := (h.1 + 1, h.2.1 + k, tm_up h.2.2 h.1 e)
/-- the default of a place that holds nothing -/
abbrev tm_z : Value := .retAddr 0
def tm_set1 : List Value → Nat → Value → Option (List Value)
  | [], _, _ => none
  | _ :: t, 0, v => some (v :: t)
  | x :: t, i + 1, v => if i = 0 ∧ x.category = 2 then none else match tm_set1 t i v with
    | some t' => some (x :: t')
    | none => none
def tm_set2 : List Value → Nat → Value → Option (List Value)
  | [], _, _ => none
  | [_], _, _ => none
  | _ :: _ :: t, 0, v => some (v :: tm_z :: t)
  | x :: y :: t, i + 1, v => if i = 0 ∧ x.category = 2 then none else match tm_set2 (y :: t) i v with
    | some t' => some (x :: t')
    | none => none
def tm_ex : List Value → List Value
  | [] => []
  | v :: t => if v.category = 2 then v :: tm_z :: tm_ex t else v :: tm_ex t
def tm_ent (vs : List Value) (n : Nat) : List Value := tm_ex vs ++ List.replicate (n - (tm_ex vs).length) tm_z
def tm_len : Instr → Nat
  | .bipush _ => 2
  | .sipush _ => 3
  | .ldc _ => 2
  | .ldc_w _ => 3
  | .ldc2_w _ => 3
  | .iload _ => 2
  | .lload _ => 2
  | .aload _ => 2
  | .istore _ => 2
  | .lstore _ => 2
  | .astore _ => 2
  | .iinc _ _ => 3
  | .goto _ => 3
  | .ifCond _ _ => 3
  | .if_icmp _ _ => 3
  | .getfield _ => 3
  | .putfield _ => 3
  | .getstatic _ => 3
  | .new _ => 3
  | .newarray _ => 2
  | .anewarray _ => 3
  | .invokevirtual _ => 3
  | .invokespecial _ => 3
  | .invokestatic _ => 3
  | .tableswitch _ _ _ _ => 0
  | .lookupswitch _ _ => 0
  | _ => 1
def tm_nx (pc : Nat) (ls st : List Value) (h : tm_H) : Option tm_O := some (.inl (pc, ls, st, h))
def tm_i1 (f : Int32 → Value) (pc : Nat) (ls st : List Value) (h : tm_H) : Option tm_O := match st with
  | .int x :: r => tm_nx (pc + 1) ls (f x :: r) h
  | _ => none
def tm_i2 (f : Int32 → Int32 → Value) (pc : Nat) (ls st : List Value) (h : tm_H) : Option tm_O := match st with
  | .int y :: .int x :: r => tm_nx (pc + 1) ls (f x y :: r) h
  | _ => none
def tm_d2 (f : Int32 → Int32 → Value) (pc : Nat) (ls st : List Value) (h : tm_H) : Option tm_O := match st with
  | .int y :: .int x :: r => if y = 0 then none else tm_nx (pc + 1) ls (f x y :: r) h
  | _ => none
def tm_l1 (f : Int64 → Value) (pc : Nat) (ls st : List Value) (h : tm_H) : Option tm_O := match st with
  | .long x :: r => tm_nx (pc + 1) ls (f x :: r) h
  | _ => none
def tm_l2 (f : Int64 → Int64 → Value) (pc : Nat) (ls st : List Value) (h : tm_H) : Option tm_O := match st with
  | .long y :: .long x :: r => tm_nx (pc + 1) ls (f x y :: r) h
  | _ => none
def tm_e2 (f : Int64 → Int64 → Value) (pc : Nat) (ls st : List Value) (h : tm_H) : Option tm_O := match st with
  | .long y :: .long x :: r => if y = 0 then none else tm_nx (pc + 1) ls (f x y :: r) h
  | _ => none
def tm_s2 (f : Int64 → Int32 → Value) (pc : Nat) (ls st : List Value) (h : tm_H) : Option tm_O := match st with
  | .int y :: .long x :: r => tm_nx (pc + 1) ls (f x y :: r) h
  | _ => none
def tm_ldi (n i pc : Nat) (ls st : List Value) (h : tm_H) : Option tm_O := match ls[i]? with
  | some (.int x) => tm_nx (pc + n) ls (.int x :: st) h
  | _ => none
def tm_ldl (n i pc : Nat) (ls st : List Value) (h : tm_H) : Option tm_O := match ls[i]? with
  | some (.long x) => tm_nx (pc + n) ls (.long x :: st) h
  | _ => none
def tm_lda (n i pc : Nat) (ls st : List Value) (h : tm_H) : Option tm_O := match ls[i]? with
  | some (.ref x) => tm_nx (pc + n) ls (.ref x :: st) h
  | _ => none
def tm_sti (n i pc : Nat) (ls st : List Value) (h : tm_H) : Option tm_O := match st with
  | .int x :: r => match tm_set1 ls i (.int x) with
    | some ls' => tm_nx (pc + n) ls' r h
    | none => none
  | _ => none
def tm_sta (n i pc : Nat) (ls st : List Value) (h : tm_H) : Option tm_O := match st with
  | .ref x :: r => match tm_set1 ls i (.ref x) with
    | some ls' => tm_nx (pc + n) ls' r h
    | none => none
  | _ => none
def tm_stl (n i pc : Nat) (ls st : List Value) (h : tm_H) : Option tm_O := match st with
  | .long x :: r => match tm_set2 ls i (.long x) with
    | some ls' => tm_nx (pc + n) ls' r h
    | none => none
  | _ => none
def tm_inc (i : Nat) (k : Int) (pc : Nat) (ls st : List Value) (h : tm_H) : Option tm_O := match ls[i]? with
  | some (.int x) => match tm_set1 ls i (.int (x + Int32.ofInt k)) with
    | some ls' => tm_nx (pc + 3) ls' st h
    | none => none
  | _ => none
def tm_b1 (c : Jvm.ClassFile.Cond) (x : Int32) (t f : Option tm_O) : Option tm_O := match c with
  | .eq => if x = 0 then t else f
  | .ne => if x = 0 then f else t
  | .lt => if x < 0 then t else f
  | .ge => if 0 ≤ x then t else f
  | .gt => if 0 < x then t else f
  | .le => if x ≤ 0 then t else f
def tm_b2 (c : Jvm.ClassFile.Cond) (x y : Int32) (t f : Option tm_O) : Option tm_O := match c with
  | .eq => if x = y then t else f
  | .ne => if x = y then f else t
  | .lt => if x < y then t else f
  | .ge => if y ≤ x then t else f
  | .gt => if y < x then t else f
  | .le => if x ≤ y then t else f
def tm_jmp (pc : Nat) (off : Int) (ls st : List Value) (h : tm_H) : Option tm_O := if 0 ≤ (pc : Int) + off then tm_nx ((pc : Int) + off).toNat ls st h else none
/-- the tables of a program: instructions, methods, types of fields, fields of a new object, addresses of strings, the script (address, length, contents), methods that are known by what they do -/
abbrev tm_G : Type := (Nat → Nat → Option tm_N) × (Nat → tm_M) × (Nat → Nat → FieldType) × (Nat → List Value) × ((Nat → Nat) × (Nat → Nat) × (Nat → List Int32) × Value) × (Nat × Nat × (Nat → Int32)) × (Nat → Nat → List Value → tm_H → Option (Option Value × tm_H))
abbrev tm_ft (G : tm_G) : Nat → Nat → Option tm_N := G.1
abbrev tm_mt (G : tm_G) : Nat → tm_M := G.2.1
abbrev tm_fy (G : tm_G) : Nat → Nat → FieldType := G.2.2.1
abbrev tm_dv (G : tm_G) : Nat → List Value := G.2.2.2.1
abbrev tm_sa (G : tm_G) : Nat → Nat := G.2.2.2.2.1.1
/-- the strings' byte arrays, their bytes; what SIOOBE_FORMATTER holds -/
abbrev tm_sv (G : tm_G) : Nat → Nat := G.2.2.2.2.1.2.1
abbrev tm_sb (G : tm_G) : Nat → List Int32 := G.2.2.2.2.1.2.2.1
abbrev tm_fm (G : tm_G) : Value := G.2.2.2.2.1.2.2.2
abbrev tm_sc (G : tm_G) : Nat × Nat × (Nat → Int32) := G.2.2.2.2.2.1
abbrev tm_xt (G : tm_G) : Nat → Nat → List Value → tm_H → Option (Option Value × tm_H) := G.2.2.2.2.2.2
def tm_cs (st : List Value) : Nat := (st.map fun v => v.category).sum
def tm_ldc (G : tm_G) (n a b pc : Nat) (ls st : List Value) (h : tm_H) : Option tm_O := if b = 0 then tm_nx (pc + n) ls (.int (Int32.ofNat a) :: st) h else tm_nx (pc + n) ls (.ref (tm_sa G a) :: st) h
def tm_get (ci k pc : Nat) (ls st : List Value) (h : tm_H) : Option tm_O := match st with
  | .ref o :: r => match h.2.2 o with
    | .inr (c, fs) => if c = ci then match fs[k]? with
      | some v => tm_nx (pc + 3) ls (v :: r) h
      | none => none else none
    | _ => none
  | _ => none
def tm_set (G : tm_G) (ci k pc : Nat) (ls st : List Value) (h : tm_H) : Option tm_O := match st with
  | v :: .ref o :: r => match h.2.2 o with
    | .inr (c, fs) => if c = ci ∧ k < fs.length ∧ narrow (tm_fy G ci k) v = v ∧ fits (tm_fy G ci k) v = true then tm_nx (pc + 3) ls r (tm_put h o (.inr (ci, fs.set k v))) else none
    | _ => none
  | _ => none
def tm_ild (pc : Nat) (ls st : List Value) (h : tm_H) : Option tm_O := match st with
  | .int i :: .ref a :: r => match h.2.2 a with
    | .inl (0, n, .inl f) => if i < 0 ∨ n ≤ i.toNatClampNeg then none else tm_nx (pc + 1) ls (.int (f i.toNatClampNeg) :: r) h
    | _ => none
  | _ => none
/-- a place of the script -/
def tm_sld (G : tm_G) (pc : Nat) (ls st : List Value) (h : tm_H) : Option tm_O := match st with
  | .int i :: .ref a :: r => if a = (tm_sc G).1 then (if i < 0 ∨ (tm_sc G).2.1 ≤ i.toNatClampNeg then none else tm_nx (pc + 1) ls (.int ((tm_sc G).2.2 i.toNatClampNeg) :: r) h) else none
  | _ => none
def tm_bld (pc : Nat) (ls st : List Value) (h : tm_H) : Option tm_O := match st with
  | .int i :: .ref a :: r => match h.2.2 a with
    | .inl (1, n, .inl f) => if i < 0 ∨ n ≤ i.toNatClampNeg then none else tm_nx (pc + 1) ls (.int (f i.toNatClampNeg) :: r) h
    | .inl (4, n, .inl f) => if i < 0 ∨ n ≤ i.toNatClampNeg then none else tm_nx (pc + 1) ls (.int (f i.toNatClampNeg) :: r) h
    | _ => none
  | _ => none
def tm_cld (pc : Nat) (ls st : List Value) (h : tm_H) : Option tm_O := match st with
  | .int i :: .ref a :: r => match h.2.2 a with
    | .inl (2, n, .inl f) => if i < 0 ∨ n ≤ i.toNatClampNeg then none else tm_nx (pc + 1) ls (.int (f i.toNatClampNeg) :: r) h
    | _ => none
  | _ => none
def tm_lld (pc : Nat) (ls st : List Value) (h : tm_H) : Option tm_O := match st with
  | .int i :: .ref a :: r => match h.2.2 a with
    | .inl (3, n, .inr (.inl f)) => if i < 0 ∨ n ≤ i.toNatClampNeg then none else tm_nx (pc + 1) ls (.long (f i.toNatClampNeg) :: r) h
    | _ => none
  | _ => none
def tm_ald (pc : Nat) (ls st : List Value) (h : tm_H) : Option tm_O := match st with
  | .int i :: .ref a :: r => match h.2.2 a with
    | .inl (5, n, .inr (.inr (.inr (.inr f)))) => if i < 0 ∨ n ≤ i.toNatClampNeg then none else tm_nx (pc + 1) ls (va_rf (f i.toNatClampNeg) :: r) h
    | _ => none
  | _ => none
def tm_isr (pc : Nat) (ls st : List Value) (h : tm_H) : Option tm_O := match st with
  | .int x :: .int i :: .ref a :: r => match h.2.2 a with
    | .inl (0, n, .inl f) => if i < 0 ∨ n ≤ i.toNatClampNeg then none else tm_nx (pc + 1) ls r (tm_put h a (.inl (0, n, .inl (upd f i.toNatClampNeg x))))
    | _ => none
  | _ => none
def tm_bsr (pc : Nat) (ls st : List Value) (h : tm_H) : Option tm_O := match st with
  | .int x :: .int i :: .ref a :: r => match h.2.2 a with
    | .inl (1, n, .inl f) => if i < 0 ∨ n ≤ i.toNatClampNeg then none else tm_nx (pc + 1) ls r (tm_put h a (.inl (1, n, .inl (upd f i.toNatClampNeg (vp_nar .byte x)))))
    | .inl (4, n, .inl f) => if i < 0 ∨ n ≤ i.toNatClampNeg then none else tm_nx (pc + 1) ls r (tm_put h a (.inl (4, n, .inl (upd f i.toNatClampNeg (vp_nar .boolean x)))))
    | _ => none
  | _ => none
def tm_csr (pc : Nat) (ls st : List Value) (h : tm_H) : Option tm_O := match st with
  | .int x :: .int i :: .ref a :: r => match h.2.2 a with
    | .inl (2, n, .inl f) => if i < 0 ∨ n ≤ i.toNatClampNeg then none else tm_nx (pc + 1) ls r (tm_put h a (.inl (2, n, .inl (upd f i.toNatClampNeg (vp_nar .char x)))))
    | _ => none
  | _ => none
def tm_lsr (pc : Nat) (ls st : List Value) (h : tm_H) : Option tm_O := match st with
  | .long x :: .int i :: .ref a :: r => match h.2.2 a with
    | .inl (3, n, .inr (.inl f)) => if i < 0 ∨ n ≤ i.toNatClampNeg then none else tm_nx (pc + 1) ls r (tm_put h a (.inl (3, n, .inr (.inl (vp_updL f i.toNatClampNeg x)))))
    | _ => none
  | _ => none
def tm_asr (ci pc : Nat) (ls st : List Value) (h : tm_H) : Option tm_O := match st with
  | .ref v :: .int i :: .ref a :: r => match h.2.2 a, h.2.2 v with
    | .inl (5, n, .inr (.inr (.inr (.inr f)))), .inr (c, _) => if c = ci then (if i < 0 ∨ n ≤ i.toNatClampNeg then none else tm_nx (pc + 1) ls r (tm_put h a (.inl (5, n, .inr (.inr (.inr (.inr (va_up f i.toNatClampNeg (some v))))))))) else none
    | _, _ => none
  | _ => none
def tm_aln (pc : Nat) (ls st : List Value) (h : tm_H) : Option tm_O := match st with
  | .ref a :: r => match h.2.2 a with
    | .inl (t, n, _) => if t < 6 then tm_nx (pc + 1) ls (.int (Int32.ofNat n) :: r) h else none
    | _ => none
  | _ => none
def tm_sln (G : tm_G) (pc : Nat) (ls st : List Value) (h : tm_H) : Option tm_O := match st with
  | .ref a :: r => if a = (tm_sc G).1 then tm_nx (pc + 1) ls (.int (Int32.ofNat (tm_sc G).2.1) :: r) h else none
  | _ => none
def tm_nar (t : Nat) (z : Nat → (Nat → Int32) ⊕ (Nat → Int64) ⊕ (Nat → UInt32) ⊕ (Nat → UInt64) ⊕ (Nat → Option Nat)) (len pc : Nat) (ls st : List Value) (h : tm_H) : Option tm_O := match st with
  | .int n :: r => if n < 0 ∨ 60000000 < n.toNatClampNeg then none else tm_nx (pc + len) ls (.ref h.1 :: r) (tm_new h n.toNatClampNeg (.inl (t, n.toNatClampNeg, z 0)))
  | _ => none
/-- a String's fields: 0 value, else coder -/
def tm_gsf (G : tm_G) (k pc : Nat) (ls st : List Value) (h : tm_H) : Option tm_O := match st with
  | .ref o :: r => match h.2.2 o with
    | .inl (100, j, _) => if o = tm_sa G j ∧ j < 13 then tm_nx (pc + 3) ls ((if k = 0 then .ref (tm_sv G j) else .int 0) :: r) h else none
    | _ => none
  | _ => none
def tm_sal (G : tm_G) (pc : Nat) (ls st : List Value) (h : tm_H) : Option tm_O := match st with
  | .ref a :: r => match h.2.2 a with
    | .inl (102, j, _) => if a = tm_sv G j ∧ j < 13 then tm_nx (pc + 1) ls (.int (Int32.ofNat (tm_sb G j).length) :: r) h else none
    | _ => none
  | _ => none
def tm_sbl (G : tm_G) (pc : Nat) (ls st : List Value) (h : tm_H) : Option tm_O := match st with
  | .int i :: .ref a :: r => match h.2.2 a with
    | .inl (102, j, _) => if (a = tm_sv G j ∧ j < 13) ∧ ¬ (i < 0 ∨ (tm_sb G j).length ≤ i.toNatClampNeg) then tm_nx (pc + 1) ls (.int ((tm_sb G j).getD i.toNatClampNeg 0) :: r) h else none
    | _ => none
  | _ => none
def tm_gst (G : tm_G) (a pc : Nat) (ls st : List Value) (h : tm_H) : Option tm_O := if a = 0 then tm_nx (pc + 3) ls (.int 1 :: st) h else tm_nx (pc + 3) ls (tm_fm G :: st) h
def tm_pop (n : Nat) (st : List Value) : List Value × List Value := ((st.take n).reverse, st.drop n)
def tm_cv (G : tm_G) (a b : Nat) (st : List Value) (h : tm_H) : Option tm_O := match tm_pop b st with
  | (as, .ref o :: r) => if 1000 ≤ a then (if as.length = b ∧ tm_cs r ≤ 8 then some (.inr (.inr (a, .ref o :: as, r))) else none) else match h.2.2 o with
    | .inr (c, _) => if c = (tm_mt G a).2.2.2.2 ∧ as.length = b ∧ tm_cs r ≤ 8 then some (.inr (.inr (a, .ref o :: as, r))) else none
    | .inl (100, j, _) => if ((tm_mt G a).2.2.2.2 = 200 ∧ o = tm_sa G j ∧ j < 13) ∧ as.length = b ∧ tm_cs r ≤ 8 then some (.inr (.inr (a, .ref o :: as, r))) else none
    | _ => none
  | _ => none
def tm_ci (a b : Nat) (st : List Value) : Option tm_O := match tm_pop b st with
  | (as, .ref o :: r) => if as.length = b ∧ tm_cs r ≤ 8 then some (.inr (.inr (a, .ref o :: as, r))) else none
  | _ => none
def tm_ca (a b : Nat) (st : List Value) : Option tm_O := match tm_pop b st with
  | (as, r) => if as.length = b ∧ tm_cs r ≤ 8 then some (.inr (.inr (a, as, r))) else none
def tm_oi (d pc : Nat) (ls st : List Value) (h : tm_H) : Option tm_O := match st with
  | .ref _ :: r => if 1 ≤ d ∧ tm_cs r ≤ 8 then tm_nx (pc + 3) ls r h else none
  | _ => none
/-- System.arraycopy of ints -/
def tm_cp (d pc : Nat) (ls st : List Value) (h : tm_H) : Option tm_O := match st with
  | .int n :: .int dp :: .ref b :: .int sp :: .ref a :: r => match h.2.2 a, h.2.2 b with
    | .inl (0, n0, .inl f), .inl (0, n1, .inl g) => if 1 ≤ d ∧ tm_cs r ≤ 8 ∧ ¬ sp < 0 ∧ ¬ dp < 0 ∧ ¬ n < 0 ∧ sp.toNatClampNeg + n.toNatClampNeg ≤ n0 ∧ dp.toNatClampNeg + n.toNatClampNeg ≤ n1 then tm_nx (pc + 3) ls r (tm_put h b (.inl (0, n1, .inl (if sp.toNatClampNeg = 0 ∧ dp.toNatClampNeg = 0 ∧ n.toNatClampNeg = n1 then f else va_cpy f g sp.toNatClampNeg dp.toNatClampNeg n.toNatClampNeg)))) else none
    | _, _ => none
  | _ => none
def tm_mx (d pc : Nat) (ls st : List Value) (h : tm_H) : Option tm_O := match st with
  | .int y :: .int x :: r => if 1 ≤ d ∧ tm_cs r ≤ 8 then tm_nx (pc + 3) ls (.int (if x < y then y else x) :: r) h else none
  | _ => none
def tm_mn (d pc : Nat) (ls st : List Value) (h : tm_H) : Option tm_O := match st with
  | .int y :: .int x :: r => if 1 ≤ d ∧ tm_cs r ≤ 8 then tm_nx (pc + 3) ls (.int (if y < x then y else x) :: r) h else none
  | _ => none
def tm_ab (d pc : Nat) (ls st : List Value) (h : tm_H) : Option tm_O := match st with
  | .int x :: r => if 1 ≤ d ∧ tm_cs r ≤ 8 then tm_nx (pc + 3) ls (.int (if 0 ≤ x then x else 0 - x) :: r) h else none
  | _ => none
def tm_tsw (pc : Nat) (dflt lo hi : Int) (offs : Array Int) (ls st : List Value) (h : tm_H) : Option tm_O := match st with
  | .int x :: r => if x.toInt < lo ∨ hi < x.toInt then tm_jmp pc dflt ls r h else match offs[(x.toInt - lo).toNat]? with
    | some off => tm_jmp pc off ls r h
    | none => none
  | _ => none
def tm_lsw (pc : Nat) (dflt : Int) (ps : Array (Int × Int)) (ls st : List Value) (h : tm_H) : Option tm_O := match st with
  | .int x :: r => if (ps.toList.zip (ps.toList.drop 1)).all (fun (a, next) => a.1 < next.1) = true then tm_jmp pc (Op.lookupswitch.offset ps.toList dflt x.toInt) ls r h else none
  | _ => none
def tm_nw (G : tm_G) (ci pc : Nat) (ls st : List Value) (h : tm_H) : Option tm_O := tm_nx (pc + 3) ls (.ref h.1 :: st) (tm_new h (tm_dv G ci).length (.inr (ci, tm_dv G ci)))
def tm_rt : Nat → FieldType
  | 0 => .int
  | 1 => .boolean
  | 2 => .char
  | 3 => .byte
  | _ => .short
def tm_stp (G : tm_G) (d : Nat) (e : tm_N) (pc : Nat) (ls st : List Value) (h : tm_H) : Option tm_O := match e with
  | (.iconst k, _, _) => tm_nx (pc + 1) ls (.int (Int32.ofInt k) :: st) h
  | (.bipush k, _, _) => tm_nx (pc + 2) ls (.int (Int8.ofInt k).toInt32 :: st) h
  | (.sipush k, _, _) => tm_nx (pc + 3) ls (.int (Int16.ofInt k).toInt32 :: st) h
  | (.lconst k, _, _) => tm_nx (pc + 1) ls (.long (Int64.ofNat k) :: st) h
  | (.ldc _, a, b) => tm_ldc G 2 a b pc ls st h
  | (.ldc_w _, a, b) => tm_ldc G 3 a b pc ls st h
  | (.ldc2_w _, a, _) => tm_nx (pc + 3) ls (.long (Int64.ofNat a) :: st) h
  | (.iload i, _, _) => tm_ldi 2 i pc ls st h
  | (.iload_n i, _, _) => tm_ldi 1 i pc ls st h
  | (.lload i, _, _) => tm_ldl 2 i pc ls st h
  | (.lload_n i, _, _) => tm_ldl 1 i pc ls st h
  | (.aload i, _, _) => tm_lda 2 i pc ls st h
  | (.aload_n i, _, _) => tm_lda 1 i pc ls st h
  | (.istore i, _, _) => tm_sti 2 i pc ls st h
  | (.istore_n i, _, _) => tm_sti 1 i pc ls st h
  | (.lstore i, _, _) => tm_stl 2 i pc ls st h
  | (.lstore_n i, _, _) => tm_stl 1 i pc ls st h
  | (.astore i, _, _) => tm_sta 2 i pc ls st h
  | (.astore_n i, _, _) => tm_sta 1 i pc ls st h
  | (.iinc i k, _, _) => tm_inc i k pc ls st h
  | (.iadd, _, _) => tm_i2 (fun x y => .int (x + y)) pc ls st h
  | (.isub, _, _) => tm_i2 (fun x y => .int (x - y)) pc ls st h
  | (.imul, _, _) => tm_i2 (fun x y => .int (x * y)) pc ls st h
  | (.iand, _, _) => tm_i2 (fun x y => .int (x &&& y)) pc ls st h
  | (.ior, _, _) => tm_i2 (fun x y => .int (x ||| y)) pc ls st h
  | (.ixor, _, _) => tm_i2 (fun x y => .int (x ^^^ y)) pc ls st h
  | (.ishl, _, _) => tm_i2 (fun x y => .int (x <<< (y &&& 31))) pc ls st h
  | (.ishr, _, _) => tm_i2 (fun x y => .int (x >>> (y &&& 31))) pc ls st h
  | (.iushr, _, _) => tm_i2 (fun x y => .int (x.toUInt32 >>> (y.toUInt32 &&& Int32.toUInt32 31)).toInt32) pc ls st h
  | (.idiv, _, _) => tm_d2 (fun x y => .int (x / y)) pc ls st h
  | (.irem, _, _) => tm_d2 (fun x y => .int (x - x / y * y)) pc ls st h
  | (.ineg, _, _) => tm_i1 (fun x => .int (-x)) pc ls st h
  | (.i2l, _, _) => tm_i1 (fun x => .long x.toInt64) pc ls st h
  | (.i2b, _, _) => tm_i1 (fun x => .int x.toInt8.toInt32) pc ls st h
  | (.i2s, _, _) => tm_i1 (fun x => .int x.toInt16.toInt32) pc ls st h
  | (.i2c, _, _) => tm_i1 (fun x => .int (x.toUInt32 % 65536).toInt32) pc ls st h
  | (.l2i, _, _) => tm_l1 (fun x => .int x.toInt32) pc ls st h
  | (.ladd, _, _) => tm_l2 (fun x y => .long (x + y)) pc ls st h
  | (.lmul, _, _) => tm_l2 (fun x y => .long (x * y)) pc ls st h
  | (.land, _, _) => tm_l2 (fun x y => .long (x &&& y)) pc ls st h
  | (.lor, _, _) => tm_l2 (fun x y => .long (x ||| y)) pc ls st h
  | (.lxor, _, _) => tm_l2 (fun x y => .long (x ^^^ y)) pc ls st h
  | (.lcmp, _, _) => tm_l2 (fun x y => .int (lg_cmp x y)) pc ls st h
  | (.ldiv, _, _) => tm_e2 (fun x y => .long (x / y)) pc ls st h
  | (.lrem, _, _) => tm_e2 (fun x y => .long (x - x / y * y)) pc ls st h
  | (.lshl, _, _) => tm_s2 (fun x y => .long (x <<< (y.toInt64 &&& 63))) pc ls st h
  | (.lushr, _, _) => tm_s2 (fun x y => .long (x.toUInt64 >>> (y.toInt64.toUInt64 &&& Int64.toUInt64 63)).toInt64) pc ls st h
  | (.dup, _, _) => match st with
    | v :: r => if v.category = 1 then tm_nx (pc + 1) ls (v :: v :: r) h else none
    | _ => none
  | (.pop, _, _) => match st with
    | v :: r => if v.category = 1 then tm_nx (pc + 1) ls r h else none
    | _ => none
  | (.dup2, _, _) => match st with
    | v :: w :: r => if v.category = 1 ∧ w.category = 1 then tm_nx (pc + 1) ls (v :: w :: v :: w :: r) h else none
    | _ => none
  | (.dup_x1, _, _) => match st with
    | v :: w :: r => if v.category = 1 ∧ w.category = 1 then tm_nx (pc + 1) ls (v :: w :: v :: r) h else none
    | _ => none
  | (.goto _, a, _) => tm_nx a ls st h
  | (.ifCond c _, a, _) => match st with
    | .int x :: r => tm_b1 c x (tm_nx a ls r h) (tm_nx (pc + 3) ls r h)
    | _ => none
  | (.if_icmp c _, a, _) => match st with
    | .int y :: .int x :: r => tm_b2 c x y (tm_nx a ls r h) (tm_nx (pc + 3) ls r h)
    | _ => none
  | (.tableswitch dflt lo hi offs, _, _) => tm_tsw pc dflt lo hi offs ls st h
  | (.lookupswitch dflt ps, _, _) => tm_lsw pc dflt ps ls st h
  | (.getfield _, a, b) => if a = 200 then tm_gsf G b pc ls st h else tm_get a b pc ls st h
  | (.getstatic _, a, _) => tm_gst G a pc ls st h
  | (.putfield _, a, b) => tm_set G a b pc ls st h
  | (.iaload, _, b) => if b = 0 then tm_ild pc ls st h else tm_sld G pc ls st h
  | (.baload, _, b) => if b = 0 then tm_bld pc ls st h else tm_sbl G pc ls st h
  | (.caload, _, _) => tm_cld pc ls st h
  | (.laload, _, _) => tm_lld pc ls st h
  | (.aaload, _, _) => tm_ald pc ls st h
  | (.iastore, _, _) => tm_isr pc ls st h
  | (.bastore, _, _) => tm_bsr pc ls st h
  | (.castore, _, _) => tm_csr pc ls st h
  | (.lastore, _, _) => tm_lsr pc ls st h
  | (.aastore, a, _) => tm_asr a pc ls st h
  | (.arraylength, _, b) => if b = 0 then tm_aln pc ls st h else if b = 1 then tm_sln G pc ls st h else tm_sal G pc ls st h
  | (.newarray .int, _, _) => tm_nar 0 (fun _ => .inl (fun _ => 0)) 2 pc ls st h
  | (.newarray .byte, _, _) => tm_nar 1 (fun _ => .inl (fun _ => 0)) 2 pc ls st h
  | (.newarray .char, _, _) => tm_nar 2 (fun _ => .inl (fun _ => 0)) 2 pc ls st h
  | (.newarray .long, _, _) => tm_nar 3 (fun _ => .inr (.inl (fun _ => 0))) 2 pc ls st h
  | (.newarray .boolean, _, _) => tm_nar 4 (fun _ => .inl (fun _ => 0)) 2 pc ls st h
  | (.anewarray _, _, _) => tm_nar 5 (fun _ => .inr (.inr (.inr (.inr (fun _ => none))))) 3 pc ls st h
  | (.new _, a, b) => if a = 301 then (match st with
    | [] => some (.inr (.inl (some (.double (UInt64.ofNat b)))))
    | _ => none) else tm_nw G a pc ls st h
  | (.invokevirtual _, a, b) => tm_cv G a b st h
  | (.invokespecial _, a, b) => if b = 1000 then tm_oi d pc ls st h else tm_ci a b st
  | (.invokestatic _, a, b) => if b = 1000 then tm_cp d pc ls st h else if b = 1001 then tm_mx d pc ls st h else if b = 1002 then tm_mn d pc ls st h else if b = 1003 then tm_ab d pc ls st h else tm_ca a b st
  | (.ireturn, a, _) => match st with
    | [.int v] => if narrow (tm_rt a) (.int v) = .int v then some (.inr (.inl (some (.int v)))) else none
    | _ => none
  | (.lreturn, _, _) => match st with
    | [.long v] => some (.inr (.inl (some (.long v))))
    | _ => none
  | (.areturn, _, _) => match st with
    | [.ref v] => some (.inr (.inl (some (.ref v))))
    | _ => none
  | (.return_, _, _) => match st with
    | [] => some (.inr (.inl none))
    | _ => none
  | _ => none
def tm_run (G : tm_G) : Nat → Nat → Nat → Nat → List Value → List Value → tm_H → Option (Option Value × tm_H)
  | 0, _, _, _, _, _, _ => none
  | n + 1, d, M, pc, ls, st, h => match tm_ft G M pc with
    | none => none
    | some e => match tm_stp G d e pc ls st h with
      | none => none
      | some (.inl (pc', ls', st', h')) => tm_run G n d M pc' ls' st' h'
      | some (.inr (.inl r)) => some (r, h)
      | some (.inr (.inr (mi, as, rest))) => match d with
        | 0 => none
        | d' + 1 => match (if mi < 1000 ∧ (tm_ex as).length ≤ (tm_mt G mi).2.2.1 then tm_run G n d' mi 0 (tm_ent as (tm_mt G mi).2.2.1) [] h else tm_xt G mi d' as h) with
          | none => none
          | some (r, h') => tm_run G n (d' + 1) M (pc + 3) ls (r.toList ++ rest) h'
