/-! an instruction's decoding looks at its own bytes alone (switches apart) -/
abbrev rd_D (α : Type) : Type := Jvm.ClassFile.Reader Jvm.ClassFile.DecodeError α
def rd_L {α : Type} (r r' : rd_D α) : Prop := ∀ (L S T : List UInt8) (p k k' : Nat) (x : α), L.drop p = S ++ T → Jvm.ClassFile.Reader.runAt r ⟨⟨S⟩⟩ k = .ok (x, k') → Jvm.ClassFile.Reader.runAt r' ⟨⟨L⟩⟩ (p + k) = .ok (x, p + k')
theorem rd_run_b {α β : Type} (r : rd_D α) (f : α → rd_D β) (b : ByteArray) (k : Nat) : Jvm.ClassFile.Reader.runAt (r >>= f) b k = match Jvm.ClassFile.Reader.runAt r b k with
    | .ok (x, k1) => Jvm.ClassFile.Reader.runAt (f x) b k1
    | .error e => .error e := by
  have e1 : Jvm.ClassFile.Reader.runAt (r >>= f) b k = Except.bind (r b k) (fun z => f z.1 b z.2) := rfl
  have e2 : Jvm.ClassFile.Reader.runAt r b k = r b k := rfl
  rw [e1, e2]
  cases r b k <;> rfl
theorem rd_pure {α : Type} (x : α) : rd_L (pure x) (pure x) := by
  intro L S T p k k' y _ h
  have h : Except.ok (x, k) = Except.ok (y, k') := h
  cases h
  rfl
theorem rd_bind {α β : Type} {r r' : rd_D α} {f f' : α → rd_D β} (hr : rd_L r r') (hf : ∀ x, rd_L (f x) (f' x)) : rd_L (r >>= f) (r' >>= f') := by
  intro L S T p k k' y hL h
  rw [rd_run_b] at h ⊢
  cases hq : Jvm.ClassFile.Reader.runAt r ⟨⟨S⟩⟩ k with
  | error e => rw [hq] at h; cases h
  | ok z =>
    obtain ⟨x, k1⟩ := z
    rw [hq] at h
    rw [hr L S T p k k1 x hL hq]
    exact hf x L S T p k1 k' y hL h
theorem rd_u1 : rd_L (Jvm.ClassFile.Reader.u1 : rd_D Nat) Jvm.ClassFile.Reader.u1 := by
  intro L S T p k k' y hL h
  have e : ∀ (A : List UInt8) (q : Nat), Jvm.ClassFile.Reader.runAt (Jvm.ClassFile.Reader.u1 : rd_D Nat) ⟨⟨A⟩⟩ q = if h : q < A.length then .ok ((A[q]).toNat, q + 1) else .error (Jvm.ClassFile.HasTruncated.truncated q) := by
    intro A q
    unfold Jvm.ClassFile.Reader.u1
    by_cases hq : q < A.length
    · rw [dif_pos hq]
      have hq' : q < (⟨⟨A⟩⟩ : ByteArray).size := hq
      show (if h : q < (⟨⟨A⟩⟩ : ByteArray).size then _ else _ : rd_D Nat) ⟨⟨A⟩⟩ q = _
      rw [dif_pos hq']
      rfl
    · rw [dif_neg hq]
      have hq' : ¬ q < (⟨⟨A⟩⟩ : ByteArray).size := hq
      show (if h : q < (⟨⟨A⟩⟩ : ByteArray).size then _ else _ : rd_D Nat) ⟨⟨A⟩⟩ q = _
      rw [dif_neg hq']
      rfl
  rw [e] at h ⊢
  by_cases hk : k < S.length
  · rw [dif_pos hk] at h
    cases h
    have h1 : (L.drop p)[k]? = some (S[k]) := by rw [hL, List.getElem?_append_left hk, List.getElem?_eq_getElem hk]
    rw [List.getElem?_drop] at h1
    obtain ⟨h2, h3⟩ := List.getElem?_eq_some_iff.mp h1
    rw [dif_pos h2, h3]
    rfl
  · rw [dif_neg hk] at h
    cases h
theorem rd_u2 : rd_L (Jvm.ClassFile.Reader.u2 : rd_D Nat) Jvm.ClassFile.Reader.u2 := rd_bind rd_u1 (fun _ => rd_bind rd_u1 (fun _ => rd_pure _))
theorem rd_u4 : rd_L (Jvm.ClassFile.Reader.u4 : rd_D Nat) Jvm.ClassFile.Reader.u4 := rd_bind rd_u2 (fun _ => rd_bind rd_u2 (fun _ => rd_pure _))
theorem rd_map {α β : Type} {r r' : rd_D α} (f : α → β) (hr : rd_L r r') : rd_L (f <$> r) (f <$> r') := by
  have e : ∀ q : rd_D α, f <$> q = q >>= fun x => pure (f x) := fun q => rfl
  rw [e, e]
  exact rd_bind hr (fun _ => rd_pure _)
theorem rd_s1 : rd_L (Jvm.ClassFile.Reader.s1 : rd_D Int) Jvm.ClassFile.Reader.s1 := rd_map _ rd_u1
theorem rd_s2 : rd_L (Jvm.ClassFile.Reader.s2 : rd_D Int) Jvm.ClassFile.Reader.s2 := rd_map _ rd_u2
theorem rd_s4 : rd_L (Jvm.ClassFile.Reader.s4 : rd_D Int) Jvm.ClassFile.Reader.s4 := rd_map _ rd_u4
theorem rd_throw {α : Type} (x : Jvm.ClassFile.DecodeError) (r : rd_D α) : rd_L (throw x) r := by
  intro L S T p k k' y _ h
  have h : (Except.error x : Except Jvm.ClassFile.DecodeError (α × Nat)) = .ok (y, k') := h
  cases h
theorem rd_newarray (pc pc' : Nat) : rd_L (Jvm.ClassFile.Decoder.newarray pc) (Jvm.ClassFile.Decoder.newarray pc') := by
  unfold Jvm.ClassFile.Decoder.newarray
  refine rd_bind rd_u1 (fun x => ?_)
  split <;> first | exact rd_pure _ | exact rd_throw _ _
set_option maxHeartbeats 4000000 in
set_option maxRecDepth 10000 in
theorem rd_instr (pc pc' : Nat) {L S T : List UInt8} {p k' : Nat} {x : Instr} (hL : L.drop p = S ++ T) (hop : S.head? ≠ some 170 ∧ S.head? ≠ some 171 ∧ S.head? ≠ some 185 ∧ S.head? ≠ some 186 ∧ S.head? ≠ some 196 ∧ S.head? ≠ some 197) (h : Jvm.ClassFile.Reader.runAt (Jvm.ClassFile.Decoder.instr pc) ⟨⟨S⟩⟩ 0 = .ok (x, k')) : Jvm.ClassFile.Reader.runAt (Jvm.ClassFile.Decoder.instr pc') ⟨⟨L⟩⟩ p = .ok (x, p + k') := by
  unfold Jvm.ClassFile.Decoder.instr at h ⊢
  rw [rd_run_b] at h ⊢
  cases hq : Jvm.ClassFile.Reader.runAt (Jvm.ClassFile.Reader.u1 : rd_D Nat) ⟨⟨S⟩⟩ 0 with
  | error e => rw [hq] at h; cases h
  | ok z =>
    obtain ⟨op, k1⟩ := z
    have hz : ∃ b : UInt8, S.head? = some b ∧ op = b.toNat := by
      cases S with
      | nil => cases hq
      | cons b S =>
        have : Except.ok (b.toNat, 1) = (Except.ok (op, k1) : Except Jvm.ClassFile.DecodeError (Nat × Nat)) := hq
        cases this
        exact ⟨b, rfl, rfl⟩
    obtain ⟨b, hb, hb2⟩ := hz
    have hne : ∀ n : UInt8, S.head? ≠ some n → op ≠ n.toNat := fun n hn e => hn (by rw [hb]; congr 1; exact UInt8.toNat_inj.mp (hb2.symm.trans e))
    have n1 := hne 170 hop.1
    have n2 := hne 171 hop.2.1
    have n3 := hne 185 hop.2.2.1
    have n4 := hne 186 hop.2.2.2.1
    have n5 := hne 196 hop.2.2.2.2.1
    have n6 := hne 197 hop.2.2.2.2.2
    rw [hq] at h
    have hu := rd_u1 L S T p 0 k1 op hL hq
    rw [Nat.add_zero] at hu
    rw [hu]
    dsimp only at h ⊢
    clear hu hq hne hb hb2 hop
    split at h <;> first
      | exact rd_pure _ L S T p _ _ _ hL h
      | exact rd_bind rd_u2 (fun _ => rd_pure _) L S T p _ _ _ hL h
      | exact rd_bind rd_s2 (fun _ => rd_pure _) L S T p _ _ _ hL h
      | exact rd_bind rd_u1 (fun _ => rd_pure _) L S T p _ _ _ hL h
      | exact rd_bind rd_s1 (fun _ => rd_pure _) L S T p _ _ _ hL h
      | exact rd_bind rd_u1 (fun _ => rd_bind rd_s1 (fun _ => rd_pure _)) L S T p _ _ _ hL h
      | exact rd_bind rd_s4 (fun _ => rd_pure _) L S T p _ _ _ hL h
      | exact rd_newarray _ _ L S T p _ _ _ hL h
      | exact absurd rfl n1
      | exact absurd rfl n2
      | exact absurd rfl n3
      | exact absurd rfl n4
      | exact absurd rfl n5
      | exact absurd rfl n6
      | exact rd_throw _ _ L S T p _ _ _ hL h
/-- decoding by the bytes from there on -/
theorem rd_decode {L S T : List UInt8} {p n : Nat} {x : Instr} (hL : L.drop p = S ++ T) (hop : S.head? ≠ some 170 ∧ S.head? ≠ some 171 ∧ S.head? ≠ some 185 ∧ S.head? ≠ some 186 ∧ S.head? ≠ some 196 ∧ S.head? ≠ some 197) (h : decode ⟨⟨S⟩⟩ 0 = .ok (x, n)) : decode ⟨⟨L⟩⟩ p = .ok (x, n) := by
  have e : ∀ (A : ByteArray) (q : Nat), decode A q = match Jvm.ClassFile.Reader.runAt (Jvm.ClassFile.Decoder.instr q) A q with
    | .ok (i, nx) => .ok (i, nx - q)
    | .error er => .error er := by
    intro A q
    unfold decode
    cases Jvm.ClassFile.Reader.runAt (Jvm.ClassFile.Decoder.instr q) A q <;> rfl
  rw [e] at h ⊢
  cases hq : Jvm.ClassFile.Reader.runAt (Jvm.ClassFile.Decoder.instr 0) ⟨⟨S⟩⟩ 0 with
  | error er => rw [hq] at h; cases h
  | ok z =>
    obtain ⟨i, k⟩ := z
    rw [hq] at h
    cases h
    rw [rd_instr 0 p hL hop hq]
    dsimp only
    congr 2
    omega
