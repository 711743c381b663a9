/-! bits of an int -/
theorem bt_sh {i : Nat} (hi : i < 32) : (nI i &&& 31) = nI i := by
  have : ∀ i : Fin 32, (nI i.1 &&& 31) = nI i.1 := by decide +kernel
  exact this ⟨i, hi⟩
theorem bt_sm {i : Nat} (hi : i < 32) : (nI i).toBitVec.smod 32 = BitVec.ofNat 32 i := by
  have : ∀ i : Fin 32, (nI i.1).toBitVec.smod 32 = BitVec.ofNat 32 i.1 := by decide +kernel
  exact this ⟨i, hi⟩
/-- bit i -/
def bt (x : Int32) (i : Nat) : Bool := x.toBitVec.getLsbD i
theorem bt_ext {x y : Int32} (h : ∀ i, i < 32 → bt x i = bt y i) : x = y := Int32.toBitVec_inj.mp (BitVec.eq_of_getLsbD_eq h)
theorem bt_or {x y : Int32} {i : Nat} : bt (x ||| y) i = (bt x i || bt y i) := by
  unfold bt; rw [Int32.toBitVec_or, BitVec.getLsbD_or]
theorem bt_and {x y : Int32} {i : Nat} : bt (x &&& y) i = (bt x i && bt y i) := by
  unfold bt; rw [Int32.toBitVec_and, BitVec.getLsbD_and]
theorem bt_xor {x y : Int32} {i : Nat} : bt (x ^^^ y) i = (bt x i ^^ bt y i) := by
  unfold bt; rw [Int32.toBitVec_xor, BitVec.getLsbD_xor]
theorem bt_m1 {i : Nat} (hi : i < 32) : bt (-1) i = true := by
  have : ∀ i : Fin 32, bt (-1) i.1 = true := by decide +kernel
  exact this ⟨i, hi⟩
theorem bt_not {x : Int32} {i : Nat} (hi : i < 32) : bt (x ^^^ (-1)) i = !(bt x i) := by
  rw [bt_xor, bt_m1 hi]
  cases bt x i <;> rfl
theorem bt_0 {i : Nat} : bt 0 i = false := by
  unfold bt
  show (0#32).getLsbD i = false
  exact BitVec.getLsbD_zero
theorem bt_one {i j : Nat} (hj : j < 32) (hi : i < 32) : bt (1 <<< (nI j &&& 31)) i = decide (i = j) := by
  have : ∀ j : Fin 32, ∀ i : Fin 32, bt (1 <<< (nI j.1 &&& 31)) i.1 = decide (i.1 = j.1) := by decide +kernel
  exact this ⟨j, hj⟩ ⟨i, hi⟩
theorem bt_sr {x : Int32} {i : Nat} (hi : i < 32) : (x >>> (nI i &&& 31)) &&& 1 = 1 ↔ bt x i = true := by
  rw [bt_sh hi]
  have h1 : bt (x >>> nI i) 0 = bt x i := by
    unfold bt
    rw [Int32.toBitVec_shiftRight, bt_sm hi, BitVec.sshiftRight_eq', BitVec.getLsbD_sshiftRight]
    have hn : (BitVec.ofNat 32 i).toNat = i := by rw [BitVec.toNat_ofNat]; exact Nat.mod_eq_of_lt (by omega)
    rw [hn]
    simp only [Nat.add_zero, hi, if_true]
    simp
  constructor
  · intro h
    rw [← h1]
    have h2 : bt ((x >>> nI i) &&& 1) 0 = true := by rw [h]; decide +kernel
    rw [bt_and] at h2
    exact (Bool.and_eq_true _ _ ▸ h2).1
  · intro h
    apply bt_ext
    intro j hj
    rw [bt_and]
    have hb : ∀ j : Fin 32, bt 1 j.1 = decide (j.1 = 0) := by decide +kernel
    rw [hb ⟨j, hj⟩]
    by_cases h0 : j = 0
    · subst h0
      rw [h1, h]; rfl
    · simp [h0]
/-- how many of the first n bits -/
def pc (x : Int32) : Nat → Nat := fo (fun i a => if bt x i then a + 1 else a) 0
theorem bt_nI {x i : Nat} (hx : x < 2 ^ 31) : bt (nI x) i = x.testBit i := by
  unfold bt nI
  show (BitVec.ofNat 32 x).getLsbD i = _
  rw [BitVec.getLsbD_ofNat]
  by_cases hi : i < 32
  · simp [hi]
  · simp only [hi, decide_false, Bool.false_and]
    exact (Nat.testBit_lt_two_pow (Nat.lt_of_lt_of_le hx (Nat.pow_le_pow_right (by decide) (by omega)))).symm
theorem ibc_12 {x : Nat} (hx : x < 4096) : ibc (nI x) = nI (pc (nI x) 12) := by
  have : ∀ a : Fin 64, ∀ b : Fin 64, ibc (nI (64 * a.1 + b.1)) = nI (pc (nI (64 * a.1 + b.1)) 12) := by decide +kernel
  have h := this ⟨x / 64, by omega⟩ ⟨x % 64, by omega⟩
  rw [show 64 * (x / 64) + x % 64 = x by omega] at h
  exact h
