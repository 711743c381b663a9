/-! counting all 32 bits; the lowest bit -/
theorem cn_split {p : Nat → Bool} {a : Nat} : ∀ {b : Nat}, cn p (a + b) = cn p a + cn (fun i => p (a + i)) b
  | 0 => rfl
  | b + 1 => by
    rw [show a + (b + 1) = (a + b) + 1 from rfl, cn_s, cn_s, cn_split]
    omega
def g1 (M x : Nat) : Nat := x - ((x >>> 1) &&& M)
def g2 (M x : Nat) : Nat := (x &&& M) + ((x >>> 2) &&& M)
def g3 (M x : Nat) : Nat := (x + (x >>> 4)) &&& M
theorem tb8 {a b j : Nat} (hb : b < 256) : (256 * a + b).testBit j = if j < 8 then b.testBit j else a.testBit (j - 8) := Nat.testBit_two_pow_mul_add a (i := 8) hb j
theorem and8 {a b M μ : Nat} (hb : b < 256) (hμ : μ < 256) : (256 * a + b) &&& (256 * M + μ) = 256 * (a &&& M) + (b &&& μ) := by
  have h2 : b &&& μ < 256 := Nat.lt_of_le_of_lt Nat.and_le_left hb
  apply Nat.eq_of_testBit_eq
  intro j
  rw [Nat.testBit_and, tb8 hb, tb8 hμ, tb8 h2]
  split
  · rw [Nat.testBit_and]
  · rw [Nat.testBit_and]
theorem sh8 {a b M μ k : Nat} (hb : b < 256) (hμ : μ < 256) (hk : k < 8) (hz : ∀ j, 8 - k ≤ j → j < 8 → μ.testBit j = false) : ((256 * a + b) >>> k) &&& (256 * M + μ) = 256 * ((a >>> k) &&& M) + ((b >>> k) &&& μ) := by
  have h3 : (b >>> k) &&& μ < 256 := Nat.lt_of_le_of_lt Nat.and_le_right hμ
  apply Nat.eq_of_testBit_eq
  intro j
  rw [Nat.testBit_and, Nat.testBit_shiftRight, tb8 hb, tb8 hμ, tb8 h3]
  by_cases c : j < 8
  · rw [if_pos c, if_pos c, Nat.testBit_and, Nat.testBit_shiftRight]
    by_cases c2 : k + j < 8
    · rw [if_pos c2]
    · rw [if_neg c2, hz j (by omega) c, Bool.and_false, Bool.and_false]
  · rw [if_neg c, if_neg c, if_neg (by omega), Nat.testBit_and, Nat.testBit_shiftRight, show k + j - 8 = k + (j - 8) by omega]
theorem g1_8 {a b M : Nat} (hb : b < 256) : g1 (256 * M + 85) (256 * a + b) = 256 * g1 M a + g1 85 b := by
  unfold g1
  rw [sh8 hb (by decide) (by decide) (fun j h1 h2 => by have : j = 7 := by omega
                                                        subst this; rfl)]
  have h1 : (b >>> 1) &&& 85 ≤ b := Nat.le_trans Nat.and_le_left (by rw [Nat.shiftRight_eq_div_pow]; exact Nat.div_le_self _ _)
  have h2 : (a >>> 1) &&& M ≤ a := Nat.le_trans Nat.and_le_left (by rw [Nat.shiftRight_eq_div_pow]; exact Nat.div_le_self _ _)
  omega
theorem g2_8 {a b M : Nat} (hb : b < 256) : g2 (256 * M + 51) (256 * a + b) = 256 * g2 M a + g2 51 b := by
  unfold g2
  rw [sh8 hb (by decide) (by decide) (fun j h1 h2 => by rcases (show j = 6 ∨ j = 7 by omega) with e | e <;> subst e <;> rfl), and8 hb (by decide)]
  omega
theorem g3_8 {a b M : Nat} (hb1 : b % 16 ≤ 4) (hb2 : b / 16 ≤ 4) (ha : a % 16 ≤ 4) : g3 (256 * M + 15) (256 * a + b) = 256 * g3 M a + g3 15 b := by
  unfold g3
  have e1 : ∀ x, x >>> 4 = x / 16 := fun x => Nat.shiftRight_eq_div_pow x 4
  rw [e1, e1, e1]
  have e2 : 256 * a + b + (256 * a + b) / 16 = 256 * (a + a / 16) + (16 * (a % 16 + b / 16) + (b % 16 + b / 16)) := by omega
  rw [e2, and8 (by omega) (by decide)]
  have e3 : ∀ x, x &&& 15 = x % 16 := fun x => Nat.and_two_pow_sub_one_eq_mod x 4
  rw [e3, e3]
  omega
/-- a byte's bits -/
def pb (b : Nat) : Nat := g3 15 (g2 51 (g1 85 b))
theorem pb_all : ∀ b : Fin 256, g1 85 b.1 < 256 ∧ g2 51 (g1 85 b.1) < 256 ∧ g2 51 (g1 85 b.1) % 16 ≤ 4 ∧ g2 51 (g1 85 b.1) / 16 ≤ 4 ∧ pb b.1 ≤ 8 ∧ pb b.1 = cn (fun i => b.1.testBit i) 8 := by decide +kernel
theorem g_all {b0 b1 b2 b3 : Nat} (h0 : b0 < 256) (h1 : b1 < 256) (h2 : b2 < 256) (h3 : b3 < 256) : g1 1431655765 (256 * (256 * (256 * b3 + b2) + b1) + b0) ≤ 256 * (256 * (256 * b3 + b2) + b1) + b0 ∧ g3 252645135 (g2 858993459 (g1 1431655765 (256 * (256 * (256 * b3 + b2) + b1) + b0))) = 256 * (256 * (256 * pb b3 + pb b2) + pb b1) + pb b0 ∧ g2 858993459 (g1 1431655765 (256 * (256 * (256 * b3 + b2) + b1) + b0)) < 2 ^ 31 := by
  obtain ⟨p01, p02, p03, p04, -, -⟩ := pb_all ⟨b0, h0⟩
  obtain ⟨p11, p12, p13, p14, -, -⟩ := pb_all ⟨b1, h1⟩
  obtain ⟨p21, p22, p23, p24, -, -⟩ := pb_all ⟨b2, h2⟩
  obtain ⟨p31, p32, p33, p34, -, -⟩ := pb_all ⟨b3, h3⟩
  dsimp only at p01 p02 p03 p04 p11 p12 p13 p14 p21 p22 p23 p24 p31 p32 p33 p34
  refine ⟨Nat.sub_le _ _, ?_, ?_⟩
  · rw [show 1431655765 = 256 * (256 * (256 * 85 + 85) + 85) + 85 from rfl, show 858993459 = 256 * (256 * (256 * 51 + 51) + 51) + 51 from rfl, show 252645135 = 256 * (256 * (256 * 15 + 15) + 15) + 15 from rfl]
    rw [g1_8 h0, g1_8 h1, g1_8 h2, g2_8 p01, g2_8 p11, g2_8 p21, g3_8 p03 p04 (by omega), g3_8 p13 p14 (by omega), g3_8 p23 p24 (by omega)]
    rfl
  · rw [show 1431655765 = 256 * (256 * (256 * 85 + 85) + 85) + 85 from rfl, show 858993459 = 256 * (256 * (256 * 51 + 51) + 51) + 51 from rfl]
    rw [g1_8 h0, g1_8 h1, g1_8 h2, g2_8 p01, g2_8 p11, g2_8 p21]
    omega
theorem tn_ush {x : Int32} {k : Nat} (hk : k < 32) : (ush x (nI k)).toBitVec.toNat = x.toBitVec.toNat >>> k := by
  unfold ush
  show (x.toUInt32 >>> ((nI k).toUInt32 &&& Int32.toUInt32 31)).toBitVec.toNat = _
  rw [UInt32.toBitVec_shiftRight, BitVec.ushiftRight_eq', BitVec.toNat_ushiftRight]
  have : ∀ k : Fin 32, (((nI k.1).toUInt32 &&& Int32.toUInt32 31).toBitVec % 32#32).toNat = k.1 := by decide +kernel
  have := this ⟨k, hk⟩
  dsimp only at this
  have e : (((nI k).toUInt32 &&& Int32.toUInt32 31).toBitVec % (32 : BitVec 32)).toNat = k := this
  rw [e]
  rfl
theorem tn_and {x y : Int32} : (x &&& y).toBitVec.toNat = x.toBitVec.toNat &&& y.toBitVec.toNat := by
  rw [Int32.toBitVec_and, BitVec.toNat_and]
theorem tn_add {x y : Int32} (h : x.toBitVec.toNat + y.toBitVec.toNat < 2 ^ 32) : (x + y).toBitVec.toNat = x.toBitVec.toNat + y.toBitVec.toNat := by
  rw [Int32.toBitVec_add, BitVec.toNat_add]
  exact Nat.mod_eq_of_lt h
theorem tn_sub {x y : Int32} (h : y.toBitVec.toNat ≤ x.toBitVec.toNat) : (x - y).toBitVec.toNat = x.toBitVec.toNat - y.toBitVec.toNat := by
  rw [Int32.toBitVec_sub]
  exact BitVec.toNat_sub_of_le h
theorem sum64 {q0 q1 q2 q3 : Nat} (h0 : q0 ≤ 8) (h1 : q1 ≤ 8) (h2 : q2 ≤ 8) (h3 : q3 ≤ 8) : (256 * (256 * (256 * q3 + q2) + q1) + q0 + (256 * (256 * q3 + q2) + q1) + (256 * (256 * (256 * q3 + q2) + q1) + q0 + (256 * (256 * q3 + q2) + q1)) / 65536) % 64 = q0 + q1 + q2 + q3 := by
  have e1 : 256 * (256 * (256 * q3 + q2) + q1) + q0 + (256 * (256 * q3 + q2) + q1) = 65536 * (256 * q3 + (q2 + q3)) + (256 * (q1 + q2) + (q0 + q1)) := by omega
  have e2 : (65536 * (256 * q3 + (q2 + q3)) + (256 * (q1 + q2) + (q0 + q1))) / 65536 = 256 * q3 + (q2 + q3) := by omega
  rw [e1, e2]
  omega
/-- Integer.bitCount -/
theorem ibc_32 (x : Int32) : ibc x = nI (cn (bt x) 32) := by
  obtain ⟨X, hX⟩ : ∃ X, X = x.toBitVec.toNat := ⟨_, rfl⟩
  have hlt : X < 2 ^ 32 := by rw [hX]; exact x.toBitVec.isLt
  obtain ⟨b0, b1, b2, b3, h0, h1, h2, h3, e⟩ : ∃ b0 b1 b2 b3, b0 < 256 ∧ b1 < 256 ∧ b2 < 256 ∧ b3 < 256 ∧ X = 256 * (256 * (256 * b3 + b2) + b1) + b0 := ⟨X % 256, X / 256 % 256, X / 65536 % 256, X / 16777216, by omega, by omega, by omega, by omega, by omega⟩
  obtain ⟨-, q2, q3⟩ := g_all h0 h1 h2 h3
  rw [← e] at q2 q3
  have p0 := (pb_all ⟨b0, h0⟩).2.2.2.2
  have p1 := (pb_all ⟨b1, h1⟩).2.2.2.2
  have p2 := (pb_all ⟨b2, h2⟩).2.2.2.2
  have p3 := (pb_all ⟨b3, h3⟩).2.2.2.2
  dsimp only at p0 p1 p2 p3
  have t1 : (ibc1 x).toBitVec.toNat = g1 1431655765 X := by
    have ea : ((x.toUInt32 >>> ((1 : Int32).toUInt32 &&& Int32.toUInt32 31)).toInt32 &&& 1431655765).toBitVec.toNat = (X >>> 1) &&& 1431655765 := by
      rw [tn_and, show (x.toUInt32 >>> ((1 : Int32).toUInt32 &&& Int32.toUInt32 31)).toInt32 = ush x (nI 1) from rfl, tn_ush (by decide), ← hX]
      rfl
    unfold ibc1
    rw [tn_sub, ea, ← hX]
    · rfl
    · rw [ea, ← hX]
      exact Nat.le_trans Nat.and_le_left (by rw [Nat.shiftRight_eq_div_pow]; exact Nat.div_le_self _ _)
  have t2 : (ibc2 (ibc1 x)).toBitVec.toNat = g2 858993459 (g1 1431655765 X) := by
    obtain ⟨y, hy⟩ : ∃ y, y = ibc1 x := ⟨_, rfl⟩
    rw [← hy] at t1 ⊢
    have ea : ((y.toUInt32 >>> ((2 : Int32).toUInt32 &&& Int32.toUInt32 31)).toInt32 &&& 858993459).toBitVec.toNat = (g1 1431655765 X >>> 2) &&& 858993459 := by
      rw [tn_and, show (y.toUInt32 >>> ((2 : Int32).toUInt32 &&& Int32.toUInt32 31)).toInt32 = ush y (nI 2) from rfl, tn_ush (by decide), t1]
      rfl
    have eb : (y &&& 858993459).toBitVec.toNat = g1 1431655765 X &&& 858993459 := by rw [tn_and, t1]; rfl
    unfold ibc2
    rw [tn_add, ea, eb]
    · rfl
    · rw [ea, eb]
      have : g1 1431655765 X &&& 858993459 ≤ 858993459 := Nat.and_le_right
      have : (g1 1431655765 X >>> 2) &&& 858993459 ≤ 858993459 := Nat.and_le_right
      omega
  have t3 : (ibc3 (ibc2 (ibc1 x))).toBitVec.toNat = 256 * (256 * (256 * pb b3 + pb b2) + pb b1) + pb b0 := by
    obtain ⟨y, hy⟩ : ∃ y, y = ibc2 (ibc1 x) := ⟨_, rfl⟩
    rw [← hy] at t2 ⊢
    have ea : (y.toUInt32 >>> ((4 : Int32).toUInt32 &&& Int32.toUInt32 31)).toInt32.toBitVec.toNat = g2 858993459 (g1 1431655765 X) >>> 4 := by
      rw [show (y.toUInt32 >>> ((4 : Int32).toUInt32 &&& Int32.toUInt32 31)).toInt32 = ush y (nI 4) from rfl, tn_ush (by decide), t2]
    unfold ibc3
    rw [tn_and, tn_add, ea, t2, ← q2]
    · rfl
    · rw [ea, t2, Nat.shiftRight_eq_div_pow]
      have := Nat.div_le_self (g2 858993459 (g1 1431655765 X)) (2 ^ 4)
      omega
  have t4 : (ibc4 (ibc3 (ibc2 (ibc1 x)))).toBitVec.toNat = 256 * (256 * (256 * pb b3 + pb b2) + pb b1) + pb b0 + (256 * (256 * pb b3 + pb b2) + pb b1) := by
    obtain ⟨y, hy⟩ : ∃ y, y = ibc3 (ibc2 (ibc1 x)) := ⟨_, rfl⟩
    rw [← hy] at t3 ⊢
    have ea : (y.toUInt32 >>> ((8 : Int32).toUInt32 &&& Int32.toUInt32 31)).toInt32.toBitVec.toNat = 256 * (256 * pb b3 + pb b2) + pb b1 := by
      rw [show (y.toUInt32 >>> ((8 : Int32).toUInt32 &&& Int32.toUInt32 31)).toInt32 = ush y (nI 8) from rfl, tn_ush (by decide), t3, Nat.shiftRight_eq_div_pow]
      omega
    unfold ibc4
    rw [tn_add, ea, t3]
    rw [ea, t3]
    omega
  have t5 : (ibc5 (ibc4 (ibc3 (ibc2 (ibc1 x))))).toBitVec.toNat % 64 = pb b0 + pb b1 + pb b2 + pb b3 := by
    obtain ⟨y, hy⟩ : ∃ y, y = ibc4 (ibc3 (ibc2 (ibc1 x))) := ⟨_, rfl⟩
    rw [← hy] at t4 ⊢
    have ea : (y.toUInt32 >>> ((16 : Int32).toUInt32 &&& Int32.toUInt32 31)).toInt32.toBitVec.toNat = (256 * (256 * (256 * pb b3 + pb b2) + pb b1) + pb b0 + (256 * (256 * pb b3 + pb b2) + pb b1)) / 65536 := by
      rw [show (y.toUInt32 >>> ((16 : Int32).toUInt32 &&& Int32.toUInt32 31)).toInt32 = ush y (nI 16) from rfl, tn_ush (by decide), t4, Nat.shiftRight_eq_div_pow]
    unfold ibc5
    rw [tn_add, ea, t4]
    · exact sum64 p0.1 p1.1 p2.1 p3.1
    · rw [ea, t4]
      have := p0.1
      have := p1.1
      have := p2.1
      have := p3.1
      have := Nat.div_le_self (256 * (256 * (256 * pb b3 + pb b2) + pb b1) + pb b0 + (256 * (256 * pb b3 + pb b2) + pb b1)) 65536
      omega
  have t6 : (ibc x).toBitVec.toNat = pb b0 + pb b1 + pb b2 + pb b3 := by
    unfold ibc
    rw [tn_and, ← t5]
    exact Nat.and_two_pow_sub_one_eq_mod _ 6
  have ecn : cn (bt x) 32 = pb b0 + pb b1 + pb b2 + pb b3 := by
    have eb : ∀ i, bt x i = X.testBit i := fun i => by rw [hX]; rfl
    have e1 : cn (bt x) 32 = cn (fun i => X.testBit i) 32 := cn_cg (fun i _ => eb i)
    rw [e1, show 32 = 8 + (8 + (8 + 8)) from rfl, cn_split, cn_split, cn_split, p0.2, p1.2, p2.2, p3.2]
    have c0 : cn (fun i => X.testBit i) 8 = cn (fun i => b0.testBit i) 8 := cn_cg (fun i hi => by rw [e, tb8 h0, if_pos hi])
    have c1 : cn (fun i => X.testBit (8 + i)) 8 = cn (fun i => b1.testBit i) 8 := cn_cg (fun i hi => by rw [e, tb8 h0, if_neg (by omega), Nat.add_sub_cancel_left, tb8 h1, if_pos hi])
    have c2 : cn (fun i => X.testBit (8 + (8 + i))) 8 = cn (fun i => b2.testBit i) 8 := cn_cg (fun i hi => by rw [e, tb8 h0, if_neg (by omega), Nat.add_sub_cancel_left, tb8 h1, if_neg (by omega), Nat.add_sub_cancel_left, tb8 h2, if_pos hi])
    have c3 : cn (fun i => X.testBit (8 + (8 + (8 + i)))) 8 = cn (fun i => b3.testBit i) 8 := cn_cg (fun i hi => by rw [e, tb8 h0, if_neg (by omega), Nat.add_sub_cancel_left, tb8 h1, if_neg (by omega), Nat.add_sub_cancel_left, tb8 h2, if_neg (by omega), Nat.add_sub_cancel_left])
    rw [c0, c1, c2, c3]
    omega
  apply Int32.toBitVec_inj.mp
  apply BitVec.eq_of_toNat_eq
  rw [t6, ← ecn]
  show _ = (BitVec.ofNat 32 (cn (bt x) 32)).toNat
  rw [BitVec.toNat_ofNat]
  have := cn_le (p := bt x) (k := 32)
  exact (Nat.mod_eq_of_lt (by omega)).symm
/-- Integer.numberOfTrailingZeros of what has its lowest bit at k -/
theorem itz_low {x : Int32} {k : Nat} (hk : k < 31) (h1 : bt x k = true) (h0 : ∀ i, i < k → bt x i = false) : itz x = nI k := by
  obtain ⟨X, hX⟩ : ∃ X, X = x.toBitVec.toNat := ⟨_, rfl⟩
  have hlt : X < 2 ^ 32 := by rw [hX]; exact x.toBitVec.isLt
  have eb : ∀ i, bt x i = X.testBit i := fun i => by rw [hX]; rfl
  have hpk : 0 < 2 ^ k := Nat.pow_pos (by decide)
  have hpk2 : 2 ^ (k + 1) = 2 * 2 ^ k := by rw [Nat.pow_succ]; omega
  -- X is an odd number times 2 ^ k
  obtain ⟨m, hm⟩ : ∃ m, X = 2 ^ (k + 1) * m + 2 ^ k := by
    refine ⟨X / 2 ^ (k + 1), ?_⟩
    have hmod : X % 2 ^ (k + 1) = 2 ^ k := by
      apply Nat.eq_of_testBit_eq
      intro j
      rw [Nat.testBit_mod_two_pow, Nat.testBit_two_pow]
      by_cases c : j < k
      · rw [← eb, h0 j c, Bool.and_false, decide_eq_false (by omega)]
      · by_cases c2 : j = k
        · subst c2
          rw [← eb, h1, decide_eq_true (by omega), decide_eq_true rfl]; rfl
        · rw [decide_eq_false (by omega), decide_eq_false (by omega)]; rfl
    rw [← hmod]
    exact (Nat.div_add_mod X (2 ^ (k + 1))).symm
  have hsub : (x - 1).toBitVec.toNat = 2 ^ (k + 1) * m + (2 ^ k - 1) := by
    rw [tn_sub]
    · rw [← hX, hm]
      show 2 ^ (k + 1) * m + 2 ^ k - 1 = _
      omega
    · rw [← hX, hm]
      show 1 ≤ _
      omega
  have hy : (x ^^^ (-1)) &&& (x - 1) = nI (2 ^ k - 1) := by
    apply bt_ext
    intro j hj
    have hpj : 2 ^ k ≤ 2 ^ 30 := Nat.pow_le_pow_right (by decide) (by omega)
    rw [bt_and, bt_not hj, bt_nI (by omega), Nat.testBit_two_pow_sub_one]
    have e2 : bt (x - 1) j = (2 ^ (k + 1) * m + (2 ^ k - 1)).testBit j := by
      rw [← hsub]; rfl
    rw [e2, Nat.testBit_two_pow_mul_add m (i := k + 1) (by omega), Nat.testBit_two_pow_sub_one, eb, hm, Nat.testBit_two_pow_mul_add m (i := k + 1) (by omega), Nat.testBit_two_pow]
    by_cases c : j < k
    · rw [if_pos (by omega), if_pos (by omega), decide_eq_true c, decide_eq_false (by omega)]; rfl
    · by_cases c2 : j = k
      · subst c2
        rw [if_pos (by omega), if_pos (by omega), decide_eq_true rfl, decide_eq_false c]; rfl
      · rw [if_neg (by omega), if_neg (by omega), decide_eq_false c]
        cases m.testBit (j - (k + 1)) <;> rfl
  unfold itz
  rw [hy]
  have : ∀ k : Fin 31, itC (nI (2 ^ k.1 - 1)) = nI k.1 := by decide +kernel
  exact this ⟨k, hk⟩
