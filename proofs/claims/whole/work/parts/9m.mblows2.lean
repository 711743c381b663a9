/-! which sorts to clean: the two searches -/
theorem blo_s {cd : List Int32} {X : TN} {m : Nat} {v : Int32} : ∀ {j x : Nat} {a U : Int32}, blo cd X m v j x a = some U → ∃ q : Nat → Nat, (∀ y, x ≤ y → y < x + j → ftc cd X (tc_wh X.2.2.2.1 (nI y) X.2.2.2.2.1) m v = some (q y)) ∧ ∀ i, i < 32 → (bt U i = true ↔ bt a i = true ∨ ∃ y, x ≤ y ∧ y < x + j ∧ bt (nI (q y)) i = true)
  | 0, x, a, U, h => by
    cases h
    exact ⟨fun _ => 0, fun y h1 h2 => by omega, fun i _ => ⟨fun q => Or.inl q, fun q => by
      rcases q with q | ⟨y, h1, h2, -⟩
      · exact q
      · omega⟩⟩
  | j + 1, x, a, U, h => by
    have h : (match ftc cd X (tc_wh X.2.2.2.1 (nI x) X.2.2.2.2.1) m v with
      | none => none
      | some q => blo cd X m v j (x + 1) (a ||| nI q)) = some U := h
    cases hf : ftc cd X (tc_wh X.2.2.2.1 (nI x) X.2.2.2.2.1) m v with
    | none => rw [hf] at h; cases h
    | some z =>
      rw [hf] at h
      obtain ⟨q, h1, h2⟩ := blo_s h
      refine ⟨fun y => if y = x then z else q y, fun y y1 y2 => ?_, fun i hi => ?_⟩
      · by_cases e : y = x
        · subst e; dsimp only; rw [if_pos rfl]; exact hf
        · dsimp only; rw [if_neg e]; exact h1 y (by omega) (by omega)
      · rw [h2 i hi, bt_or, Bool.or_eq_true]
        constructor
        · rintro ((a1 | a1) | ⟨y, y1, y2, y3⟩)
          · exact Or.inl a1
          · exact Or.inr ⟨x, Nat.le_refl _, by omega, by dsimp only; rw [if_pos rfl]; exact a1⟩
          · exact Or.inr ⟨y, by omega, by omega, by dsimp only; rw [if_neg (by omega)]; exact y3⟩
        · rintro (a1 | ⟨y, y1, y2, y3⟩)
          · exact Or.inl (Or.inl a1)
          · by_cases e : y = x
            · dsimp only at y3; rw [if_pos e] at y3
              exact Or.inl (Or.inr y3)
            · dsimp only at y3; rw [if_neg e] at y3
              exact Or.inr ⟨y, by omega, by omega, y3⟩
theorem blo_n {cd : List Int32} {X : TN} {m : Nat} {v : Int32} : ∀ {j x : Nat} {a : Int32}, blo cd X m v j x a = none → ∃ y, x ≤ y ∧ y < x + j ∧ ftc cd X (tc_wh X.2.2.2.1 (nI y) X.2.2.2.2.1) m v = none
  | 0, x, a, h => by cases h
  | j + 1, x, a, h => by
    have h : (match ftc cd X (tc_wh X.2.2.2.1 (nI x) X.2.2.2.2.1) m v with
      | none => none
      | some q => blo cd X m v j (x + 1) (a ||| nI q)) = none := h
    cases hf : ftc cd X (tc_wh X.2.2.2.1 (nI x) X.2.2.2.2.1) m v with
    | none => exact ⟨x, Nat.le_refl _, by omega, hf⟩
    | some z =>
      rw [hf] at h
      obtain ⟨y, h1, h2, h3⟩ := blo_n h
      exact ⟨y, by omega, by omega, h3⟩
theorem ngs_B {V : (Nat → Int32) → Int32} {L W M B : Nat → Int32} {n : Nat} {mem s g : Int32} (hn : n ≤ 12) : ∀ m, (ngs V L W n mem m (M, B, s, g)).1 = (ngs V L W n mem m (M, tc_dB s L W B n, 0, g)).1
  | 0 => rfl
  | m + 1 => by
    have e1 : ngs V L W n mem (m + 1) (M, B, s, g) = ngs V L W n mem m (nM V L W M (be (tc_dB s L W B n)) n g mem n, tc_dB s L W B n, 0, g + 1) := rfl
    have e2 : ngs V L W n mem (m + 1) (M, tc_dB s L W B n, 0, g) = ngs V L W n mem m (nM V L W M (be (tc_dB 0 L W (tc_dB s L W B n) n)) n g mem n, tc_dB 0 L W (tc_dB s L W B n) n, 0, g + 1) := rfl
    rw [e1, e2, dB_0 _ hn]
/-- does a set of all calm, as the reference has it -/
def rcm (cd : List Int32) (X : TN) (m : Nat) (v S : Int32) : Bool := cal (tc_allv (nI X.2.2.2.2.1)) v (nXT cd (tc_allv (nI X.2.2.2.2.1)) m (X.1, X.2.1, clM S X.2.2.1 X.2.2.2.2.1, X.2.2.2)).2.2.1 X.2.2.2.2.1 0
section
variable {cd : List Int32} {L W M B : Nat → Int32} {n m : Nat} {s g v : Int32}
/-- moods behind the nights, a set cleaned before -/
def bF (cd : List Int32) (L W M B : Nat → Int32) (n m : Nat) (g S : Int32) : Nat → Int32 := (ngs (fun E => evv E cd) L W n (tc_allv (nI n)) m (clM S M n, B, 0, g)).1
theorem rcm_e {S : Int32} (hn : n ≤ 12) : rcm cd (L, W, M, B, n, s, g) m v S = true ↔ ∀ i, i < n → iabs (bF cd L W M (tc_dB s L W B n) n m g S i) ≤ v := by
  unfold rcm
  rw [cal_all (by show 0 + n ≤ 12; omega)]
  have e : (nXT cd (tc_allv (nI n)) m (L, W, clM S M n, B, n, s, g)).2.2.1 = bF cd L W M (tc_dB s L W B n) n m g S := ngs_B hn m
  show (∀ q, 0 ≤ q → q < 0 + n → bt (tc_allv (nI n)) q = true → iabs ((nXT cd (tc_allv (nI n)) m (L, W, clM S M n, B, n, s, g)).2.2.1 q) ≤ v) ↔ _
  rw [e]
  exact ⟨fun q i hi => q i (Nat.zero_le _) (by omega) (by rw [all_b hn (by omega), decide_eq_true hi]), fun q i _ hi _ => q i (by omega)⟩
theorem clm_e {S : Int32} {x : Nat} (hn : n ≤ 12) (hB : BX n B) (hx : x < 8) : clm cd (tc_wh B (nI x) n) v m (L, W, M, B, n, 0, g) S = true ↔ ∀ i, i < n → be B i = x → iabs (bF cd L W M B n m g S i) ≤ v := by
  unfold clm
  have hbe : ∀ i, i < n → (be B i = x ↔ B i = nI x) := by
    intro i hi
    obtain ⟨e, h8⟩ := BX_be hB hi
    rw [e, nI_eq (by omega) (by omega)]
  have hbm : ∀ i, i < n → (bt (tc_wh B (nI x) n) i = true ↔ be B i = x) := by
    intro i hi
    rw [wh_b hn (by omega), decide_eq_true hi, Bool.true_and, decide_eq_true_eq, hbe i hi]
  have e : ∀ i, i < n → be B i = x → (nXT cd (tc_wh B (nI x) n) m (L, W, clM S M n, B, n, 0, g)).2.2.1 i = bF cd L W M B n m g S i := fun i hi hxi => evo hn (fun i hi q => (hbm i hi).mpr q) (fun i hi _ => by rw [all_b hn (by omega), decide_eq_true hi]) (fun _ _ _ => rfl) i hi hxi
  show cal (tc_wh B (nI x) n) v (nXT cd (tc_wh B (nI x) n) m (L, W, clM S M n, B, n, 0, g)).2.2.1 n 0 = true ↔ _
  rw [cal_all (by omega)]
  constructor
  · intro q i hi hxi
    have := q i (Nat.zero_le _) (by omega) ((hbm i hi).mpr hxi)
    rwa [e i hi hxi] at this
  · intro q i _ hi hb
    have hi : i < n := by omega
    have hxi := (hbm i hi).mp hb
    rw [e i hi hxi]
    exact q i hi hxi
theorem bF_cg {S S' : Int32} {x : Nat} (hn : n ≤ 12) (h : ∀ i, i < n → be B i = x → ¬ M i = 0 → bt S i = bt S' i) : ∀ i, i < n → be B i = x → bF cd L W M B n m g S i = bF cd L W M B n m g S' i := by
  refine evo hn (fun i hi _ => by rw [all_b hn (by omega), decide_eq_true hi]) (fun i hi _ => by rw [all_b hn (by omega), decide_eq_true hi]) (fun i hi hx => ?_)
  rw [clM_at hn, clM_at hn]
  by_cases z : M i = 0
  · rw [z]
    split <;> split <;> rfl
  · rw [h i hi hx z]
/-- both searches find the same -/
theorem blo_e (hn : n ≤ 12) (hL : BX n L) (hB0 : BX n B) : (blo cd (L, W, M, tc_dB s L W B n, n, 0, g) m v 8 0 0 = none → ∀ x, x < 2 ^ n → rcm cd (L, W, M, B, n, s, g) m v (nI x) = false) ∧ ∀ U, blo cd (L, W, M, tc_dB s L W B n, n, 0, g) m v 8 0 0 = some U → ∃ u, u < 2 ^ n ∧ U = nI u ∧ rcm cd (L, W, M, B, n, s, g) m v (nI u) = true ∧ ∀ x, x < 2 ^ n → rcm cd (L, W, M, B, n, s, g) m v (nI x) = true → cn (fun i => u.testBit i) n ≤ cn (fun i => x.testBit i) n ∧ (cn (fun i => u.testBit i) n = cn (fun i => x.testBit i) n → u ≤ x) := by
  obtain ⟨D, hD⟩ : ∃ D, D = tc_dB s L W B n := ⟨_, rfl⟩
  have hB : BX n D := by rw [hD]; exact BX_dB hL hB0 n (Nat.le_refl _)
  have h2p := p2_12 hn
  have hβ : ∀ i, i < n → be D i < 8 := fun i hi => (BX_be hB hi).2
  have hbe : ∀ x, x < 8 → ∀ i, i < n → (bt (tc_wh D (nI x) n) i = true ↔ be D i = x) := by
    intro x hx i hi
    obtain ⟨e, h8⟩ := BX_be hB hi
    rw [wh_b hn (by omega), decide_eq_true hi, Bool.true_and, decide_eq_true_eq]
    constructor
    · intro q
      rw [e] at q
      exact (nI_eq (by omega) (by omega)).mp q
    · intro q
      rw [e, q]
  have rcm_e' : ∀ S, rcm cd (L, W, M, B, n, s, g) m v S = true ↔ ∀ i, i < n → iabs (bF cd L W M D n m g S i) ≤ v := fun S => by rw [hD]; exact rcm_e hn
  rw [← hD]
  -- what the search in a box knows
  have mood : ∀ x, x < 8 → ∃ z, z < 4096 ∧ moo (tc_wh D (nI x) n) M n = nI z ∧ ∀ i, i < 32 → (bt (nI z) i = true ↔ i < n ∧ be D i = x ∧ ¬ M i = 0) := by
    intro x hx
    obtain ⟨z, hz, ez⟩ := low12 (x := moo (tc_wh D (nI x) n) M n) (fun i h1 h2 => moo_low h1 h2 n hn)
    refine ⟨z, hz, ez, fun i hi => ?_⟩
    rw [← ez, moo_b hi hn]
    constructor
    · rintro ⟨a, b, c⟩; exact ⟨a, (hbe x hx i a).mp b, c⟩
    · rintro ⟨a, b, c⟩; exact ⟨a, (hbe x hx i a).mpr b, c⟩
  have ftcE : ∀ x z, moo (tc_wh D (nI x) n) M n = nI z → z < 4096 → ftc cd (L, W, M, D, n, 0, g) (tc_wh D (nI x) n) m v = few2 (fun y => clm cd (tc_wh D (nI x) n) v m (L, W, M, D, n, 0, g) (nI y)) (nI z) z (cn (bt (nI z)) 12 + 1) 0 := by
    intro x z ez hz
    unfold ftc
    show few2 (fun y => clm cd (tc_wh D (nI x) n) v m (L, W, M, D, n, 0, g) (nI y)) (moo (tc_wh D (nI x) n) M n) (moo (tc_wh D (nI x) n) M n).toNatClampNeg ((ibc (moo (tc_wh D (nI x) n) M n)).toNatClampNeg + 1) 0 = _
    rw [ez, nI_clamp (by omega), ibc_cn (lo12_nI hz), nI_clamp (by have := cn_le (p := bt (nI z)) (k := 12); omega)]
  -- of a calming set the moody part of a box
  have part : ∀ x sx z, x < 8 → sx < 2 ^ n → z < 4096 → (∀ i, i < 32 → (bt (nI z) i = true ↔ i < n ∧ be D i = x ∧ ¬ M i = 0)) → rcm cd (L, W, M, B, n, s, g) m v (nI sx) = true → (sx &&& z) ≤ z ∧ nI (sx &&& z) &&& (nI z ^^^ (-1)) = 0 ∧ clm cd (tc_wh D (nI x) n) v m (L, W, M, D, n, 0, g) (nI (sx &&& z)) = true := by
    intro x sx z hx hs hz hzb hc
    have hle : sx &&& z ≤ z := Nat.and_le_right
    have hb : ∀ i, bt (nI (sx &&& z)) i = (bt (nI sx) i && bt (nI z) i) := fun i => by
      rw [bt_nI (by omega), bt_nI (by omega), bt_nI (by omega), Nat.testBit_and]
    refine ⟨hle, and_sub.mpr (fun j hj q => ?_), ?_⟩
    · rw [hb j, Bool.and_eq_true] at q
      exact q.2
    · rw [clm_e hn hB hx]
      intro i hi hxi
      have := bF_cg (cd := cd) (L := L) (W := W) (M := M) (B := D) (m := m) (g := g) (S := nI (sx &&& z)) (S' := nI sx) (x := x) hn (fun i hi hxi hM => by
        rw [hb i, (hzb i (by omega)).mpr ⟨hi, hxi, hM⟩, Bool.and_true]) i hi hxi
      rw [this]
      exact (rcm_e' _).mp hc i hi
  have cnle : ∀ x z : Nat, x &&& z < 4096 → z < 4096 → cn (bt (nI (x &&& z))) 12 ≤ cn (bt (nI z)) 12 := by
    intro x z h1 h2
    refine cn_mono (fun i hi q => ?_)
    rw [bt_nI (by omega), Nat.testBit_and, Bool.and_eq_true] at q
    rw [bt_nI (by omega)]
    exact q.2
  refine ⟨fun hno x hx => ?_, fun U hU => ?_⟩
  · obtain ⟨y, -, y2, y3⟩ := blo_n hno
    have y8 : y < 8 := by omega
    cases hc : rcm cd (L, W, M, B, n, s, g) m v (nI x) with
    | false => rfl
    | true =>
      exfalso
      obtain ⟨z, hz, ez, hzb⟩ := mood y y8
      obtain ⟨p1, p2, p3⟩ := part y x z y8 hx hz hzb hc
      have y3 : ftc cd (L, W, M, D, n, 0, g) (tc_wh D (nI y) n) m v = none := y3
      rw [ftcE y z ez hz] at y3
      have h12 := cn_le (p := bt (nI (x &&& z))) (k := 12)
      exact few2_none y3 (x &&& z) p1 p2 p3 _ (ibc_cn (lo12_nI (by omega))) (Nat.zero_le _) (by have := cnle x z (by omega) hz; omega)
  · obtain ⟨q, q1, q2⟩ := blo_s hU
    have q1 : ∀ y, y < 8 → ftc cd (L, W, M, D, n, 0, g) (tc_wh D (nI y) n) m v = some (q y) := fun y hy => q1 y (Nat.zero_le _) (by omega)
    -- what is found in each box
    have box : ∀ x, x < 8 → q x < 4096 ∧ (∀ i, i < 32 → bt (nI (q x)) i = true → i < n ∧ be D i = x) ∧ clm cd (tc_wh D (nI x) n) v m (L, W, M, D, n, 0, g) (nI (q x)) = true ∧ ∀ sx z, sx < 2 ^ n → z < 4096 → moo (tc_wh D (nI x) n) M n = nI z → (∀ i, i < 32 → (bt (nI z) i = true ↔ i < n ∧ be D i = x ∧ ¬ M i = 0)) → rcm cd (L, W, M, B, n, s, g) m v (nI sx) = true → cn (bt (nI (q x))) 12 ≤ cn (bt (nI (sx &&& z))) 12 ∧ (cn (bt (nI (q x))) 12 = cn (bt (nI (sx &&& z))) 12 → q x ≤ sx &&& z) := by
      intro x hx
      obtain ⟨z, hz, ez, hzb⟩ := mood x hx
      have hf := q1 x hx
      rw [ftcE x z ez hz] at hf
      obtain ⟨a, b, c, k, k1, k2, k3, k4⟩ := few2_some hf
      have a4 : q x < 4096 := by omega
      refine ⟨a4, fun i hi hb => ?_, c, fun sx z' hs hz' ez' hzb' hc => ?_⟩
      · obtain ⟨z1, z2, -⟩ := (hzb i hi).mp (and_sub.mp b i hi hb)
        exact ⟨z1, z2⟩
      · have ezz : z' = z := by
          rw [ez] at ez'
          exact ((nI_eq (by omega) (by omega)).mp ez').symm
        subst ezz
        obtain ⟨p1, p2, p3⟩ := part x sx z' hx hs hz hzb hc
        have e1 := ibc_cn (lo12_nI a4)
        have h12 := cn_le (p := bt (nI (q x))) (k := 12)
        have h12' := cn_le (p := bt (nI (sx &&& z'))) (k := 12)
        have h12z := cn_le (p := bt (nI z')) (k := 12)
        have ek : k = cn (bt (nI (q x))) 12 := by
          rw [k3] at e1
          exact (nI_eq (by omega) (by omega)).mp e1
        have := k4 (sx &&& z') p1 p2 p3 _ (ibc_cn (lo12_nI (by omega))) (Nat.zero_le _) (by omega) (by omega)
        rw [ek] at this
        exact this
    have hUb : ∀ i, i < 32 → (bt U i = true ↔ ∃ y, y < 8 ∧ bt (nI (q y)) i = true) := by
      intro i hi
      rw [q2 i hi, bt_0]
      constructor
      · rintro (a | ⟨y, -, y2, y3⟩)
        · cases a
        · exact ⟨y, by omega, y3⟩
      · rintro ⟨y, y2, y3⟩
        exact Or.inr ⟨y, Nat.zero_le _, by omega, y3⟩
    have hUn : ∀ i, n ≤ i → i < 32 → bt U i = false := by
      intro i h1 h2
      cases hb : bt U i with
      | false => rfl
      | true =>
        obtain ⟨y, y1, y2⟩ := (hUb i h2).mp hb
        have := ((box y y1).2.1 i h2 y2).1
        omega
    obtain ⟨u, hu4, eu⟩ := low12 (x := U) (fun i h1 h2 => hUn i (by omega) h2)
    have hu : u < 2 ^ n := bits_lt hu4 (fun j h1 h2 => by rw [← eu]; exact hUn j h1 h2)
    have hub : ∀ i, i < n → ∀ y, y < 8 → be D i = y → bt (nI u) i = bt (nI (q y)) i := by
      intro i hi y hy hbi
      rw [← eu, Bool.eq_iff_iff, hUb i (by omega)]
      constructor
      · rintro ⟨y', y1, y2⟩
        have := ((box y' y1).2.1 i (by omega) y2).2
        rw [hbi] at this
        rw [this]; exact y2
      · intro h
        exact ⟨y, hy, h⟩
    refine ⟨u, hu, eu, ?_, fun sx hs hc => ?_⟩
    · rw [rcm_e']
      intro i hi
      have h8 := hβ i hi
      have hcl := (clm_e hn hB h8).mp (box _ h8).2.2.1 i hi rfl
      have := bF_cg (cd := cd) (L := L) (W := W) (M := M) (B := D) (m := m) (g := g) (S := nI u) (S' := nI (q (be D i))) (x := be D i) hn (fun k hk hbk _ => hub k hk _ h8 hbk) i hi rfl
      rw [this]
      exact hcl
    · -- sums over the boxes
      have wsum : ∀ (w : Nat → Nat), ws w (fun i => u.testBit i) n = sl (fun l => ws w (fun i => (q l).testBit i) n) 8 := by
        intro w
        rw [← ws_letters (w := w) (p := fun i => u.testBit i) (x := be D) hβ]
        refine sl_cg (fun l hl => ws_cg (fun i hi => ?_))
        have hq4 := (box l hl).1
        rw [← bt_nI (x := u) (by omega), ← bt_nI (x := q l) (by omega)]
        by_cases c : be D i = l
        · rw [hub i hi l hl c, decide_eq_true c, Bool.and_true]
        · rw [decide_eq_false c, Bool.and_false]
          cases hb : bt (nI (q l)) i with
          | false => rfl
          | true => exact absurd ((box l hl).2.1 i (by omega) hb).2 c
      obtain ⟨zf, hzf⟩ : ∃ zf : Nat → Nat, ∀ l, l < 8 → zf l < 4096 ∧ moo (tc_wh D (nI l) n) M n = nI (zf l) ∧ ∀ i, i < 32 → (bt (nI (zf l)) i = true ↔ i < n ∧ be D i = l ∧ ¬ M i = 0) := ⟨fun l => if h : l < 8 then Classical.choose (mood l h) else 0, fun l hl => by
        dsimp only
        rw [dif_pos hl]
        exact Classical.choose_spec (mood l hl)⟩
      have ysum : ∀ (w : Nat → Nat), sl (fun l => ws w (fun i => (sx &&& zf l).testBit i) n) 8 ≤ ws w (fun i => sx.testBit i) n := by
        intro w
        rw [← ws_letters (w := w) (p := fun i => sx.testBit i) (x := be D) hβ]
        refine (sl_le (fun l hl => ?_)).1
        have hm : ∀ k, k ≤ n → ws w (fun i => (sx &&& zf l).testBit i) k ≤ ws w (fun i => sx.testBit i && decide (be D i = l)) k := by
          intro k
          induction k with
          | zero => intro _; exact Nat.le_refl _
          | succ k ih =>
            intro hk
            have ih := ih (by omega)
            simp only [Nat.testBit_and] at ih ⊢
            rw [ws_s, ws_s]
            cases h1 : sx.testBit k with
            | false => simp; exact ih
            | true =>
              cases h2 : (zf l).testBit k with
              | false => simp; omega
              | true =>
                have hz4 := (hzf l hl).1
                rw [← bt_nI (x := zf l) (by omega)] at h2
                have := ((hzf l hl).2.2 k (by omega)).mp h2
                simp [this.2.1]
                exact ih
        exact hm n (Nat.le_refl _)
      have cnn : ∀ x : Nat, x < 2 ^ n → cn (bt (nI x)) 12 = cn (fun i => x.testBit i) n := by
        intro x hx
        have e : cn (bt (nI x)) 12 = cn (bt (nI x)) n := by
          have := cn_up (p := bt (nI x)) (k := n) (j := 12 - n) (fun j h1 h2 => set_b hn hx h1)
          rwa [show n + (12 - n) = 12 by omega] at this
        rw [e]
        exact cn_cg (fun i _ => bt_nI (by omega))
      have hql : ∀ l, l < 8 → q l < 2 ^ n := fun l hl => bits_lt (box l hl).1 (fun j h1 h2 => by
        cases hb : bt (nI (q l)) j with
        | false => rfl
        | true => have := ((box l hl).2.1 j h2 hb).1; omega)
      have hyl : ∀ l, l < 8 → sx &&& zf l < 2 ^ n := fun l hl => Nat.lt_of_le_of_lt Nat.and_le_left hs
      have hbx : ∀ l, l < 8 → cn (fun i => (q l).testBit i) n ≤ cn (fun i => (sx &&& zf l).testBit i) n ∧ (cn (fun i => (q l).testBit i) n = cn (fun i => (sx &&& zf l).testBit i) n → q l ≤ sx &&& zf l) := by
        intro l hl
        obtain ⟨z1, z2, z3⟩ := hzf l hl
        have := (box l hl).2.2.2 sx (zf l) hs z1 z2 z3 hc
        rwa [cnn _ (hql l hl), cnn _ (hyl l hl)] at this
      have c1 := sl_le (f := fun l => cn (fun i => (q l).testBit i) n) (g := fun l => cn (fun i => (sx &&& zf l).testBit i) n) (k := 8) (fun l hl => (hbx l hl).1)
      have eu1 : cn (fun i => u.testBit i) n = sl (fun l => cn (fun i => (q l).testBit i) n) 8 := wsum (fun _ => 1)
      have es1 : sl (fun l => cn (fun i => (sx &&& zf l).testBit i) n) 8 ≤ cn (fun i => sx.testBit i) n := ysum (fun _ => 1)
      refine ⟨by omega, fun e => ?_⟩
      have heq : ∀ l, l < 8 → q l ≤ sx &&& zf l := fun l hl => (hbx l hl).2 (c1.2 (by omega) l hl)
      have n1 := ws_num hu
      have n2 := ws_num hs
      have w1 := wsum (fun i => 2 ^ i)
      have w2 := ysum (fun i => 2 ^ i)
      rw [n1] at w1
      rw [n2] at w2
      have w3 : sl (fun l => ws (fun i => 2 ^ i) (fun i => (q l).testBit i) n) 8 ≤ sl (fun l => ws (fun i => 2 ^ i) (fun i => (sx &&& zf l).testBit i) n) 8 := (sl_le (fun l hl => by
        rw [ws_num (hql l hl), ws_num (hyl l hl)]
        exact heq l hl)).1
      omega
end
