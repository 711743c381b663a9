/-! counting bits -/
/-- how many of the first are so -/
def cn (p : Nat → Bool) : Nat → Nat := fo (fun i c => c + if p i then 1 else 0) 0
theorem cn_s {p : Nat → Bool} {k : Nat} : cn p (k + 1) = cn p k + if p k then 1 else 0 := rfl
theorem cn_cg {p q : Nat → Bool} : ∀ {k : Nat}, (∀ i, i < k → p i = q i) → cn p k = cn q k
  | 0, _ => rfl
  | k + 1, h => by rw [cn_s, cn_s, cn_cg (fun i hi => h i (by omega)), h k (by omega)]
theorem cn_le {p : Nat → Bool} : ∀ {k : Nat}, cn p k ≤ k
  | 0 => Nat.le_refl _
  | k + 1 => by
    have := cn_le (p := p) (k := k)
    rw [cn_s]
    split <;> omega
theorem cn_up {p : Nat → Bool} {k : Nat} : ∀ {j : Nat}, (∀ i, k ≤ i → i < k + j → p i = false) → cn p (k + j) = cn p k
  | 0, _ => rfl
  | j + 1, h => by
    rw [show k + (j + 1) = (k + j) + 1 from rfl, cn_s, cn_up (fun i h1 h2 => h i h1 (by omega)), h (k + j) (by omega) (by omega)]
    rfl
theorem cn_0 {p : Nat → Bool} : ∀ {k : Nat}, cn p k = 0 ↔ ∀ i, i < k → p i = false
  | 0 => ⟨fun _ i hi => absurd hi (Nat.not_lt_zero i), fun _ => rfl⟩
  | k + 1 => by
    have ih := cn_0 (p := p) (k := k)
    rw [cn_s]
    constructor
    · intro h i hi
      by_cases e : i = k
      · subst e
        cases hp : p i with
        | false => rfl
        | true => rw [hp, if_pos rfl] at h; omega
      · exact ih.mp (by omega) i (by omega)
    · intro h
      rw [ih.mpr (fun i hi => h i (by omega)), h k (by omega)]
      rfl
theorem cn_mono {p q : Nat → Bool} : ∀ {k : Nat}, (∀ i, i < k → p i = true → q i = true) → cn p k ≤ cn q k
  | 0, _ => Nat.le_refl _
  | k + 1, h => by
    have ih := cn_mono (p := p) (q := q) (k := k) (fun i hi => h i (by omega))
    rw [cn_s, cn_s]
    cases hp : p k with
    | false =>
      rw [if_neg (by decide)]
      omega
    | true =>
      rw [h k (by omega) hp]
      omega
theorem cn_two {p : Nat → Bool} : ∀ {k : Nat}, 1 < cn p k ↔ ∃ i j, i < j ∧ j < k ∧ p i = true ∧ p j = true
  | 0 => ⟨fun h => absurd (show 1 < 0 from h) (by decide), fun ⟨i, j, _, h, _⟩ => absurd h (Nat.not_lt_zero j)⟩
  | k + 1 => by
    have ih := cn_two (p := p) (k := k)
    rw [cn_s]
    constructor
    · intro h
      by_cases c : 1 < cn p k
      · obtain ⟨i, j, h1, h2, h3⟩ := ih.mp c
        exact ⟨i, j, h1, by omega, h3⟩
      · cases hp : p k with
        | false => rw [hp, if_neg (by decide)] at h; omega
        | true =>
          rw [hp, if_pos rfl] at h
          have h0 : ¬ cn p k = 0 := by omega
          have : ∃ i, i < k ∧ p i = true := by
            apply Classical.byContradiction
            intro q
            apply h0
            rw [cn_0]
            intro i hi
            cases hi2 : p i with
            | false => rfl
            | true => exact absurd ⟨i, hi, hi2⟩ q
          obtain ⟨i, hi, h2⟩ := this
          exact ⟨i, k, hi, by omega, h2, hp⟩
    · rintro ⟨i, j, h1, h2, h3, h4⟩
      by_cases e : j = k
      · subst e
        have h0 : ¬ cn p j = 0 := fun q => by rw [cn_0.mp q i h1] at h3; cases h3
        rw [h4, if_pos rfl]
        omega
      · have := ih.mpr ⟨i, j, h1, by omega, h3, h4⟩
        omega
/-- sums -/
def sl (f : Nat → Nat) : Nat → Nat := fo (fun l a => a + f l) 0
theorem sl_s {f : Nat → Nat} {k : Nat} : sl f (k + 1) = sl f k + f k := rfl
theorem sl_cg {f g : Nat → Nat} : ∀ {k : Nat}, (∀ i, i < k → f i = g i) → sl f k = sl g k
  | 0, _ => rfl
  | k + 1, h => by rw [sl_s, sl_s, sl_cg (fun i hi => h i (by omega)), h k (by omega)]
theorem sl_add {f g : Nat → Nat} : ∀ {k : Nat}, sl (fun l => f l + g l) k = sl f k + sl g k
  | 0 => rfl
  | k + 1 => by rw [sl_s, sl_s, sl_s, sl_add]; omega
theorem sl_one {x : Nat} : ∀ {k : Nat}, sl (fun l => if x = l then 1 else 0) k = if x < k then 1 else 0
  | 0 => rfl
  | k + 1 => by
    rw [sl_s, sl_one]
    by_cases c : x < k
    · rw [if_pos c, if_neg (by omega), if_pos (by omega)]
    · rw [if_neg c]
      by_cases e : x = k
      · rw [if_pos e, if_pos (by omega)]
      · rw [if_neg e, if_neg (by omega)]
theorem sl_zero : ∀ {k : Nat}, sl (fun _ => 0) k = 0
  | 0 => rfl
  | k + 1 => by rw [sl_s, sl_zero]
/-- by letters -/
theorem cn_letters {p : Nat → Bool} {x : Nat → Nat} : ∀ {k : Nat}, (∀ i, i < k → x i < 8) → sl (fun l => cn (fun i => p i && decide (x i = l)) k) 8 = cn p k
  | 0, _ => sl_zero
  | k + 1, h => by
    have ih := cn_letters (p := p) (x := x) (k := k) (fun i hi => h i (by omega))
    have e : sl (fun l => cn (fun i => p i && decide (x i = l)) (k + 1)) 8 = sl (fun l => cn (fun i => p i && decide (x i = l)) k) 8 + sl (fun l => if (p k && decide (x k = l)) = true then 1 else 0) 8 := sl_add
    rw [e, ih, cn_s]
    congr 1
    cases hp : p k with
    | false =>
      rw [if_neg (by decide)]
      exact (sl_cg (g := fun _ => 0) (fun i hi => by simp)).trans sl_zero
    | true =>
      rw [if_pos rfl]
      have := sl_one (x := x k) (k := 8)
      rw [if_pos (h k (by omega))] at this
      exact (sl_cg (g := fun l => if x k = l then 1 else 0) (fun i hi => by simp)).trans this
theorem sl_pos {a : Nat → Nat} : ∀ {m : Nat}, cn (fun l => decide (0 < a l)) m ≤ sl a m ∧ (cn (fun l => decide (0 < a l)) m = sl a m ↔ ∀ l, l < m → a l ≤ 1)
  | 0 => ⟨Nat.le_refl _, fun _ l hl => absurd hl (Nat.not_lt_zero l), fun _ => rfl⟩
  | m + 1 => by
    obtain ⟨i1, i2⟩ := sl_pos (a := a) (m := m)
    rw [cn_s, sl_s]
    by_cases c : 0 < a m
    · rw [if_pos (decide_eq_true c)]
      refine ⟨by omega, fun h l hl => ?_, fun h => ?_⟩
      · by_cases e : l = m
        · subst e; omega
        · exact i2.mp (by omega) l (by omega)
      · have := i2.mpr (fun l hl => h l (by omega))
        have := h m (by omega)
        omega
    · rw [if_neg (by simp; omega)]
      refine ⟨by omega, fun h l hl => ?_, fun h => ?_⟩
      · by_cases e : l = m
        · subst e; omega
        · exact i2.mp (by omega) l (by omega)
      · have := i2.mpr (fun l hl => h l (by omega))
        omega
/-- bits below 12 alone -/
def lo12 (x : Int32) : Prop := ∀ i, 12 ≤ i → i < 32 → bt x i = false
theorem ibc_cn {x : Int32} (hx : lo12 x) : ibc x = nI (cn (bt x) 12) := by
  obtain ⟨q, hq, e⟩ := low12 hx
  rw [e, ibc_p hq]
  congr 1
  unfold pcn cn
  refine fo_congr (fun i hi c => ?_)
  rw [bt_nI (by omega)]
theorem lo12_and {x y : Int32} (h : lo12 x) : lo12 (x &&& y) := fun i h1 h2 => by rw [bt_and, h i h1 h2]; rfl
theorem lo12_and' {x y : Int32} (h : lo12 y) : lo12 (x &&& y) := fun i h1 h2 => by rw [bt_and, h i h1 h2, Bool.and_false]
theorem lo12_nI {q : Nat} (hq : q < 4096) : lo12 (nI q) := fun i h1 h2 => by
  rw [bt_nI (by omega)]
  exact Nat.testBit_lt_two_pow (Nat.lt_of_lt_of_le hq (Nat.pow_le_pow_right (n := 2) (by decide) (show 12 ≤ i from h1)))
theorem lo12_wh {A : Nat → Int32} {x : Int32} {n : Nat} (hn : n ≤ 12) : lo12 (tc_wh A x n) := fun i h1 h2 => by
  rw [wh_b hn h2, decide_eq_false (by omega)]; rfl
theorem ibc_0 {x : Int32} (hx : lo12 x) : ibc x = 0 ↔ x = 0 := by
  rw [ibc_cn hx]
  constructor
  · intro h
    have h0 : cn (bt x) 12 = 0 := (nI_eq (b := 0) (by have := cn_le (p := bt x) (k := 12); omega) (by decide)).mp h
    apply bt_ext
    intro i hi
    rw [bt_0]
    by_cases c : i < 12
    · exact cn_0.mp h0 i c
    · exact hx i (by omega) hi
  · intro h
    subst h
    have : cn (bt 0) 12 = 0 := cn_0.mpr (fun i _ => bt_0)
    rw [this]
    rfl
theorem all_b {n i : Nat} (hn : n ≤ 12) (hi : i < 32) : bt (tc_allv (nI n)) i = decide (i < n) := by
  have : ∀ n : Fin 13, ∀ i : Fin 32, bt (tc_allv (nI n.1)) i.1 = decide (i.1 < n.1) := by decide +kernel
  exact this ⟨n, by omega⟩ ⟨i, hi⟩
theorem all_nI {n : Nat} (hn : n ≤ 12) : tc_allv (nI n) = nI (2 ^ n - 1) := by
  have : ∀ n : Fin 13, tc_allv (nI n.1) = nI (2 ^ n.1 - 1) := by decide +kernel
  exact this ⟨n, by omega⟩
theorem p2_12 {n : Nat} (hn : n ≤ 12) : 2 ^ n ≤ 4096 ∧ 0 < 2 ^ n := ⟨Nat.pow_le_pow_right (n := 2) (by decide) (show n ≤ 12 from hn), Nat.pow_pos (by decide)⟩
/-- a set of n sorts has bits below n alone -/
theorem set_b {n i j : Nat} (hn : n ≤ 12) (hi : i < 2 ^ n) (hj : n ≤ j) : bt (nI i) j = false := by
  have := (p2_12 hn).1
  rw [bt_nI (by omega)]
  exact Nat.testBit_lt_two_pow (Nat.lt_of_lt_of_le hi (Nat.pow_le_pow_right (by decide) hj))
/-- a set within another is not the greater number -/
theorem sub_le {i q : Nat} (hi : i < 4096) (hq : q < 4096) (h : ∀ j, j < 32 → bt (nI i) j = true → bt (nI q) j = true) : i ≤ q := by
  have e : i &&& q = i := by
    apply Nat.eq_of_testBit_eq
    intro j
    rw [Nat.testBit_and]
    by_cases c : j < 32
    · have := h j c
      rw [bt_nI (by omega), bt_nI (by omega)] at this
      cases h1 : i.testBit j with
      | false => rfl
      | true => rw [this h1]; rfl
    · have : i.testBit j = false := Nat.testBit_lt_two_pow (Nat.lt_of_lt_of_le hi (Nat.pow_le_pow_right (n := 2) (by decide) (show 12 ≤ j by omega)))
      rw [this]; rfl
  rw [← e]
  exact Nat.and_le_right
theorem bits_lt {n q : Nat} (hq : q < 4096) (h : ∀ j, n ≤ j → j < 32 → bt (nI q) j = false) : q < 2 ^ n := by
  refine Nat.lt_pow_two_of_testBit q (fun j hj => ?_)
  by_cases c : j < 32
  · have := h j hj c
    rwa [bt_nI (by omega)] at this
  · exact Nat.testBit_lt_two_pow (Nat.lt_of_lt_of_le hq (Nat.pow_le_pow_right (n := 2) (by decide) (show 12 ≤ j by omega)))
theorem fo_ext {α : Type} {f : Nat → α → α} {z : α} {a : Nat} : ∀ {j : Nat}, (∀ i, a ≤ i → i < a + j → ∀ x, f i x = x) → fo f z (a + j) = fo f z a
  | 0, _ => rfl
  | j + 1, h => by
    show f (a + j) (fo f z (a + j)) = _
    rw [h (a + j) (by omega) (by omega), fo_ext (fun i h1 h2 => h i h1 (by omega))]
theorem and_sub {x y : Int32} : x &&& (y ^^^ (-1)) = 0 ↔ ∀ j, j < 32 → bt x j = true → bt y j = true := by
  constructor
  · intro h j hj hx
    have : bt (x &&& (y ^^^ (-1))) j = false := by rw [h, bt_0]
    rw [bt_and, bt_not hj, hx] at this
    cases hy : bt y j with
    | true => rfl
    | false => rw [hy] at this; cases this
  · intro h
    apply bt_ext
    intro j hj
    rw [bt_and, bt_not hj, bt_0]
    cases hx : bt x j with
    | false => rfl
    | true => rw [h j hj hx]; rfl
theorem and_dis {x y : Int32} : x &&& y = 0 ↔ ∀ j, j < 32 → bt x j = true → bt y j = false := by
  constructor
  · intro h j hj hx
    have : bt (x &&& y) j = false := by rw [h, bt_0]
    rw [bt_and, hx] at this
    simpa using this
  · intro h
    apply bt_ext
    intro j hj
    rw [bt_and, bt_0]
    cases hx : bt x j with
    | false => rfl
    | true => rw [h j hj hx]; rfl
theorem su_all {N P : Nat → Int32} {x : Int32} : ∀ {j k : Nat}, le_su N P x j k = true ↔ ∀ l, k ≤ l → l < k + j → ibc (x &&& P l) = N l
  | 0, k => ⟨fun _ l h1 h2 => by omega, fun _ => rfl⟩
  | j + 1, k => by
    have ih := su_all (N := N) (P := P) (x := x) (j := j) (k := k + 1)
    show (if ibc (x &&& P k) = N k then le_su N P x j (k + 1) else false) = true ↔ _
    constructor
    · intro h l h1 h2
      split at h
      · rename_i c
        by_cases e : l = k
        · subst e; exact c
        · exact ih.mp h l (by omega) (by omega)
      · cases h
    · intro h
      rw [if_pos (h k (Nat.le_refl _) (by omega))]
      exact ih.mpr (fun l h1 h2 => h l (by omega) (by omega))
section
variable {L N : Nat → Int32} {n c : Nat} {s : Int32}
theorem po_b {l j : Nat} (hn : n ≤ 12) (hj : j < 32) : bt (le_po N L n s l) j = true ↔ ¬ N l ≤ 0 ∧ j < n ∧ L j = nI l ∧ bt s j = false := by
  unfold le_po
  split
  · rename_i h
    rw [bt_0]
    exact ⟨fun q => (by cases q), fun q => absurd h q.1⟩
  · rename_i h
    rw [bt_and, bt_and, wh_b hn hj, all_b hn hj, bt_not hj]
    simp only [Bool.and_eq_true, decide_eq_true_eq, Bool.not_eq_true']
    exact ⟨fun q => ⟨h, q.1.1, q.1.2, q.2.2⟩, fun q => ⟨⟨q.2.1, q.2.2.1⟩, q.2.1, q.2.2.2⟩⟩
theorem pl_b {j : Nat} (hn : n ≤ 12) (hj : j < 32) : ∀ m, bt (le_pl N L n s m) j = true ↔ ∃ l, l < m ∧ ¬ N l ≤ 0 ∧ j < n ∧ L j = nI l ∧ bt s j = false
  | 0 => by
    have e : le_pl N L n s 0 = 0 := rfl
    rw [e, bt_0]
    exact ⟨fun q => (by cases q), fun ⟨l, h, _⟩ => absurd h (Nat.not_lt_zero l)⟩
  | m + 1 => by
    have ih := pl_b hn hj m
    have es : le_pl N L n s (m + 1) = le_pl N L n s m ||| le_po N L n s m := rfl
    rw [es, bt_or, Bool.or_eq_true, ih, po_b hn hj]
    constructor
    · rintro (⟨l, h1, h2⟩ | h)
      · exact ⟨l, by omega, h2⟩
      · exact ⟨m, by omega, h⟩
    · rintro ⟨l, h1, h2⟩
      by_cases e : l = m
      · subst e; exact Or.inr h2
      · exact Or.inl ⟨l, by omega, h2⟩
/-- a set that bears a text: both ways -/
theorem sui_e {z : Int32} {i : Nat} (hn : n ≤ 12) (hB : BX n L) (hN : ∀ l, l < 8 → ∃ y, y < 100 ∧ N l = nI y) (hi : i < 2 ^ n) : sui N L n s z (nI i) = (decide (ibc (nI i) = z) && (decide (nI i &&& s = 0) && le_su N (fun l => tc_wh L (nI l) n &&& (s ^^^ (-1))) (nI i) 8 0)) := by
  have h12 : i < 4096 := Nat.lt_of_lt_of_le hi (p2_12 hn).1
  have hl : lo12 (nI i) := lo12_nI h12
  have key : (nI i &&& (le_pl N L n s 8 ^^^ (-1)) = 0 ∧ ∀ l, l < 8 → ibc (nI i &&& le_po N L n s l) = N l) ↔ (nI i &&& s = 0 ∧ ∀ l, l < 8 → ibc (nI i &&& (tc_wh L (nI l) n &&& (s ^^^ (-1)))) = N l) := by
    have epos : ∀ l, ¬ N l ≤ 0 → nI i &&& le_po N L n s l = nI i &&& (tc_wh L (nI l) n &&& (s ^^^ (-1))) := by
      intro l h
      unfold le_po
      rw [if_neg h]
      apply bt_ext
      intro j hj
      rw [bt_and, bt_and, bt_and, bt_and, bt_and, wh_b hn hj, all_b hn hj]
      cases decide (j < n) <;> simp
    constructor
    · rintro ⟨h1, h2⟩
      have hs : nI i &&& s = 0 := by
        rw [and_dis]
        intro j hj hx
        obtain ⟨l, -, -, -, -, q⟩ := (pl_b hn hj 8).mp ((and_sub.mp h1) j hj hx)
        exact q
      refine ⟨hs, fun l hl8 => ?_⟩
      by_cases c : N l ≤ 0
      · obtain ⟨y, hy, ey⟩ := hN l hl8
        have y0 : y = 0 := by
          rw [ey] at c
          apply Classical.byContradiction
          intro q
          exact nI_nle (by omega) (by omega) c
        rw [ey, y0]
        refine (ibc_0 (lo12_and hl)).mpr ?_
        rw [and_dis]
        intro j hj hx
        obtain ⟨l', l1, l2, l3, l4, l5⟩ := (pl_b hn hj 8).mp ((and_sub.mp h1) j hj hx)
        rw [bt_and, wh_b hn hj, l4]
        have : ¬ nI l' = nI l := fun e => by
          have := (nI_eq (by omega) (by omega)).mp e
          subst this
          exact l2 c
        rw [decide_eq_false this, Bool.and_false, Bool.false_and]
      · rw [← epos l c]
        exact h2 l hl8
    · rintro ⟨h1, h2⟩
      refine ⟨and_sub.mpr (fun j hj hx => ?_), fun l hl8 => ?_⟩
      · have hjn : j < n := by
          apply Nat.not_le.mp
          intro q
          rw [set_b hn hi q] at hx
          cases hx
        have hsj := (and_dis.mp h1) j hj hx
        obtain ⟨l, hl8, el⟩ := hB j hjn
        refine (pl_b hn hj 8).mpr ⟨l, hl8, fun c => ?_, hjn, el, hsj⟩
        obtain ⟨y, hy, ey⟩ := hN l hl8
        have y0 : y = 0 := by
          rw [ey] at c
          apply Classical.byContradiction
          intro q
          exact nI_nle (by omega) (by omega) c
        have h3 := h2 l hl8
        rw [ey, y0] at h3
        have h4 := (ibc_0 (lo12_and hl)).mp h3
        have h5 := (and_dis.mp h4) j hj hx
        rw [bt_and, wh_b hn hj, bt_not hj, hsj, decide_eq_true hjn, decide_eq_true el] at h5
        cases h5
      · by_cases c : N l ≤ 0
        · obtain ⟨y, hy, ey⟩ := hN l hl8
          have y0 : y = 0 := by
            rw [ey] at c
            apply Classical.byContradiction
            intro q
            exact nI_nle (by omega) (by omega) c
          have : le_po N L n s l = 0 := if_pos c
          rw [this, ey, y0]
          refine (ibc_0 (lo12_and hl)).mpr ?_
          apply bt_ext
          intro j hj
          rw [bt_and, bt_0, Bool.and_false]
        · rw [epos l c]
          exact h2 l hl8
  have k1 := su_all (N := N) (P := le_po N L n s) (x := nI i) (j := 8) (k := 0)
  have k2 := su_all (N := N) (P := fun l => tc_wh L (nI l) n &&& (s ^^^ (-1))) (x := nI i) (j := 8) (k := 0)
  unfold sui
  rw [Bool.eq_iff_iff]
  simp only [Bool.and_eq_true, decide_eq_true_eq, k1, k2]
  constructor
  · rintro ⟨a, b, e⟩
    obtain ⟨q1, q2⟩ := key.mp ⟨a, fun l h => e l (Nat.zero_le _) (by omega)⟩
    exact ⟨b, q1, fun l _ h => q2 l (by omega)⟩
  · rintro ⟨b, a, e⟩
    obtain ⟨q1, q2⟩ := key.mpr ⟨a, fun l h => e l (Nat.zero_le _) (by omega)⟩
    exact ⟨q1, b, fun l _ h => q2 l (by omega)⟩
theorem sui_out {z : Int32} {i q : Nat} (hq : le_pl N L n s 8 = nI q) (hq12 : q < 4096) (hi : i < 4096) (h : q < i) : sui N L n s z (nI i) = false := by
  unfold sui
  have : ¬ nI i &&& (le_pl N L n s 8 ^^^ (-1)) = 0 := by
    intro e
    have := sub_le hi hq12 (by rw [← hq]; exact and_sub.mp e)
    omega
  rw [decide_eq_false this]
  rfl
theorem pl_lt {q : Nat} (hn : n ≤ 12) (hq : le_pl N L n s 8 = nI q) (hq12 : q < 4096) : q < 2 ^ n := by
  refine bits_lt hq12 (fun j h1 h2 => ?_)
  rw [← hq]
  cases hb : bt (le_pl N L n s 8) j with
  | false => rfl
  | true =>
    obtain ⟨l, -, -, q, -⟩ := (pl_b hn h2 8).mp hb
    omega
end
