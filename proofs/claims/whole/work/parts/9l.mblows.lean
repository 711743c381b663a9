/-! which sorts to clean: box by box, or all at once -/
/-- weights of those that are so -/
def ws (w : Nat → Nat) (p : Nat → Bool) : Nat → Nat := fo (fun i a => a + if p i then w i else 0) 0
theorem ws_s {w : Nat → Nat} {p : Nat → Bool} {k : Nat} : ws w p (k + 1) = ws w p k + if p k then w k else 0 := rfl
theorem ws_cg {w : Nat → Nat} {p q : Nat → Bool} : ∀ {k : Nat}, (∀ i, i < k → p i = q i) → ws w p k = ws w q k
  | 0, _ => rfl
  | k + 1, h => by rw [ws_s, ws_s, ws_cg (fun i hi => h i (by omega)), h k (by omega)]
theorem ws_letters {w : Nat → Nat} {p : Nat → Bool} {x : Nat → Nat} : ∀ {k : Nat}, (∀ i, i < k → x i < 8) → sl (fun l => ws w (fun i => p i && decide (x i = l)) k) 8 = ws w p k
  | 0, _ => sl_zero
  | k + 1, h => by
    have ih := ws_letters (w := w) (p := p) (x := x) (k := k) (fun i hi => h i (by omega))
    have e : sl (fun l => ws w (fun i => p i && decide (x i = l)) (k + 1)) 8 = sl (fun l => ws w (fun i => p i && decide (x i = l)) k) 8 + sl (fun l => if (p k && decide (x k = l)) = true then w k else 0) 8 := sl_add
    rw [e, ih, ws_s]
    congr 1
    cases hp : p k with
    | false =>
      rw [if_neg (by decide)]
      exact (sl_cg (g := fun _ => 0) (fun i hi => by simp)).trans sl_zero
    | true =>
      rw [if_pos rfl]
      have sc : ∀ (c z : Nat) (k : Nat), sl (fun l => if z = l then c else 0) k = if z < k then c else 0 := by
        intro c z k
        induction k with
        | zero => rfl
        | succ k ih =>
          rw [sl_s, ih]
          by_cases q : z < k
          · rw [if_pos q, if_neg (by omega), if_pos (by omega)]; omega
          · rw [if_neg q]
            by_cases e : z = k
            · rw [if_pos e, if_pos (by omega)]; omega
            · rw [if_neg e, if_neg (by omega)]
      have := sc (w k) (x k) 8
      rw [if_pos (h k (by omega))] at this
      exact (sl_cg (g := fun l => if x k = l then w k else 0) (fun i hi => by simp)).trans this
theorem sl_le {f g : Nat → Nat} : ∀ {k : Nat}, (∀ i, i < k → f i ≤ g i) → sl f k ≤ sl g k ∧ (sl f k = sl g k → ∀ i, i < k → f i = g i)
  | 0, _ => ⟨Nat.le_refl _, fun _ i hi => absurd hi (Nat.not_lt_zero i)⟩
  | k + 1, h => by
    obtain ⟨i1, i2⟩ := sl_le (f := f) (g := g) (k := k) (fun i hi => h i (by omega))
    have := h k (by omega)
    rw [sl_s, sl_s]
    refine ⟨by omega, fun e i hi => ?_⟩
    by_cases c : i = k
    · subst c; omega
    · exact i2 (by omega) i (by omega)
theorem cn_ws {p : Nat → Bool} {k : Nat} : cn p k = ws (fun _ => 1) p k := rfl
/-- a number is the sum of its bits -/
theorem ws_num {n : Nat} : ∀ {x : Nat}, x < 2 ^ n → ws (fun i => 2 ^ i) (fun i => x.testBit i) n = x := by
  induction n with
  | zero =>
    intro x hx
    have : x = 0 := by omega
    subst this
    rfl
  | succ n ih =>
    intro x hx
    rw [ws_s]
    have hm : x % 2 ^ n < 2 ^ n := Nat.mod_lt _ (Nat.pow_pos (by decide))
    have e1 : ws (fun i => 2 ^ i) (fun i => x.testBit i) n = ws (fun i => 2 ^ i) (fun i => (x % 2 ^ n).testBit i) n := ws_cg (fun i hi => by rw [Nat.testBit_mod_two_pow, decide_eq_true hi, Bool.true_and])
    rw [e1, ih hm]
    have h2 : 2 ^ (n + 1) = 2 * 2 ^ n := by rw [Nat.pow_succ]; omega
    have hd : x / 2 ^ n < 2 := by
      rw [Nat.div_lt_iff_lt_mul (Nat.pow_pos (by decide))]
      omega
    have hdm := Nat.div_add_mod x (2 ^ n)
    have ht : x.testBit n = decide (x / 2 ^ n % 2 = 1) := Nat.testBit_eq_decide_div_mod_eq
    rw [ht]
    by_cases c : x / 2 ^ n = 1
    · rw [c] at hdm
      rw [if_pos (by rw [c]; rfl)]
      omega
    · have c0 : x / 2 ^ n = 0 := Nat.lt_one_iff.mp (Nat.lt_of_le_of_ne (Nat.le_of_lt_succ hd) c)
      rw [c0] at hdm
      rw [if_neg (by rw [c0]; decide)]
      omega
theorem few1_some {ok : Nat → Bool} {mo k : Int32} : ∀ {j x r : Nat}, few1 ok mo k j x = some r → x ≤ r ∧ r < x + j ∧ nI r &&& (mo ^^^ (-1)) = 0 ∧ ibc (nI r) = k ∧ ok r = true ∧ ∀ q, x ≤ q → q < r → ¬ (nI q &&& (mo ^^^ (-1)) = 0 ∧ ibc (nI q) = k ∧ ok q = true)
  | 0, x, r, h => by cases h
  | j + 1, x, r, h => by
    have h : (if nI x &&& (mo ^^^ (-1)) = 0 then (if ibc (nI x) = k then (if ok x then some x else few1 ok mo k j (x + 1)) else few1 ok mo k j (x + 1)) else few1 ok mo k j (x + 1)) = some r := h
    have next : few1 ok mo k j (x + 1) = some r → ¬ (nI x &&& (mo ^^^ (-1)) = 0 ∧ ibc (nI x) = k ∧ ok x = true) → x ≤ r ∧ r < x + (j + 1) ∧ nI r &&& (mo ^^^ (-1)) = 0 ∧ ibc (nI r) = k ∧ ok r = true ∧ ∀ q, x ≤ q → q < r → ¬ (nI q &&& (mo ^^^ (-1)) = 0 ∧ ibc (nI q) = k ∧ ok q = true) := by
      intro hr hno
      obtain ⟨a, b, c, d, e, f⟩ := few1_some hr
      refine ⟨by omega, by omega, c, d, e, fun q h1 h2 => ?_⟩
      by_cases z : q = x
      · subst z; exact hno
      · exact f q (by omega) h2
    by_cases c1 : nI x &&& (mo ^^^ (-1)) = 0
    · rw [if_pos c1] at h
      by_cases c2 : ibc (nI x) = k
      · rw [if_pos c2] at h
        cases c3 : ok x with
        | true =>
          rw [c3, if_pos rfl] at h
          cases h
          exact ⟨Nat.le_refl _, by omega, c1, c2, c3, fun q h1 h2 => by omega⟩
        | false =>
          rw [c3, if_neg (by decide)] at h
          exact next h (fun q => by rw [c3] at q; cases q.2.2)
      · rw [if_neg c2] at h
        exact next h (fun q => c2 q.2.1)
    · rw [if_neg c1] at h
      exact next h (fun q => c1 q.1)
theorem few1_none {ok : Nat → Bool} {mo k : Int32} : ∀ {j x : Nat}, few1 ok mo k j x = none → ∀ q, x ≤ q → q < x + j → ¬ (nI q &&& (mo ^^^ (-1)) = 0 ∧ ibc (nI q) = k ∧ ok q = true)
  | 0, x, _ => fun q h1 h2 => by omega
  | j + 1, x, h => by
    have h : (if nI x &&& (mo ^^^ (-1)) = 0 then (if ibc (nI x) = k then (if ok x then some x else few1 ok mo k j (x + 1)) else few1 ok mo k j (x + 1)) else few1 ok mo k j (x + 1)) = none := h
    have next : few1 ok mo k j (x + 1) = none → ¬ (nI x &&& (mo ^^^ (-1)) = 0 ∧ ibc (nI x) = k ∧ ok x = true) → ∀ q, x ≤ q → q < x + (j + 1) → ¬ (nI q &&& (mo ^^^ (-1)) = 0 ∧ ibc (nI q) = k ∧ ok q = true) := by
      intro hr hno q h1 h2
      by_cases z : q = x
      · subst z; exact hno
      · exact few1_none hr q (by omega) (by omega)
    by_cases c1 : nI x &&& (mo ^^^ (-1)) = 0
    · rw [if_pos c1] at h
      by_cases c2 : ibc (nI x) = k
      · rw [if_pos c2] at h
        cases c3 : ok x with
        | true => rw [c3, if_pos rfl] at h; cases h
        | false =>
          rw [c3, if_neg (by decide)] at h
          exact next h (fun q => by rw [c3] at q; cases q.2.2)
      · rw [if_neg c2] at h
        exact next h (fun q => c2 q.2.1)
    · rw [if_neg c1] at h
      exact next h (fun q => c1 q.1)
theorem few2_some {ok : Nat → Bool} {mo : Int32} {q : Nat} : ∀ {j k r : Nat}, few2 ok mo q j k = some r → r ≤ q ∧ nI r &&& (mo ^^^ (-1)) = 0 ∧ ok r = true ∧ (∃ s, k ≤ s ∧ s < k + j ∧ ibc (nI r) = nI s ∧ (∀ y, y ≤ q → nI y &&& (mo ^^^ (-1)) = 0 → ok y = true → ∀ t, ibc (nI y) = nI t → k ≤ t → t < 2 ^ 31 → s < 2 ^ 31 → s ≤ t ∧ (s = t → r ≤ y)))
  | 0, k, r, h => by cases h
  | j + 1, k, r, h => by
    have h : (match few1 ok mo (nI k) (q + 1) 0 with
      | some x => some x
      | none => few2 ok mo q j (k + 1)) = some r := h
    cases hf : few1 ok mo (nI k) (q + 1) 0 with
    | some x =>
      rw [hf] at h
      cases h
      obtain ⟨a, b, c, d, e, f⟩ := few1_some hf
      refine ⟨by omega, c, e, k, Nat.le_refl _, by omega, d, fun y h1 h2 h3 t h4 h5 h6 h7 => ⟨h5, fun z => ?_⟩⟩
      subst z
      apply Nat.not_lt.mp
      intro hlt
      exact f y (Nat.zero_le _) hlt ⟨h2, h4, h3⟩
    | none =>
      rw [hf] at h
      obtain ⟨a, b, c, s, s1, s2, s3, s4⟩ := few2_some h
      refine ⟨a, b, c, s, by omega, by omega, s3, fun y h1 h2 h3 t h4 h5 h6 h7 => ?_⟩
      by_cases z : t = k
      · subst z
        exact absurd ⟨h2, h4, h3⟩ (few1_none hf y (Nat.zero_le _) (by omega))
      · exact s4 y h1 h2 h3 t h4 (by omega) h6 h7
theorem few2_none {ok : Nat → Bool} {mo : Int32} {q : Nat} : ∀ {j k : Nat}, few2 ok mo q j k = none → ∀ y, y ≤ q → nI y &&& (mo ^^^ (-1)) = 0 → ok y = true → ∀ t, ibc (nI y) = nI t → k ≤ t → t < k + j → False
  | 0, k, _ => fun y _ _ _ t _ h1 h2 => by omega
  | j + 1, k, h => by
    have h : (match few1 ok mo (nI k) (q + 1) 0 with
      | some x => some x
      | none => few2 ok mo q j (k + 1)) = none := h
    cases hf : few1 ok mo (nI k) (q + 1) 0 with
    | some x => rw [hf] at h; cases h
    | none =>
      rw [hf] at h
      intro y h1 h2 h3 t h4 h5 h6
      by_cases z : t = k
      · subst z
        exact few1_none hf y (Nat.zero_le _) (by omega) ⟨h2, h4, h3⟩
      · exact few2_none h y h1 h2 h3 t h4 (by omega) (by omega)
theorem clM_at {S : Int32} {M : Nat → Int32} : ∀ {k i : Nat}, k ≤ 12 → clM S M k i = if i < k ∧ bt S i = true then 0 else M i
  | 0, i, _ => (if_neg (by omega)).symm
  | k + 1, i, hk => by
    have es : clM S M (k + 1) = if (S >>> (nI k &&& 31)) &&& 1 = 1 then upd (clM S M k) k 0 else clM S M k := rfl
    rw [es]
    by_cases c : bt S k = true
    · rw [if_pos ((bt_sr (by omega)).mpr c)]
      unfold upd
      by_cases e : i = k
      · subst e; rw [if_pos rfl]; exact (if_pos ⟨by omega, c⟩).symm
      · rw [if_neg e, clM_at (by omega)]
        by_cases q : i < k ∧ bt S i = true
        · rw [if_pos q]; exact (if_pos ⟨by omega, q.2⟩).symm
        · rw [if_neg q]; exact (if_neg (fun z => q ⟨by omega, z.2⟩)).symm
    · rw [if_neg (fun q => c ((bt_sr (by omega)).mp q)), clM_at (by omega)]
      by_cases q : i < k ∧ bt S i = true
      · rw [if_pos q]; exact (if_pos ⟨by omega, q.2⟩).symm
      · rw [if_neg q]
        refine (if_neg (fun z => ?_)).symm
        by_cases e : i = k
        · subst e; exact c z.2
        · exact q ⟨by omega, z.2⟩
theorem moo_b {mem : Int32} {M : Nat → Int32} {i : Nat} (hi : i < 32) : ∀ {k : Nat}, k ≤ 12 → (bt (moo mem M k) i = true ↔ i < k ∧ bt mem i = true ∧ ¬ M i = 0)
  | 0, _ => by
    have e : moo mem M 0 = 0 := rfl
    rw [e, bt_0]
    exact ⟨fun q => (by cases q), fun q => absurd q.1 (Nat.not_lt_zero i)⟩
  | k + 1, hk => by
    have ih := moo_b (mem := mem) (M := M) hi (k := k) (by omega)
    have es : moo mem M (k + 1) = if (mem >>> (nI k &&& 31)) &&& 1 = 1 then (if M k = 0 then moo mem M k else moo mem M k ||| (1 <<< (nI k &&& 31))) else moo mem M k := rfl
    rw [es]
    have up : ¬ (bt mem k = true ∧ ¬ M k = 0) → (bt (moo mem M k) i = true ↔ i < k + 1 ∧ bt mem i = true ∧ ¬ M i = 0) := by
      intro hno
      rw [ih]
      constructor
      · rintro ⟨a, b⟩; exact ⟨by omega, b⟩
      · rintro ⟨a, b⟩
        refine ⟨?_, b⟩
        have : i ≠ k := fun e => hno (by rw [← e]; exact b)
        omega
    by_cases c1 : bt mem k = true
    · rw [if_pos ((bt_sr (by omega)).mpr c1)]
      by_cases c2 : M k = 0
      · rw [if_pos c2]; exact up (fun q => q.2 c2)
      · rw [if_neg c2, bt_or, Bool.or_eq_true, ih, bt_one (by omega) hi, decide_eq_true_eq]
        constructor
        · rintro (⟨a, b⟩ | e)
          · exact ⟨by omega, b⟩
          · subst e; exact ⟨by omega, c1, c2⟩
        · rintro ⟨a, b⟩
          by_cases e : i = k
          · exact Or.inr e
          · exact Or.inl ⟨by omega, b⟩
    · rw [if_neg (fun q => c1 ((bt_sr (by omega)).mp q))]
      exact up (fun q => c1 q.1)
theorem cal_all {mem v : Int32} {M : Nat → Int32} : ∀ {j i : Nat}, i + j ≤ 12 → (cal mem v M j i = true ↔ ∀ q, i ≤ q → q < i + j → bt mem q = true → iabs (M q) ≤ v)
  | 0, i, _ => ⟨fun _ q h1 h2 => by omega, fun _ => rfl⟩
  | j + 1, i, h => by
    have ih := cal_all (mem := mem) (v := v) (M := M) (j := j) (i := i + 1) (by omega)
    have es : cal mem v M (j + 1) i = if (mem >>> (nI i &&& 31)) &&& 1 = 1 then (if iabs (M i) ≤ v then cal mem v M j (i + 1) else false) else cal mem v M j (i + 1) := rfl
    rw [es]
    by_cases c1 : bt mem i = true
    · rw [if_pos ((bt_sr (by omega)).mpr c1)]
      by_cases c2 : iabs (M i) ≤ v
      · rw [if_pos c2, ih]
        constructor
        · intro q x x1 x2 x3
          by_cases e : x = i
          · subst e; exact c2
          · exact q x (by omega) (by omega) x3
        · intro q x x1 x2 x3
          exact q x (by omega) (by omega) x3
      · rw [if_neg c2]
        exact ⟨fun q => (by cases q), fun q => absurd (q i (Nat.le_refl _) (by omega) c1) c2⟩
    · rw [if_neg (fun q => c1 ((bt_sr (by omega)).mp q)), ih]
      constructor
      · intro q x x1 x2 x3
        by_cases e : x = i
        · subst e; exact absurd x3 c1
        · exact q x (by omega) (by omega) x3
      · intro q x x1 x2 x3
        exact q x (by omega) (by omega) x3
/-- moods of a box come of moods of that box alone -/
theorem bs_cg {M M' : Nat → Int32} {β : Nat → Nat} {x : Nat} : ∀ {k : Nat}, (∀ o, o < k → β o = x → M o = M' o) → bs M β x k = bs M' β x k
  | 0, _ => rfl
  | k + 1, h => by
    have es : ∀ M : Nat → Int32, bs M β x (k + 1) = if β k = x then bs M β x k + M k else bs M β x k := fun _ => rfl
    rw [es, es, bs_cg (fun o ho => h o (by omega))]
    by_cases c : β k = x
    · rw [if_pos c, if_pos c, h k (by omega) c]
    · rw [if_neg c, if_neg c]
theorem evo {V : (Nat → Int32) → Int32} {L W B : Nat → Int32} {n x : Nat} {a b : Int32} (hn : n ≤ 12) (ha : ∀ i, i < n → be B i = x → bt a i = true) (hb : ∀ i, i < n → be B i = x → bt b i = true) : ∀ {m : Nat} {M M' : Nat → Int32} {g : Int32}, (∀ i, i < n → be B i = x → M i = M' i) → ∀ i, i < n → be B i = x → (ngs V L W n a m (M, B, 0, g)).1 i = (ngs V L W n b m (M', B, 0, g)).1 i
  | 0, M, M', g, h => h
  | m + 1, M, M', g, h => by
    intro i hi hx
    have es : ∀ (c : Int32) (M : Nat → Int32), ngs V L W n c (m + 1) (M, B, 0, g) = ngs V L W n c m (nM V L W M (be (tc_dB 0 L W B n)) n g c n, tc_dB 0 L W B n, 0, g + 1) := fun _ _ => rfl
    rw [es, es, dB_0 _ hn]
    refine evo hn ha hb (fun q hq hxq => ?_) i hi hx
    rw [nM_at hq ((bt_sr (by omega)).mpr (ha q hq hxq)), nM_at hq ((bt_sr (by omega)).mpr (hb q hq hxq))]
    unfold nE tc_env
    have e1 : bs M (be B) (be B q) n = bs M' (be B) (be B q) n := bs_cg (fun o ho e => h o ho (e.trans hxq))
    dsimp only
    rw [e1, h q hq hxq]
