/-! which sorts are taken: in the order of the text, or letter by letter -/
/-- a letter takes one more -/
def tk1 (L W : Nat → Int32) (n : Nat) (s x t : Int32) : Option Int32 := match tc_lw ((tc_wh L x n &&& (s ^^^ (-1))) &&& (t ^^^ (-1))) W n with
  | none => none
  | some j => some (t ||| (1 <<< (nI j &&& 31)))
/-- j letters from i on, in their order -/
def ftk (L W : Nat → Int32) (n : Nat) (s : Int32) (Z : Nat → Int32) : Nat → Nat → Int32 → Option Int32
  | 0, _, t => some t
  | j + 1, i, t => (tk1 L W n s (Z i) t).bind (ftk L W n s Z j (i + 1))
section
variable {L W : Nat → Int32} {n : Nat} {s : Int32}
theorem lw_cg {a b : Int32} {V V' : Nat → Int32} {k : Nat} (hk : k ≤ 32) (h : ∀ i, i < k → bt a i = bt b i) (hv : ∀ i, i < k → bt a i = true → V i = V' i) : tc_lw a V k = tc_lw b V' k ∧ ∀ j, tc_lw a V k = some j → bt a j = true ∧ j < k := by
  induction k with
  | zero => exact ⟨show (none : Option Nat) = none from rfl, fun j e => by have e : (none : Option Nat) = some j := e; cases e⟩
  | succ k ihk =>
    obtain ⟨ih, im⟩ := ihk (by omega) (fun i hi => h i (by omega)) (fun i hi => hv i (by omega))
    have e1 : tc_lw a V (k + 1) = if (a >>> (nI k &&& 31)) &&& 1 = 1 then (match tc_lw a V k with
      | none => some k
      | some j => if V j ≤ V k then some j else some k) else tc_lw a V k := rfl
    have e2 : tc_lw b V' (k + 1) = if (b >>> (nI k &&& 31)) &&& 1 = 1 then (match tc_lw b V' k with
      | none => some k
      | some j => if V' j ≤ V' k then some j else some k) else tc_lw b V' k := rfl
    have hb := h k (by omega)
    rw [e1, e2, ← ih]
    by_cases c : bt a k = true
    · have c2 : bt b k = true := by rw [← hb]; exact c
      rw [if_pos ((bt_sr (by omega)).mpr c), if_pos ((bt_sr (by omega)).mpr c2)]
      cases hr : tc_lw a V k with
      | none =>
        refine ⟨show some k = some k from rfl, fun j e => ?_⟩
        have e : some k = some j := e
        cases e
        exact ⟨c, by omega⟩
      | some j =>
        obtain ⟨m1, m2⟩ := im j hr
        dsimp only
        rw [hv j (by omega) m1, hv k (by omega) c]
        refine ⟨rfl, fun i e => ?_⟩
        split at e
        · cases e; exact ⟨m1, by omega⟩
        · cases e; exact ⟨c, by omega⟩
    · have c2 : ¬ bt b k = true := by rw [← hb]; exact c
      rw [if_neg (fun q => c ((bt_sr (by omega)).mp q)), if_neg (fun q => c2 ((bt_sr (by omega)).mp q))]
      exact ⟨rfl, fun j e => ⟨(im j e).1, by have := (im j e).2; omega⟩⟩
theorem cnd_b {x t : Int32} {i : Nat} (hn : n ≤ 12) (hi : i < 32) : bt ((tc_wh L x n &&& (s ^^^ (-1))) &&& (t ^^^ (-1))) i = (((decide (i < n) && decide (L i = x)) && !(bt s i)) && !(bt t i)) := by
  rw [bt_and, bt_and, wh_b hn hi, bt_not hi, bt_not hi]
/-- what is taken is one of that letter that neither stands nor is taken -/
theorem tk1_some {x t : Int32} (hn : n ≤ 12) {j : Nat} (h : tc_lw ((tc_wh L x n &&& (s ^^^ (-1))) &&& (t ^^^ (-1))) W n = some j) : j < n ∧ L j = x ∧ bt s j = false ∧ bt t j = false := by
  have h2 := (lw_cg (a := (tc_wh L x n &&& (s ^^^ (-1))) &&& (t ^^^ (-1))) (b := (tc_wh L x n &&& (s ^^^ (-1))) &&& (t ^^^ (-1))) (V := W) (V' := W) (k := n) (by omega) (fun _ _ => rfl) (fun _ _ _ => rfl)).2 j h
  have h3 := h2.1
  rw [cnd_b hn (by omega)] at h3
  simp only [Bool.and_eq_true, decide_eq_true_eq, Bool.not_eq_true'] at h3
  exact ⟨h3.1.1.1, h3.1.1.2, h3.1.2, h3.2⟩
theorem or_cm {a b c : Int32} : a ||| b ||| c = a ||| c ||| b := by
  apply bt_ext
  intro i hi
  rw [bt_or, bt_or, bt_or, bt_or]
  cases bt a i <;> cases bt b i <;> cases bt c i <;> rfl
/-- letters do not take from each other -/
theorem tk1_after {x y t : Int32} (hn : n ≤ 12) (hxy : x ≠ y) {j : Nat} (hj : j < n) (hL : L j = x) : tk1 L W n s y (t ||| (1 <<< (nI j &&& 31))) = match tk1 L W n s y t with
    | none => none
    | some t' => some (t' ||| (1 <<< (nI j &&& 31))) := by
  have e : tc_lw ((tc_wh L y n &&& (s ^^^ (-1))) &&& ((t ||| ((1 : Int32) <<< (nI j &&& 31))) ^^^ (-1))) W n = tc_lw ((tc_wh L y n &&& (s ^^^ (-1))) &&& (t ^^^ (-1))) W n := by
    refine (lw_cg (by omega) (fun i hi => ?_) (fun _ _ _ => rfl)).1
    rw [cnd_b hn (by omega), cnd_b hn (by omega), bt_or, bt_one (by omega) (by omega)]
    by_cases c : i = j
    · subst c
      rw [hL, decide_eq_false hxy]
      simp
    · rw [decide_eq_false c]; simp
  unfold tk1
  rw [e]
  cases tc_lw ((tc_wh L y n &&& (s ^^^ (-1))) &&& (t ^^^ (-1))) W n with
  | none => rfl
  | some i =>
    dsimp only
    rw [or_cm]
theorem tk1_comm {x y t : Int32} (hn : n ≤ 12) (hxy : x ≠ y) : (tk1 L W n s x t).bind (tk1 L W n s y) = (tk1 L W n s y t).bind (tk1 L W n s x) := by
  cases hx : tc_lw ((tc_wh L x n &&& (s ^^^ (-1))) &&& (t ^^^ (-1))) W n with
  | none =>
    have e1 : tk1 L W n s x t = none := by unfold tk1; rw [hx]
    rw [e1]
    cases hy : tc_lw ((tc_wh L y n &&& (s ^^^ (-1))) &&& (t ^^^ (-1))) W n with
    | none =>
      have e2 : tk1 L W n s y t = none := by unfold tk1; rw [hy]
      rw [e2]; exact (show (none : Option Int32) = none from rfl)
    | some j =>
      have e2 : tk1 L W n s y t = some (t ||| (1 <<< (nI j &&& 31))) := by unfold tk1; rw [hy]
      obtain ⟨j1, j2, -, -⟩ := tk1_some hn hy
      rw [e2, Option.bind_some, tk1_after hn (Ne.symm hxy) j1 j2, e1]
      exact (show (none : Option Int32) = none from rfl)
  | some i =>
    have e1 : tk1 L W n s x t = some (t ||| (1 <<< (nI i &&& 31))) := by unfold tk1; rw [hx]
    obtain ⟨i1, i2, -, -⟩ := tk1_some hn hx
    rw [e1, Option.bind_some, tk1_after hn hxy i1 i2]
    cases hy : tc_lw ((tc_wh L y n &&& (s ^^^ (-1))) &&& (t ^^^ (-1))) W n with
    | none =>
      have e2 : tk1 L W n s y t = none := by unfold tk1; rw [hy]
      rw [e2]; exact (show (none : Option Int32) = none from rfl)
    | some j =>
      have e2 : tk1 L W n s y t = some (t ||| (1 <<< (nI j &&& 31))) := by unfold tk1; rw [hy]
      obtain ⟨j1, j2, -, -⟩ := tk1_some hn hy
      rw [e2, Option.bind_some, tk1_after hn (Ne.symm hxy) j1 j2, e1]
      dsimp only
      rw [or_cm]
theorem t1_s {x t : Int32} {m : Nat} : tc_t1 L W n s x (m + 1) t = (tk1 L W n s x t).bind (tc_t1 L W n s x m) := by
  show (match tc_lw ((tc_wh L x n &&& (s ^^^ (-1))) &&& (t ^^^ (-1))) W n with
    | none => none
    | some j => tc_t1 L W n s x m (t ||| (1 <<< (nI j &&& 31)))) = _
  unfold tk1
  cases tc_lw ((tc_wh L x n &&& (s ^^^ (-1))) &&& (t ^^^ (-1))) W n <;> rfl
theorem t1_e {x : Int32} : ∀ {m : Nat} {t : Int32}, tc_t1 L W n s x (m + 1) t = (tc_t1 L W n s x m t).bind (tk1 L W n s x)
  | 0, t => by
    rw [t1_s]
    show (tk1 L W n s x t).bind (fun t => some t) = tk1 L W n s x t
    cases tk1 L W n s x t <;> rfl
  | m + 1, t => by
    rw [t1_s, t1_s, Option.bind_assoc]
    congr 1
    funext t'
    exact t1_e
theorem t1_comm {x y : Int32} (hn : n ≤ 12) (hxy : x ≠ y) : ∀ {m : Nat} {t : Int32}, (tk1 L W n s y t).bind (tc_t1 L W n s x m) = (tc_t1 L W n s x m t).bind (tk1 L W n s y)
  | 0, t => by
    show (tk1 L W n s y t).bind (fun t => some t) = tk1 L W n s y t
    cases tk1 L W n s y t <;> rfl
  | m + 1, t => by
    rw [t1_s, Option.bind_assoc]
    have e1 : (fun t' => (tc_t1 L W n s x m t').bind (tk1 L W n s y)) = fun t' => (tk1 L W n s y t').bind (tc_t1 L W n s x m) := by
      funext t'
      exact (t1_comm hn hxy).symm
    have e2 : tc_t1 L W n s x (m + 1) = fun t' => (tk1 L W n s x t').bind (tc_t1 L W n s x m) := by
      funext t'
      exact t1_s
    rw [e1, e2, ← Option.bind_assoc, ← Option.bind_assoc, tk1_comm hn (Ne.symm hxy)]
theorem t2_s {c : Nat → Nat} {m l : Nat} {t : Int32} : tc_t2 L W n s c (m + 1) l t = (tc_t1 L W n s (nI l) (c l) t).bind (tc_t2 L W n s c m (l + 1)) := by
  show (match tc_t1 L W n s (nI l) (c l) t with
    | none => none
    | some t' => tc_t2 L W n s c m (l + 1) t') = _
  cases tc_t1 L W n s (nI l) (c l) t <;> rfl
theorem t2_comm {c : Nat → Nat} {y : Nat} (hn : n ≤ 12) (hy : y < 2 ^ 31) : ∀ {m l : Nat} {t : Int32}, l + m < 2 ^ 31 → (y < l ∨ l + m ≤ y) → (tk1 L W n s (nI y) t).bind (tc_t2 L W n s c m l) = (tc_t2 L W n s c m l t).bind (tk1 L W n s (nI y))
  | 0, l, t, _, _ => by
    show (tk1 L W n s (nI y) t).bind (fun t => some t) = tk1 L W n s (nI y) t
    cases tk1 L W n s (nI y) t <;> rfl
  | m + 1, l, t, hl, h => by
    have hne : nI l ≠ nI y := fun e => by
      have := (nI_eq (by omega) hy).mp e
      omega
    rw [t2_s, Option.bind_assoc]
    have e1 : (fun t' => (tc_t2 L W n s c m (l + 1) t').bind (tk1 L W n s (nI y))) = fun t' => (tk1 L W n s (nI y) t').bind (tc_t2 L W n s c m (l + 1)) := by
      funext t'
      exact (t2_comm hn hy (by omega) (by omega)).symm
    have e2 : tc_t2 L W n s c (m + 1) l = fun t' => (tc_t1 L W n s (nI l) (c l) t').bind (tc_t2 L W n s c m (l + 1)) := by
      funext t'
      exact t2_s
    rw [e1, e2, ← Option.bind_assoc, ← Option.bind_assoc, t1_comm hn hne]
theorem t2_cg {c c' : Nat → Nat} : ∀ {m l : Nat} {t : Int32}, (∀ i, l ≤ i → i < l + m → c i = c' i) → tc_t2 L W n s c m l t = tc_t2 L W n s c' m l t
  | 0, l, t, _ => rfl
  | m + 1, l, t, h => by
    rw [t2_s, t2_s, h l (Nat.le_refl _) (by omega)]
    congr 1
    funext t'
    exact t2_cg (fun i h1 h2 => h i (by omega) (by omega))
/-- one letter more -/
theorem t2_more {c c' : Nat → Nat} {y K : Nat} (hn : n ≤ 12) (hK : K < 2 ^ 30) (hc : ∀ i, i < K → c' i = c i + if i = y then 1 else 0) : ∀ {m l : Nat} {t : Int32}, l + m ≤ K → l ≤ y → y < l + m → tc_t2 L W n s c' m l t = (tc_t2 L W n s c m l t).bind (tk1 L W n s (nI y))
  | 0, l, t, _, h1, h2 => by omega
  | m + 1, l, t, hl, h1, h2 => by
    rw [t2_s, t2_s, Option.bind_assoc]
    by_cases e : l = y
    · subst e
      have e1 : c' l = c l + 1 := by rw [hc l (by omega), if_pos rfl]
      rw [e1, t1_e, Option.bind_assoc]
      congr 1
      funext t'
      have e2 : tc_t2 L W n s c' m (l + 1) = tc_t2 L W n s c m (l + 1) := by
        funext t2
        refine t2_cg (fun i i1 i2 => ?_)
        rw [hc i (by omega), if_neg (by omega)]
        rfl
      rw [e2, t2_comm hn (by omega) (by omega) (by omega)]
    · have e1 : c' l = c l := by rw [hc l (by omega), if_neg e]; rfl
      rw [e1]
      congr 1
      funext t'
      exact t2_more hn hK hc (by omega) (by omega) (by omega)
theorem ftk_e {Z : Nat → Int32} : ∀ {j i : Nat} {t : Int32}, ftk L W n s Z (j + 1) i t = (ftk L W n s Z j i t).bind (tk1 L W n s (Z (i + j)))
  | 0, i, t => by
    show (tk1 L W n s (Z i) t).bind (fun t => some t) = tk1 L W n s (Z (i + 0)) t
    rw [Nat.add_zero]
    cases tk1 L W n s (Z i) t <;> rfl
  | j + 1, i, t => by
    show (tk1 L W n s (Z i) t).bind (ftk L W n s Z (j + 1) (i + 1)) = ((tk1 L W n s (Z i) t).bind (ftk L W n s Z j (i + 1))).bind (tk1 L W n s (Z (i + (j + 1))))
    rw [Option.bind_assoc]
    congr 1
    funext t'
    rw [ftk_e, show i + 1 + j = i + (j + 1) by omega]
theorem t2_zero : ∀ {m l : Nat} {t : Int32}, tc_t2 L W n s (fun _ => 0) m l t = some t
  | 0, l, t => rfl
  | m + 1, l, t => by
    rw [t2_s]
    show (some t).bind _ = _
    rw [Option.bind_some]
    exact t2_zero
/-- both ways the same are taken -/
theorem ftk_t2 {F Z : Nat → Int32} {f : Nat} (hn : n ≤ 12) : ∀ c, (∀ i, i < c → ∃ y, y < 8 ∧ F (f + i) = nI (97 + y) ∧ Z i = nI y) → ftk L W n s Z c 0 0 = tc_t2 L W n s (lcn F f c) 8 0 0
  | 0, _ => by
    show some (0 : Int32) = _
    exact (t2_zero (m := 8) (l := 0)).symm
  | c + 1, h => by
    obtain ⟨y, hy, hF, hz⟩ := h c (by omega)
    rw [ftk_e, ftk_t2 hn c (fun i hi => h i (by omega)), Nat.zero_add, hz]
    refine (t2_more hn (y := y) (K := 8) (by decide) (fun i hi => ?_) (by omega) (by omega) (by omega)).symm
    show lcn F f c i + (if F (f + c) = nI (97 + i) then 1 else 0) = _
    congr 1
    rw [hF]
    by_cases e : i = y
    · subst e; rw [if_pos rfl, if_pos rfl]
    · rw [if_neg e]
      by_cases e2 : nI (97 + y) = nI (97 + i)
      · have := (nI_eq (by omega) (by omega)).mp e2
        omega
      · rw [if_neg e2]
/-- what the reference's row holds when a set is taken -/
def TKI (N0 N : Nat → Int32) (n : Nat) (v g : Int32) : Prop := (∀ i, i < 12 → N0 i = if i < n ∧ bt g i = true then (if N i + 1 < 9 then N i + 1 else 9) else N i) ∧ (∀ i, i < 12 → N0 (12 + i) = if i < n ∧ bt g i = true then pm (N (12 + i) + v) else N (12 + i)) ∧ (∀ i, i < 12 → N0 (24 + i) = N (24 + i)) ∧ N0 36 = N 36 ||| g ∧ N0 37 = N 37
theorem TKI_s {N0 N : Nat → Int32} {v g : Int32} {t : Nat} (hn : n ≤ 12) (ht : t < n) (hg : bt g t = false) (h : TKI N0 N n v g) : TKI (gs1 N0 t v) N n v (g ||| (1 <<< (nI t &&& 31))) := by
  obtain ⟨h1, h2, h3, h4, h5⟩ := h
  have hb : ∀ i, i < 12 → bt (g ||| (1 <<< (nI t &&& 31))) i = (bt g i || decide (i = t)) := fun i hi => by rw [bt_or, bt_one (by omega) (by omega)]
  unfold gs1
  refine ⟨fun i hi => ?_, fun i hi => ?_, fun i hi => ?_, ?_, ?_⟩
  · rw [hb i hi]
    unfold upd
    rw [if_neg (show ¬ i = 12 + t by omega)]
    by_cases e : i = t
    · subst e
      rw [if_pos rfl, if_pos (show i < n ∧ (bt g i || decide (i = i)) = true from ⟨ht, by simp⟩), h1 i hi, if_neg (show ¬ (i < n ∧ bt g i = true) by rw [hg]; simp)]
    · rw [if_neg e, if_neg (show ¬ i = 36 by omega), h1 i hi, decide_eq_false e, Bool.or_false]
  · rw [hb i hi]
    unfold upd
    by_cases e : i = t
    · subst e
      rw [if_pos rfl, if_pos (show i < n ∧ (bt g i || decide (i = i)) = true from ⟨ht, by simp⟩), h2 i hi, if_neg (show ¬ (i < n ∧ bt g i = true) by rw [hg]; simp)]
    · rw [if_neg (show ¬ 12 + i = 12 + t by omega), if_neg (show ¬ 12 + i = t by omega), if_neg (show ¬ 12 + i = 36 by omega), h2 i hi, decide_eq_false e, Bool.or_false]
  · unfold upd
    rw [if_neg (show ¬ 24 + i = 12 + t by omega), if_neg (show ¬ 24 + i = t by omega), if_neg (show ¬ 24 + i = 36 by omega)]
    exact h3 i hi
  · unfold upd
    rw [if_neg (show ¬ 36 = 12 + t by omega), if_neg (show ¬ 36 = t by omega), if_pos rfl, h4]
    apply bt_ext
    intro i hi
    rw [bt_or, bt_or, bt_or, bt_or, Bool.or_assoc]
  · unfold upd
    rw [if_neg (show ¬ 37 = 12 + t by omega), if_neg (show ¬ 37 = t by omega), if_neg (show ¬ 37 = 36 by omega)]
    exact h5
theorem TKI_0 {N : Nat → Int32} {v : Int32} : TKI N N n v 0 := by
  refine ⟨fun i hi => ?_, fun i hi => ?_, fun _ _ => rfl, ?_, rfl⟩
  · rw [if_neg (by rw [bt_0]; simp)]
  · rw [if_neg (by rw [bt_0]; simp)]
  · apply bt_ext
    intro i hi
    rw [bt_or, bt_0, Bool.or_false]
theorem rtk_lw {N0 N : Nat → Int32} {v g x : Int32} (hn : n ≤ 12) (h : TKI N0 N n v g) : rtk L N0 (N0 36) x n = tc_lw ((tc_wh L x n &&& (N 36 ^^^ (-1))) &&& (g ^^^ (-1))) N n := by
  have key : ∀ k, k ≤ n → rtk L N0 (N0 36) x k = tc_lw ((tc_wh L x n &&& (N 36 ^^^ (-1))) &&& (g ^^^ (-1))) N0 k := by
    intro k
    induction k with
    | zero => intro _; rfl
    | succ k ih =>
      intro hk
      have ih := ih (by omega)
      have e1 : rtk L N0 (N0 36) x (k + 1) = if L k = x then (if (N0 36 >>> (nI k &&& 31)) &&& 1 = 1 then rtk L N0 (N0 36) x k else (match rtk L N0 (N0 36) x k with
        | none => some k
        | some j => if N0 j ≤ N0 k then some j else some k)) else rtk L N0 (N0 36) x k := rfl
      have e2 : tc_lw ((tc_wh L x n &&& (N 36 ^^^ (-1))) &&& (g ^^^ (-1))) N0 (k + 1) = if (((tc_wh L x n &&& (N 36 ^^^ (-1))) &&& (g ^^^ (-1))) >>> (nI k &&& 31)) &&& 1 = 1 then (match tc_lw ((tc_wh L x n &&& (N 36 ^^^ (-1))) &&& (g ^^^ (-1))) N0 k with
        | none => some k
        | some j => if N0 j ≤ N0 k then some j else some k) else tc_lw ((tc_wh L x n &&& (N 36 ^^^ (-1))) &&& (g ^^^ (-1))) N0 k := rfl
      rw [e1, e2, ih]
      have hb := cnd_b (L := L) (s := N 36) (x := x) (t := g) (i := k) hn (by omega)
      have h36 : bt (N0 36) k = (bt (N 36) k || bt g k) := by rw [h.2.2.2.1, bt_or]
      by_cases c : L k = x
      · rw [if_pos c]
        by_cases c2 : bt (N0 36) k = true
        · rw [if_pos ((bt_sr (by omega)).mpr c2), if_neg]
          intro q
          have q := (bt_sr (by omega)).mp q
          rw [hb] at q
          rw [h36] at c2
          cases q1 : bt (N 36) k <;> cases q2 : bt g k <;> rw [q1, q2] at q c2 <;> simp at q c2
        · rw [if_neg (fun q => c2 ((bt_sr (by omega)).mp q)), if_pos]
          refine (bt_sr (by omega)).mpr ?_
          rw [hb, decide_eq_true c, decide_eq_true (show k < n by omega)]
          rw [h36] at c2
          cases q1 : bt (N 36) k <;> cases q2 : bt g k <;> rw [q1, q2] at c2 <;> simp at c2 ⊢
      · rw [if_neg c, if_neg]
        intro q
        have q := (bt_sr (by omega)).mp q
        rw [hb, decide_eq_false c] at q
        simp at q
  rw [key n (Nat.le_refl _)]
  refine (lw_cg (by omega) (fun _ _ => rfl) (fun i hi hb => ?_)).1
  rw [cnd_b hn (by omega)] at hb
  rw [h.1 i (by omega), if_neg]
  rintro ⟨-, q⟩
  rw [q] at hb
  simp at hb
/-- the reference sets a text -/
theorem rgs_ftk {Z N : Nat → Int32} {v : Int32} (hn : n ≤ 12) : ∀ {j i : Nat} {N0 : Nat → Int32} {g : Int32}, TKI N0 N n v g → (rgs L Z v n j i N0 g).1 = ftk L N n (N 36) Z j i g ∧ ∀ t, (rgs L Z v n j i N0 g).1 = some t → TKI (rgs L Z v n j i N0 g).2 N n v t
  | 0, i, N0, g, h => ⟨rfl, fun t e => by cases e; exact h⟩
  | j + 1, i, N0, g, h => by
    have e1 : rgs L Z v n (j + 1) i N0 g = match rtk L N0 (N0 36) (Z i) n with
      | none => (none, N0)
      | some t => rgs L Z v n j (i + 1) (gs1 N0 t v) (g ||| 1 <<< (nI t &&& 31)) := rfl
    have e2 : ftk L N n (N 36) Z (j + 1) i g = (tk1 L N n (N 36) (Z i) g).bind (ftk L N n (N 36) Z j (i + 1)) := rfl
    rw [e1, e2, rtk_lw hn h]
    unfold tk1
    cases hr : tc_lw ((tc_wh L (Z i) n &&& (N 36 ^^^ (-1))) &&& (g ^^^ (-1))) N n with
    | none => exact ⟨rfl, fun t e => by cases e⟩
    | some t =>
      obtain ⟨t1, -, -, t4⟩ := tk1_some hn hr
      exact rgs_ftk hn (TKI_s hn t1 t4 h)
theorem sW_at {t : Int32} {W : Nat → Int32} : ∀ {k i : Nat}, k ≤ 12 → tc_sW t W k i = if i < k ∧ bt t i = true then (if W i + 1 < 9 then W i + 1 else 9) else W i
  | 0, i, _ => by rw [if_neg (by omega)]; rfl
  | k + 1, i, hk => by
    have es : tc_sW t W (k + 1) = if (t >>> (nI k &&& 31)) &&& 1 = 1 then upd (tc_sW t W k) k (if tc_sW t W k k + 1 < 9 then tc_sW t W k k + 1 else 9) else tc_sW t W k := rfl
    have hk0 : tc_sW t W k k = W k := by rw [sW_at (by omega), if_neg (by omega)]
    rw [es, hk0]
    by_cases c : bt t k = true
    · rw [if_pos ((bt_sr (by omega)).mpr c)]
      unfold upd
      by_cases e : i = k
      · subst e; rw [if_pos rfl]; exact (if_pos (show i < i + 1 ∧ bt t i = true from ⟨by omega, c⟩)).symm
      · rw [if_neg e, sW_at (by omega)]
        by_cases e2 : i < k ∧ bt t i = true
        · rw [if_pos e2]; exact (if_pos (show i < k + 1 ∧ bt t i = true from ⟨by omega, e2.2⟩)).symm
        · rw [if_neg e2, if_neg (fun q => e2 ⟨by omega, q.2⟩)]
    · rw [if_neg (fun q => c ((bt_sr (by omega)).mp q)), sW_at (by omega)]
      by_cases e2 : i < k ∧ bt t i = true
      · rw [if_pos e2]; exact (if_pos (show i < k + 1 ∧ bt t i = true from ⟨by omega, e2.2⟩)).symm
      · rw [if_neg e2, if_neg]
        rintro ⟨q1, q2⟩
        by_cases e : i = k
        · subst e; exact c q2
        · exact e2 ⟨by omega, q2⟩
theorem sM_at {t v : Int32} {M : Nat → Int32} : ∀ {k i : Nat}, k ≤ 12 → tc_sM t v M k i = if i < k ∧ bt t i = true then pm (M i + v) else M i
  | 0, i, _ => by rw [if_neg (by omega)]; rfl
  | k + 1, i, hk => by
    have es : tc_sM t v M (k + 1) = if (t >>> (nI k &&& 31)) &&& 1 = 1 then upd (tc_sM t v M k) k (pm (tc_sM t v M k k + v)) else tc_sM t v M k := rfl
    have hk0 : tc_sM t v M k k = M k := by rw [sM_at (by omega), if_neg (by omega)]
    rw [es, hk0]
    by_cases c : bt t k = true
    · rw [if_pos ((bt_sr (by omega)).mpr c)]
      unfold upd
      by_cases e : i = k
      · subst e; rw [if_pos rfl]; exact (if_pos (show i < i + 1 ∧ bt t i = true from ⟨by omega, c⟩)).symm
      · rw [if_neg e, sM_at (by omega)]
        by_cases e2 : i < k ∧ bt t i = true
        · rw [if_pos e2]; exact (if_pos (show i < k + 1 ∧ bt t i = true from ⟨by omega, e2.2⟩)).symm
        · rw [if_neg e2, if_neg (fun q => e2 ⟨by omega, q.2⟩)]
    · rw [if_neg (fun q => c ((bt_sr (by omega)).mp q)), sM_at (by omega)]
      by_cases e2 : i < k ∧ bt t i = true
      · rw [if_pos e2]; exact (if_pos (show i < k + 1 ∧ bt t i = true from ⟨by omega, e2.2⟩)).symm
      · rw [if_neg e2, if_neg]
        rintro ⟨q1, q2⟩
        by_cases e : i = k
        · subst e; exact c q2
        · exact e2 ⟨by omega, q2⟩
theorem TKI_RW {N0 N L W M B : Nat → Int32} {s g v t : Int32} (hn : n ≤ 12) (hr : RW N (L, W, M, B, n, s, g)) (h : TKI N0 N n v t) : RW N0 (L, tc_sW t W n, tc_sM t v M n, B, n, s ||| t, g) := by
  obtain ⟨h1, h2, h3, h4, h5⟩ := h
  obtain ⟨r1, r2, r3, r4, r5⟩ := hr
  refine ⟨fun i hi => ?_, fun i hi => ?_, fun i hi => (h3 i hi).trans (r3 i hi), ?_, h5.trans r5⟩
  · rw [h1 i hi]
    have r1 : N i = W i := r1 i hi
    rw [r1]
    exact (sW_at hn).symm
  · rw [h2 i hi]
    have r2 : N (12 + i) = M i := r2 i hi
    rw [r2]
    exact (sM_at hn).symm
  · rw [h4]
    have r4 : N 36 = s := r4
    rw [r4]
/-- all in one: what is taken, what comes of it -/
theorem rgs_all {N Lm Z L W M B F : Nat → Int32} {s g v : Int32} {c f : Nat} (hn : n ≤ 12) (hr : RW N (L, W, M, B, n, s, g)) (hL : ∀ i, i < n → Lm i = L i) (hZ : ∀ i, i < c → ∃ y, y < 8 ∧ F (f + i) = nI (97 + y) ∧ Z i = nI y) : (rgs Lm Z v n c 0 N 0).1 = tc_t2 L W n s (lcn F f c) 8 0 0 ∧ ∀ t, tc_t2 L W n s (lcn F f c) 8 0 0 = some t → RW (rgs Lm Z v n c 0 N 0).2 (L, tc_sW t W n, tc_sM t v M n, B, n, s ||| t, g) := by
  obtain ⟨a1, a2⟩ := rgs_ftk (L := Lm) (Z := Z) (v := v) hn (j := c) (i := 0) (N0 := N) (N := N) TKI_0
  have e36 : N 36 = s := hr.2.2.2.1
  have e : ∀ (c : Nat → Nat) (m l : Nat) (t : Int32), tc_t2 Lm N n s c m l t = tc_t2 L W n s c m l t := by
    have e0 : ∀ x t, tk1 Lm N n s x t = tk1 L W n s x t := by
      intro x t
      unfold tk1
      rw [wh_cg (v := x) hL, (lw_cg (by omega) (fun _ _ => rfl) (fun i hi _ => hr.1 i (by omega))).1]
    have e1 : ∀ x m t, tc_t1 Lm N n s x m t = tc_t1 L W n s x m t := by
      intro x m
      induction m with
      | zero => intro t; rfl
      | succ m ih =>
        intro t
        rw [t1_s, t1_s, e0]
        congr 1
        funext t'
        exact ih t'
    intro c m
    induction m with
    | zero => intro l t; rfl
    | succ m ih =>
      intro l t
      rw [t2_s, t2_s, e1]
      congr 1
      funext t'
      exact ih _ t'
  have e2 : (rgs Lm Z v n c 0 N 0).1 = tc_t2 L W n s (lcn F f c) 8 0 0 := by rw [a1, e36, ftk_t2 hn c hZ, e]
  exact ⟨e2, fun t ht => TKI_RW hn hr (a2 t (e2.trans ht))⟩
end
