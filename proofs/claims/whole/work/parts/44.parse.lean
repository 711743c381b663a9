/-! how a rule is read: faults at a place, or a place behind and steps -/
abbrev PR : Type := Nat ⊕ (Nat × List Int32)
/-- which of the seven things; -1 -/
def thi (x : Int32) : Int32 := if x = 109 then 0 else if x = 119 then 1 else if x = 108 then 2 else if x = 107 then 3 else if x = 98 then 4 else if x = 105 then 5 else if x = 110 then 6 else -1
/-- how an operator binds; 0: none -/
def bop (x : Int32) : Nat := if x = 60 then 1 else if x = 61 then 1 else if x = 62 then 1 else if x = 43 then 2 else if x = 45 then 2 else if x = 42 then 3 else if x = 47 then 3 else 0
def skm (F : Nat → Int32) (n : Nat) : Nat → Nat → Nat
  | 0, p => p
  | j + 1, p => if p < n ∧ F p = 45 then skm F n j (p + 1) else p
def ngc (k : Nat) : List Int32 := if k % 2 = 1 then [2000] else []
/-- up to k digits -/
def numr (F : Nat → Int32) (n : Nat) : Nat → Nat → Int32 → Nat × Int32
  | 0, p, v => (p, v)
  | k + 1, p, v => if p < n ∧ ¬ txs 100 (F p) = 0 then numr F n k (p + 1) (10 * v + (F p - 48)) else (p, v)
/-- behind the k signs - -/
def pt1 (F : Nat → Int32) (n : Nat) (inn : Option (Nat → PR)) (p k : Nat) : PR :=
  if n ≤ p then .inl p
  else if ¬ thi (F p) = -1 then .inr (p + 1, (1000 + thi (F p)) :: ngc k)
  else if ¬ txs 100 (F p) = 0 then .inr ((numr F n 3 p 0).1, (numr F n 3 p 0).2 :: ngc k)
  else if F p = 40 then (match inn with
    | none => .inl p
    | some J => match J (p + 1) with
      | .inl q => .inl q
      | .inr (q, cd) => if q < n ∧ F q = 41 then .inr (q + 1, cd ++ ngc k) else .inl q)
  else .inl p
def pth (F : Nat → Int32) (n : Nat) (inn : Option (Nat → PR)) (pos : Nat) : PR := pt1 F n inn (skm F n (n - pos) pos) (skm F n (n - pos) pos - pos)
def pjl (F : Nat → Int32) (n b : Nat) (rec : Nat → Nat → PR) : Nat → Bool → Nat → List Int32 → PR
  | 0, _, p, cd => .inr (p, cd)
  | j + 1, cm, p, cd => if n ≤ p then .inr (p, cd) else if bop (F p) < b ∨ (bop (F p) = 1 ∧ cm = true) then .inr (p, cd) else match rec (bop (F p)) (p + 1) with
    | .inl q => .inl q
    | .inr (q, c2) => pjl F n b rec j (cm || decide (bop (F p) = 1)) q (cd ++ c2 ++ [1007 + F p])
def pj (F : Nat → Int32) (n : Nat) (th : Nat → PR) (b : Nat) (rec : Nat → Nat → PR) (pos : Nat) : PR := match th pos with
  | .inl q => .inl q
  | .inr (p, cd) => pjl F n b rec 40 false p cd
def J4 (F : Nat → Int32) (n : Nat) (th : Nat → PR) : Nat → PR := pj F n th 4 (fun _ p => .inl p)
def J3 (F : Nat → Int32) (n : Nat) (th : Nat → PR) : Nat → PR := pj F n th 3 (fun _ => J4 F n th)
def J2 (F : Nat → Int32) (n : Nat) (th : Nat → PR) : Nat → PR := pj F n th 2 (fun o => if o = 3 then J4 F n th else J3 F n th)
def J1 (F : Nat → Int32) (n : Nat) (th : Nat → PR) : Nat → PR := pj F n th 1 (fun o => if o = 3 then J4 F n th else if o = 2 then J3 F n th else J2 F n th)
def TH (F : Nat → Int32) (n : Nat) : Nat → Nat → PR
  | 0 => pth F n none
  | e + 1 => pth F n (some (J1 F n (TH F n e)))
/-- a good reader: it goes on, and makes no more steps than it reads signs -/
def GP (n : Nat) (J : Nat → PR) : Prop := ∀ pos, pos ≤ n → (∀ q, J pos = .inl q → q ≤ n) ∧ ∀ q cd, J pos = .inr (q, cd) → pos < q ∧ q ≤ n ∧ cd.length ≤ q - pos
theorem skm_le {F : Nat → Int32} {n : Nat} : ∀ {j p : Nat}, p + j ≤ n → p ≤ skm F n j p ∧ skm F n j p ≤ n
  | 0, p, h => ⟨Nat.le_refl _, h⟩
  | j + 1, p, h => by
    unfold skm
    split
    · have := skm_le (F := F) (n := n) (j := j) (p := p + 1) (by omega)
      omega
    · omega
theorem numr_le {F : Nat → Int32} {n : Nat} : ∀ {k p : Nat} {v : Int32}, p ≤ n → p ≤ (numr F n k p v).1 ∧ (numr F n k p v).1 ≤ n
  | 0, p, v, h => ⟨Nat.le_refl _, h⟩
  | k + 1, p, v, h => by
    unfold numr
    split
    · rename_i hc
      have := numr_le (F := F) (n := n) (k := k) (p := p + 1) (v := 10 * v + (F p - 48)) hc.1
      omega
    · exact ⟨Nat.le_refl _, h⟩
theorem ngc_le {k : Nat} : (ngc k).length ≤ k := by
  unfold ngc
  split
  · show 1 ≤ k; omega
  · exact Nat.zero_le _
theorem GP_pth {F : Nat → Int32} {n : Nat} {inn : Option (Nat → PR)} (hi : ∀ J, inn = some J → GP n J) : GP n (pth F n inn) := by
  intro pos hpos
  have hs := skm_le (F := F) (n := n) (j := n - pos) (p := pos) (by omega)
  unfold pth
  generalize skm F n (n - pos) pos = p at hs
  have hk := ngc_le (k := p - pos)
  generalize ngc (p - pos) = nk at hk
  unfold pt1
  by_cases c0 : n ≤ p
  · rw [if_pos c0]
    exact ⟨fun q e => by cases e; omega, fun q cd e => by cases e⟩
  rw [if_neg c0]
  by_cases c1 : ¬ thi (F p) = -1
  · rw [if_pos c1]
    refine ⟨fun q e => (by cases e), fun q cd e => ?_⟩
    cases e
    have : (ngc (p - pos)).length ≤ p - pos := ngc_le
    simp only [List.length_cons]
    omega
  rw [if_neg c1]
  by_cases c2 : ¬ txs 100 (F p) = 0
  · rw [if_pos c2]
    refine ⟨fun q e => (by cases e), fun q cd e => ?_⟩
    cases e
    have e1 : numr F n 3 p 0 = numr F n 2 (p + 1) (10 * 0 + (F p - 48)) := by
      show (if p < n ∧ ¬ txs 100 (F p) = 0 then numr F n 2 (p + 1) (10 * 0 + (F p - 48)) else (p, 0)) = _
      rw [if_pos ⟨by omega, c2⟩]
    rw [e1]
    have := numr_le (F := F) (n := n) (k := 2) (p := p + 1) (v := 10 * 0 + (F p - 48)) (by omega)
    have h2 : (ngc (p - pos)).length ≤ p - pos := ngc_le
    simp only [List.length_cons]
    omega
  rw [if_neg c2]
  by_cases c3 : F p = 40
  · rw [if_pos c3]
    cases inn with
    | none => exact ⟨fun q e => by cases e; omega, fun q cd e => by cases e⟩
    | some J =>
      have hJ := hi J rfl (p + 1) (by omega)
      dsimp only
      cases hr : J (p + 1) with
      | inl q0 => exact ⟨fun q e => by cases e; exact hJ.1 _ hr, fun q cd e => by cases e⟩
      | inr r =>
        obtain ⟨q0, cd0⟩ := r
        have h3 := hJ.2 _ _ hr
        dsimp only
        by_cases c4 : q0 < n ∧ F q0 = 41
        · rw [if_pos c4]
          refine ⟨fun q e => (by cases e), fun q cd e => ?_⟩
          cases e
          have h2 : (ngc (p - pos)).length ≤ p - pos := ngc_le
          rw [List.length_append]
          omega
        · rw [if_neg c4]
          exact ⟨fun q e => by cases e; omega, fun q cd e => by cases e⟩
  · rw [if_neg c3]
    exact ⟨fun q e => by cases e; omega, fun q cd e => by cases e⟩
theorem GP_pjl {F : Nat → Int32} {n b : Nat} {rec : Nat → Nat → PR} (hr : ∀ o, b ≤ o → o ≤ 3 → GP n (rec o)) (h3 : b ≤ 4) : ∀ {j : Nat} {cm : Bool} {p : Nat} {cd : List Int32} {pos : Nat}, pos < p → p ≤ n → cd.length ≤ p - pos → (∀ q, pjl F n b rec j cm p cd = .inl q → q ≤ n) ∧ ∀ q c, pjl F n b rec j cm p cd = .inr (q, c) → pos < q ∧ q ≤ n ∧ c.length ≤ q - pos := by
  intro j
  induction j with
  | zero =>
    intro cm p cd pos h1 h2 h4
    exact ⟨fun q e => (by cases e), fun q c e => by cases e; exact ⟨h1, h2, h4⟩⟩
  | succ j ih =>
    intro cm p cd pos h1 h2 h4
    unfold pjl
    by_cases c0 : n ≤ p
    · rw [if_pos c0]
      exact ⟨fun q e => (by cases e), fun q c e => by cases e; exact ⟨h1, h2, h4⟩⟩
    rw [if_neg c0]
    by_cases c1 : bop (F p) < b ∨ (bop (F p) = 1 ∧ cm = true)
    · rw [if_pos c1]
      exact ⟨fun q e => (by cases e), fun q c e => by cases e; exact ⟨h1, h2, h4⟩⟩
    rw [if_neg c1]
    have hb : bop (F p) ≤ 3 := by
      unfold bop
      repeat' split
      all_goals omega
    have hJ := hr (bop (F p)) (by omega) hb (p + 1) (by omega)
    cases hq : rec (bop (F p)) (p + 1) with
    | inl q0 => exact ⟨fun q e => by cases e; exact hJ.1 _ hq, fun q cd e => by cases e⟩
    | inr r =>
      obtain ⟨q0, c2⟩ := r
      have h5 := hJ.2 _ _ hq
      dsimp only
      refine ih (by omega) h5.2.1 ?_
      rw [List.length_append, List.length_append]
      simp only [List.length_cons, List.length_nil]
      omega
theorem GP_pj {F : Nat → Int32} {n b : Nat} {th : Nat → PR} {rec : Nat → Nat → PR} (ht : GP n th) (hr : ∀ o, b ≤ o → o ≤ 3 → GP n (rec o)) (h3 : b ≤ 4) : GP n (pj F n th b rec) := by
  intro pos hpos
  unfold pj
  have h0 := ht pos hpos
  cases hq : th pos with
  | inl q0 => exact ⟨fun q e => by cases e; exact h0.1 _ hq, fun q cd e => by cases e⟩
  | inr r =>
    obtain ⟨p, cd⟩ := r
    have h1 := h0.2 _ _ hq
    exact GP_pjl hr h3 h1.1 h1.2.1 h1.2.2
theorem GP_J4 {F : Nat → Int32} {n : Nat} {th : Nat → PR} (ht : GP n th) : GP n (J4 F n th) := GP_pj ht (fun o h1 h2 => by omega) (by decide)
theorem GP_J3 {F : Nat → Int32} {n : Nat} {th : Nat → PR} (ht : GP n th) : GP n (J3 F n th) := GP_pj ht (fun o h1 h2 => GP_J4 ht) (by decide)
theorem GP_J2 {F : Nat → Int32} {n : Nat} {th : Nat → PR} (ht : GP n th) : GP n (J2 F n th) := GP_pj ht (fun o h1 h2 => by
  split
  · exact GP_J4 ht
  · exact GP_J3 ht) (by decide)
theorem GP_J1 {F : Nat → Int32} {n : Nat} {th : Nat → PR} (ht : GP n th) : GP n (J1 F n th) := GP_pj ht (fun o h1 h2 => by
  split
  · exact GP_J4 ht
  · split
    · exact GP_J3 ht
    · exact GP_J2 ht) (by decide)
theorem GP_TH {F : Nat → Int32} {n : Nat} : ∀ e, GP n (TH F n e)
  | 0 => GP_pth (fun J h => by cases h)
  | e + 1 => GP_pth (fun J h => by cases h; exact GP_J1 (GP_TH e))
/-- steps are written from z on -/
def wrc (P : Nat → Int32) : Nat → List Int32 → Nat → Int32
  | _, [] => P
  | z, c :: cd => wrc (upd P z c) (z + 1) cd
theorem wrc_app {cd c2 : List Int32} : ∀ {P : Nat → Int32} {z : Nat}, wrc P z (cd ++ c2) = wrc (wrc P z cd) (z + cd.length) c2 := by
  induction cd with
  | nil => intro P z; rfl
  | cons c cd ih =>
    intro P z
    show wrc (upd P z c) (z + 1) (cd ++ c2) = wrc (wrc (upd P z c) (z + 1) cd) (z + (cd.length + 1)) c2
    rw [ih, show z + (cd.length + 1) = z + 1 + cd.length by omega]
/-- do steps look at the night -/
def hsN (cd : List Int32) : Bool := cd.any (fun x => decide (x = 1006))
theorem hsN_app {cd c2 : List Int32} : hsN (cd ++ c2) = (hsN cd || hsN c2) := List.any_append
theorem hsN_ngc {k : Nat} : hsN (ngc k) = false := by
  unfold ngc
  split <;> decide
theorem hsN_op {x : Int32} (h : ¬ bop x = 0) : hsN [1007 + x] = false := by
  unfold bop at h
  have : x = 60 ∨ x = 61 ∨ x = 62 ∨ x = 43 ∨ x = 45 ∨ x = 42 ∨ x = 47 := by
    by_cases a1 : x = 60
    · simp [a1]
    by_cases a2 : x = 61
    · simp [a2]
    by_cases a3 : x = 62
    · simp [a3]
    by_cases a4 : x = 43
    · simp [a4]
    by_cases a5 : x = 45
    · simp [a5]
    by_cases a6 : x = 42
    · simp [a6]
    by_cases a7 : x = 47
    · simp [a7]
    simp only [a1, a2, a3, a4, a5, a6, a7, if_false, not_true_eq_false] at h
  rcases this with e | e | e | e | e | e | e <;> subst e <;> decide
theorem txs_d0 {x : Int32} (hx : ¬ txs 100 x = 0) : ∃ y, y < 10 ∧ x = nI (48 + y) := by
  unfold txs at hx
  rw [if_neg (by decide), if_pos rfl] at hx
  split at hx
  · exact absurd rfl hx
  · rename_i h1
    split at hx
    · exact absurd rfl hx
    · rename_i h2
      have q1 : (48 : Int) ≤ x.toInt := Int32.le_iff_toInt_le.mp (Int32.not_lt.mp h1)
      have q2 : x.toInt ≤ 57 := Int32.le_iff_toInt_le.mp (Int32.not_lt.mp h2)
      refine ⟨(x.toInt - 48).toNat, by omega, ?_⟩
      apply Int32.toInt_inj.mp
      rw [nI_toInt (by omega)]
      omega
theorem nI_48 {y : Nat} : nI (48 + y) - 48 = nI y := by
  rw [show (48 : Int32) = nI 48 from rfl, Nat.add_comm, ← nI_add, Int32.add_sub_cancel]
theorem numr_b {F : Nat → Int32} {n : Nat} : ∀ {k p x B : Nat}, x < B → ∃ y, y < B * 10 ^ k ∧ (numr F n k p (nI x)).2 = nI y
  | 0, p, x, B, h => ⟨x, by omega, rfl⟩
  | k + 1, p, x, B, h => by
    unfold numr
    split
    · rename_i hc
      obtain ⟨y, hy, e⟩ := txs_d0 hc.2
      rw [e, nI_48, show (10 : Int32) = nI 10 from rfl, nI_mul, nI_add]
      obtain ⟨w, hw, ew⟩ := numr_b (F := F) (n := n) (k := k) (p := p + 1) (x := 10 * x + y) (B := B * 10) (by omega)
      refine ⟨w, ?_, ew⟩
      rw [Nat.pow_succ, Nat.mul_comm (10 ^ k) 10, ← Nat.mul_assoc]
      exact hw
    · refine ⟨x, Nat.lt_of_lt_of_le h (Nat.le_mul_of_pos_right _ (Nat.pow_pos (by decide))), rfl⟩
theorem numr_3 {F : Nat → Int32} {n p : Nat} : ∃ y, y < 1000 ∧ (numr F n 3 p 0).2 = nI y := by
  obtain ⟨y, hy, e⟩ := numr_b (F := F) (n := n) (k := 3) (p := p) (x := 0) (B := 1) (by decide)
  exact ⟨y, by omega, e⟩
theorem hsN_num {F : Nat → Int32} {n p : Nat} : hsN [(numr F n 3 p 0).2] = false := by
  obtain ⟨y, hy, e⟩ := numr_3 (F := F) (n := n) (p := p)
  rw [e]
  show (decide (nI y = 1006) || false) = false
  rw [Bool.or_false]
  apply decide_eq_false
  rw [show (1006 : Int32) = nI 1006 from rfl, nI_eq (by omega) (by decide)]
  omega
