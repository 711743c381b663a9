/-! the readers of a rule, as the reference and the class have them -/
theorem bop_3 {x : Int32} : bop x ≤ 3 := by
  unfold bop
  repeat' split
  all_goals omega
theorem bop_1 {x : Int32} : bop x = 1 ↔ (x = 60 ∨ x = 62 ∨ x = 61) := by
  constructor
  · intro h
    unfold bop at h
    by_cases a1 : x = 60
    · exact Or.inl a1
    by_cases a2 : x = 61
    · exact Or.inr (Or.inr a2)
    by_cases a3 : x = 62
    · exact Or.inr (Or.inl a3)
    rw [if_neg a1, if_neg a2, if_neg a3] at h
    exfalso
    revert h
    repeat' split
    all_goals omega
  · rintro (h | h | h) <;> subst h <;> decide
theorem bop_2 {x : Int32} : bop x = 2 ↔ (x = 43 ∨ x = 45) := by
  constructor
  · intro h
    unfold bop at h
    by_cases a1 : x = 43
    · exact Or.inl a1
    by_cases a2 : x = 45
    · exact Or.inr a2
    rw [if_neg a1, if_neg a2] at h
    exfalso
    revert h
    repeat' split
    all_goals omega
  · rintro (h | h) <;> subst h <;> decide
theorem bop_3e {x : Int32} : bop x = 3 ↔ (x = 42 ∨ x = 47) := by
  constructor
  · intro h
    unfold bop at h
    by_cases a1 : x = 42
    · exact Or.inl a1
    by_cases a2 : x = 47
    · exact Or.inr a2
    rw [if_neg a1, if_neg a2] at h
    exfalso
    revert h
    repeat' split
    all_goals omega
  · rintro (h | h) <;> subst h <;> decide
/-- sums from p on -/
def psl (F : Nat → Int32) (n : Nat) (J : Nat → PR) : Nat → Nat → List Int32 → PR
  | 0, p, cd => .inr (p, cd)
  | j + 1, p, cd => if n ≤ p then .inr (p, cd) else if bop (F p) = 2 then (match J (p + 1) with
    | .inl q => .inl q
    | .inr (q, c2) => psl F n J j q (cd ++ c2 ++ [1007 + F p])) else .inr (p, cd)
/-- behind it no operator of b or more -/
def EN (F : Nat → Int32) (n b : Nat) (J : Nat → PR) : Prop := ∀ a q cd, a ≤ n → J a = .inr (q, cd) → n ≤ q ∨ bop (F q) < b
theorem pjl_en {F : Nat → Int32} {n b : Nat} {rec : Nat → Nat → PR} (hr : ∀ o, b ≤ o → o ≤ 3 → GP n (rec o)) (hb : 2 ≤ b) : ∀ {j : Nat} {cm : Bool} {p : Nat} {cd : List Int32} {q : Nat} {c : List Int32}, n ≤ p + j → p ≤ n → pjl F n b rec j cm p cd = .inr (q, c) → n ≤ q ∨ bop (F q) < b := by
  intro j
  induction j with
  | zero => intro cm p cd q c h1 hp e; cases e; exact Or.inl (by omega)
  | succ j ih =>
    intro cm p cd q c h1 hp e
    unfold pjl at e
    split at e
    · rename_i h2
      cases e; exact Or.inl h2
    · rename_i h2
      split at e
      · rename_i h3
        cases e
        rcases h3 with h3 | h3
        · exact Or.inr h3
        · exact Or.inr (by omega)
      · rename_i h3
        split at e
        · cases e
        · rename_i q0 c2 hq
          have hg := (hr (bop (F p)) (by omega) bop_3 (p + 1) (by omega)).2 _ _ hq
          exact ih (by omega) hg.2.1 e
theorem pj_en {F : Nat → Int32} {n b : Nat} {th : Nat → PR} {rec : Nat → Nat → PR} (hn : n ≤ 40) (ht : GP n th) (hr : ∀ o, b ≤ o → o ≤ 3 → GP n (rec o)) (hb : 2 ≤ b) : EN F n b (pj F n th b rec) := by
  intro a q cd ha e
  unfold pj at e
  split at e
  · cases e
  · rename_i p c0 hp
    have hg := (ht a ha).2 _ _ hp
    exact pjl_en hr hb (by omega) hg.2.1 e
theorem J4_eq {F : Nat → Int32} {n : Nat} {th : Nat → PR} {a : Nat} : J4 F n th a = th a := by
  unfold J4 pj
  split
  · rename_i q hq; rw [hq]
  · rename_i p cd hq
    rw [hq]
    unfold pjl
    split
    · rfl
    · rw [if_pos (Or.inl (by have := bop_3 (x := F p); omega))]
theorem pjl_stop {F : Nat → Int32} {n b : Nat} {rec : Nat → Nat → PR} {j : Nat} {cm : Bool} {p : Nat} {cd : List Int32} (h : n ≤ p ∨ bop (F p) < b) : pjl F n b rec j cm p cd = .inr (p, cd) := by
  cases j with
  | zero => rfl
  | succ j =>
    unfold pjl
    rcases h with h | h
    · rw [if_pos h]
    · split
      · rfl
      · rw [if_pos (Or.inl h)]
/-- sums: first products, then + and - -/
theorem pjl_2 {F : Nat → Int32} {n : Nat} {th : Nat → PR} (hn : n ≤ 40) (ht : GP n th) : ∀ {j j2 : Nat} {cm cm2 : Bool} {p : Nat} {cd : List Int32}, p ≤ n → n ≤ p + j → n ≤ p + j2 → pjl F n 2 (fun o => if o = 3 then J4 F n th else J3 F n th) j cm p cd = match pjl F n 3 (fun _ => J4 F n th) j cm2 p cd with
    | .inl q => .inl q
    | .inr (p', cd') => psl F n (J3 F n th) j2 p' cd' := by
  intro j
  induction j with
  | zero =>
    intro j2 cm cm2 p cd hp h1 h2
    have hpn : n ≤ p := by omega
    rw [pjl_stop (Or.inl hpn), pjl_stop (Or.inl hpn)]
    dsimp only
    cases j2 with
    | zero => rfl
    | succ j2 => unfold psl; rw [if_pos hpn]
  | succ j ih =>
    intro j2 cm cm2 p cd hp h1 h2
    by_cases c0 : n ≤ p
    · rw [pjl_stop (Or.inl c0), pjl_stop (Or.inl c0)]
      dsimp only
      cases j2 with
      | zero => rfl
      | succ j2 => unfold psl; rw [if_pos c0]
    have hb3 := bop_3 (x := F p)
    by_cases c1 : bop (F p) < 2
    · rw [pjl_stop (Or.inr c1), pjl_stop (Or.inr (by omega))]
      dsimp only
      cases j2 with
      | zero => rfl
      | succ j2 => unfold psl; rw [if_neg c0, if_neg (by omega)]
    by_cases c2 : bop (F p) = 3
    · have e1 : pjl F n 2 (fun o => if o = 3 then J4 F n th else J3 F n th) (j + 1) cm p cd = match J4 F n th (p + 1) with
        | .inl q => .inl q
        | .inr (q, c2) => pjl F n 2 (fun o => if o = 3 then J4 F n th else J3 F n th) j (cm || decide (bop (F p) = 1)) q (cd ++ c2 ++ [1007 + F p]) := by
        conv => lhs; unfold pjl
        rw [if_neg c0, if_neg (by omega), c2, if_pos rfl]
        rfl
      have e2 : pjl F n 3 (fun _ => J4 F n th) (j + 1) cm2 p cd = match J4 F n th (p + 1) with
        | .inl q => .inl q
        | .inr (q, c2) => pjl F n 3 (fun _ => J4 F n th) j (cm2 || decide (bop (F p) = 1)) q (cd ++ c2 ++ [1007 + F p]) := by
        conv => lhs; unfold pjl
        rw [if_neg c0, if_neg (by omega)]
        rfl
      rw [e1, e2]
      cases hq : J4 F n th (p + 1) with
      | inl q => rfl
      | inr x =>
        obtain ⟨q, c3⟩ := x
        have hg := (GP_J4 (F := F) ht (p + 1) (by omega)).2 _ _ hq
        exact ih hg.2.1 (by omega) (by omega)
    · have c3 : bop (F p) = 2 := by omega
      have e1 : pjl F n 2 (fun o => if o = 3 then J4 F n th else J3 F n th) (j + 1) cm p cd = match J3 F n th (p + 1) with
        | .inl q => .inl q
        | .inr (q, c2) => pjl F n 2 (fun o => if o = 3 then J4 F n th else J3 F n th) j (cm || decide (bop (F p) = 1)) q (cd ++ c2 ++ [1007 + F p]) := by
        conv => lhs; unfold pjl
        rw [if_neg c0, if_neg (by omega), c3, if_neg (by decide)]
        rfl
      rw [e1, pjl_stop (b := 3) (Or.inr (by omega))]
      dsimp only
      obtain ⟨j2, rfl⟩ : ∃ k, j2 = k + 1 := ⟨j2 - 1, by omega⟩
      unfold psl
      rw [if_neg c0, if_pos c3]
      cases hq : J3 F n th (p + 1) with
      | inl q => rfl
      | inr x =>
        obtain ⟨q, c4⟩ := x
        have hg := (GP_J3 (F := F) ht (p + 1) (by omega)).2 _ _ hq
        have hen := pj_en (F := F) (b := 3) (rec := fun _ => J4 F n th) hn ht (fun o _ _ => GP_J4 ht) (by decide) (p + 1) q c4 (by omega) hq
        dsimp only
        rw [ih (j2 := j2) (cm2 := false) hg.2.1 (by omega) (by omega), pjl_stop hen]
theorem J2_split {F : Nat → Int32} {n : Nat} {th : Nat → PR} {a : Nat} (hn : n ≤ 40) (ht : GP n th) (ha : a ≤ n) : J2 F n th a = match J3 F n th a with
    | .inl q => .inl q
    | .inr (p, cd) => psl F n (J3 F n th) 40 p cd := by
  unfold J2
  conv => rhs; unfold J3
  unfold pj
  cases hq : th a with
  | inl q => rfl
  | inr x =>
    obtain ⟨p, cd⟩ := x
    have hg := (ht a ha).2 _ _ hq
    exact pjl_2 hn ht hg.2.1 (by omega) (by omega)
theorem pjl_1 {F : Nat → Int32} {n : Nat} {th : Nat → PR} (hn : n ≤ 40) (ht : GP n th) : ∀ {j : Nat} {cm2 : Bool} {p : Nat} {cd : List Int32}, p ≤ n → n ≤ p + j → pjl F n 1 (fun o => if o = 3 then J4 F n th else if o = 2 then J3 F n th else J2 F n th) j false p cd = match pjl F n 2 (fun o => if o = 3 then J4 F n th else J3 F n th) j cm2 p cd with
    | .inl q => .inl q
    | .inr (p', cd') => if n ≤ p' then .inr (p', cd') else if bop (F p') = 1 then (match J2 F n th (p' + 1) with
      | .inl q => .inl q
      | .inr (q, c2) => .inr (q, cd' ++ c2 ++ [1007 + F p'])) else .inr (p', cd') := by
  intro j
  induction j with
  | zero =>
    intro cm2 p cd hp h1
    have hpn : n ≤ p := by omega
    rw [pjl_stop (Or.inl hpn), pjl_stop (Or.inl hpn)]
    dsimp only
    rw [if_pos hpn]
  | succ j ih =>
    intro cm2 p cd hp h1
    by_cases c0 : n ≤ p
    · rw [pjl_stop (Or.inl c0), pjl_stop (Or.inl c0)]
      dsimp only
      rw [if_pos c0]
    have hb3 := bop_3 (x := F p)
    by_cases c1 : bop (F p) = 0
    · rw [pjl_stop (Or.inr (by omega)), pjl_stop (Or.inr (by omega))]
      dsimp only
      rw [if_neg c0, if_neg (by omega)]
    by_cases c2 : bop (F p) = 1
    · rw [pjl_stop (b := 2) (Or.inr (by omega))]
      dsimp only
      rw [if_neg c0, if_pos c2]
      have e1 : pjl F n 1 (fun o => if o = 3 then J4 F n th else if o = 2 then J3 F n th else J2 F n th) (j + 1) false p cd = match J2 F n th (p + 1) with
        | .inl q => .inl q
        | .inr (q, c2) => pjl F n 1 (fun o => if o = 3 then J4 F n th else if o = 2 then J3 F n th else J2 F n th) j true q (cd ++ c2 ++ [1007 + F p]) := by
        conv => lhs; unfold pjl
        rw [if_neg c0, if_neg (by
          rintro (q | q)
          · omega
          · cases q.2), c2, if_neg (by decide), if_neg (by decide)]
        rfl
      rw [e1]
      cases hq : J2 F n th (p + 1) with
      | inl q => rfl
      | inr x =>
        obtain ⟨q, c4⟩ := x
        have hg := (GP_J2 (F := F) ht (p + 1) (by omega)).2 _ _ hq
        have hen := pj_en (F := F) (b := 2) (rec := fun o => if o = 3 then J4 F n th else J3 F n th) hn ht (fun o _ _ => by
          split
          · exact GP_J4 ht
          · exact GP_J3 ht) (by decide) (p + 1) q c4 (by omega) hq
        dsimp only
        cases j with
        | zero => rfl
        | succ j =>
          unfold pjl
          rcases hen with hen | hen
          · rw [if_pos hen]
          · split
            · rfl
            · rw [if_pos (by
                by_cases z : bop (F q) = 1
                · exact Or.inr ⟨z, rfl⟩
                · exact Or.inl (by omega))]
    · have step : ∀ (b : Nat) (rec : Nat → Nat → PR) (cm : Bool), b ≤ 2 → 1 ≤ b → pjl F n b rec (j + 1) cm p cd = match rec (bop (F p)) (p + 1) with
        | .inl q => .inl q
        | .inr (q, c2) => pjl F n b rec j (cm || decide (bop (F p) = 1)) q (cd ++ c2 ++ [1007 + F p]) := by
        intro b rec cm hb _
        conv => lhs; unfold pjl
        rw [if_neg c0, if_neg (by
          rintro (q | q)
          · omega
          · exact c2 q.1)]
        rfl
      rw [step 1 _ false (by decide) (by decide), step 2 _ cm2 (by decide) (by decide), decide_eq_false c2, Bool.or_false, Bool.or_false]
      have er : (if bop (F p) = 3 then J4 F n th else if bop (F p) = 2 then J3 F n th else J2 F n th) = (if bop (F p) = 3 then J4 F n th else J3 F n th) := by
        by_cases z : bop (F p) = 3
        · rw [if_pos z, if_pos z]
        · rw [if_neg z, if_neg z, if_pos (by omega)]
      rw [er]
      have hgr : GP n (if bop (F p) = 3 then J4 F n th else J3 F n th) := by
        split
        · exact GP_J4 ht
        · exact GP_J3 ht
      cases hq : (if bop (F p) = 3 then J4 F n th else J3 F n th) (p + 1) with
      | inl q => rfl
      | inr x =>
        obtain ⟨q, c4⟩ := x
        have hg := (hgr (p + 1) (by omega)).2 _ _ hq
        exact ih hg.2.1 (by omega)
theorem J1_split {F : Nat → Int32} {n : Nat} {th : Nat → PR} {a : Nat} (hn : n ≤ 40) (ht : GP n th) (ha : a ≤ n) : J1 F n th a = match J2 F n th a with
    | .inl q => .inl q
    | .inr (p', cd') => if n ≤ p' then .inr (p', cd') else if bop (F p') = 1 then (match J2 F n th (p' + 1) with
      | .inl q => .inl q
      | .inr (q, c2) => .inr (q, cd' ++ c2 ++ [1007 + F p'])) else .inr (p', cd') := by
  unfold J1 pj
  have e2 : J2 F n th a = match th a with
    | .inl q => .inl q
    | .inr (p, cd) => pjl F n 2 (fun o => if o = 3 then J4 F n th else J3 F n th) 40 false p cd := rfl
  rw [e2]
  cases hq : th a with
  | inl q => rfl
  | inr x =>
    obtain ⟨p, cd⟩ := x
    have hg := (ht a ha).2 _ _ hq
    exact pjl_1 hn ht hg.2.1 (by omega)
/-- things of J joined by operators that bind as k -/
def pskl (F : Nat → Int32) (n k : Nat) (J : Nat → PR) : Nat → Nat → List Int32 → PR
  | 0, p, cd => .inr (p, cd)
  | j + 1, p, cd => if n ≤ p then .inr (p, cd) else if bop (F p) = k then (match J (p + 1) with
    | .inl q => .inl q
    | .inr (q, c2) => pskl F n k J j q (cd ++ c2 ++ [1007 + F p])) else .inr (p, cd)
def psk (F : Nat → Int32) (n k : Nat) (J : Nat → PR) (a : Nat) : PR := match J a with
  | .inl q => .inl q
  | .inr (p, cd) => pskl F n k J 40 p cd
/-- at most one comparison -/
def pex (F : Nat → Int32) (n : Nat) (J : Nat → PR) (a : Nat) : PR := match J a with
  | .inl q => .inl q
  | .inr (p, cd) => if n ≤ p then .inr (p, cd) else if bop (F p) = 1 then (match J (p + 1) with
    | .inl q => .inl q
    | .inr (q, c2) => .inr (q, cd ++ c2 ++ [1007 + F p])) else .inr (p, cd)
theorem psl_k {F : Nat → Int32} {n : Nat} {J : Nat → PR} : ∀ {j p : Nat} {cd : List Int32}, psl F n J j p cd = pskl F n 2 J j p cd := by
  intro j
  induction j with
  | zero => intro p cd; rfl
  | succ j ih =>
    intro p cd
    unfold psl pskl
    by_cases c0 : n ≤ p
    · rw [if_pos c0, if_pos c0]
    rw [if_neg c0, if_neg c0]
    by_cases c1 : bop (F p) = 2
    · rw [if_pos c1, if_pos c1]
      cases J (p + 1) with
      | inl q => rfl
      | inr x =>
        obtain ⟨q, c2⟩ := x
        exact ih
    · rw [if_neg c1, if_neg c1]
theorem pjl_k {F : Nat → Int32} {n : Nat} {th : Nat → PR} : ∀ {j : Nat} {cm : Bool} {p : Nat} {cd : List Int32}, pjl F n 3 (fun _ => J4 F n th) j cm p cd = pskl F n 3 th j p cd := by
  intro j
  induction j with
  | zero => intro cm p cd; rfl
  | succ j ih =>
    intro cm p cd
    have hb3 := bop_3 (x := F p)
    by_cases c0 : n ≤ p
    · rw [pjl_stop (Or.inl c0)]
      unfold pskl
      rw [if_pos c0]
    by_cases c1 : bop (F p) = 3
    · have e2 : pjl F n 3 (fun _ => J4 F n th) (j + 1) cm p cd = match J4 F n th (p + 1) with
        | .inl q => .inl q
        | .inr (q, c2) => pjl F n 3 (fun _ => J4 F n th) j (cm || decide (bop (F p) = 1)) q (cd ++ c2 ++ [1007 + F p]) := by
        conv => lhs; unfold pjl
        rw [if_neg c0, if_neg (by omega)]
        rfl
      rw [e2, J4_eq]
      unfold pskl
      rw [if_neg c0, if_pos c1]
      cases th (p + 1) with
      | inl q => rfl
      | inr x =>
        obtain ⟨q, c2⟩ := x
        exact ih
    · rw [pjl_stop (Or.inr (by omega))]
      unfold pskl
      rw [if_neg c0, if_neg c1]
theorem J3_k {F : Nat → Int32} {n : Nat} {th : Nat → PR} {a : Nat} : psk F n 3 th a = J3 F n th a := by
  unfold J3 pj psk
  cases th a with
  | inl q => rfl
  | inr x =>
    obtain ⟨p, cd⟩ := x
    exact pjl_k.symm
theorem J2_k {F : Nat → Int32} {n : Nat} {th : Nat → PR} {a : Nat} (hn : n ≤ 40) (ht : GP n th) (ha : a ≤ n) : psk F n 2 (J3 F n th) a = J2 F n th a := by
  rw [J2_split hn ht ha]
  unfold psk
  cases J3 F n th a with
  | inl q => rfl
  | inr x =>
    obtain ⟨p, cd⟩ := x
    exact psl_k.symm
theorem J1_k {F : Nat → Int32} {n : Nat} {th : Nat → PR} {a : Nat} (hn : n ≤ 40) (ht : GP n th) (ha : a ≤ n) : pex F n (J2 F n th) a = J1 F n th a := by
  rw [J1_split hn ht ha]
  unfold pex
  cases J2 F n th a with
  | inl q => rfl
  | inr x =>
    obtain ⟨p, cd⟩ := x
    rfl
