/-! what a run comes to: for plain proofs -/
theorem tm_fuel {G : tm_G} : ∀ {n : Nat} {d M pc : Nat} {ls st : List Value} {h : tm_H} {x : Option Value × tm_H}, tm_run G n d M pc ls st h = some x → ∀ k, n ≤ k → tm_run G k d M pc ls st h = some x := by
  intro n
  induction n with
  | zero => intro d M pc ls st h x hr; cases hr
  | succ n ih =>
    intro d M pc ls st h x hr k hk
    obtain ⟨k, rfl⟩ : ∃ j, k = j + 1 := ⟨k - 1, by omega⟩
    have hk : n ≤ k := by omega
    unfold tm_run at hr ⊢
    cases he : tm_ft G M pc with
    | none => rw [he] at hr; cases hr
    | some en =>
      rw [he] at hr
      dsimp only at hr ⊢
      cases hs : tm_stp G d en pc ls st h with
      | none => rw [hs] at hr; cases hr
      | some o =>
        rw [hs] at hr
        match o, hr with
        | .inl (pc', ls', st', h'), hr => exact ih hr k hk
        | .inr (.inl r), hr => exact hr
        | .inr (.inr (mi, as, rest)), hr =>
          dsimp only at hr ⊢
          cases d with
          | zero => exact hr
          | succ d' =>
            dsimp only at hr ⊢
            by_cases hm : mi < 1000 ∧ (tm_ex as).length ≤ (tm_mt G mi).2.2.1
            · rw [if_pos hm] at hr ⊢
              cases hq : tm_run G n d' mi 0 (tm_ent as (tm_mt G mi).2.2.1) [] h with
              | none => rw [hq] at hr; cases hr
              | some y =>
                rw [hq] at hr
                rw [ih hq k hk]
                exact ih hr k hk
            · rw [if_neg hm] at hr ⊢
              cases hq : tm_xt G mi d' as h with
              | none => rw [hq] at hr; cases hr
              | some y =>
                rw [hq] at hr
                exact ih hr k hk
/-- from here the method returns, and Q holds of what it returns and of the heap then -/
def tm_X (G : tm_G) (d M pc : Nat) (ls st : List Value) (h : tm_H) (Q : Option Value → tm_H → Prop) : Prop := ∃ n r h', tm_run G n d M pc ls st h = some (r, h') ∧ Q r h'
/-- a call of method mi -/
def tm_D (G : tm_G) (d mi : Nat) (as : List Value) (h : tm_H) (Q : Option Value → tm_H → Prop) : Prop := if mi < 1000 ∧ (tm_ex as).length ≤ (tm_mt G mi).2.2.1 then tm_X G d mi 0 (tm_ent as (tm_mt G mi).2.2.1) [] h Q else ∃ r h', tm_xt G mi d as h = some (r, h') ∧ Q r h'
/-- what an instruction's outcome asks -/
def tm_Y (G : tm_G) (d M pc : Nat) (ls : List Value) (h : tm_H) (Q : Option Value → tm_H → Prop) : Option tm_O → Prop
  | none => False
  | some (.inl (pc', ls', st', h')) => tm_X G d M pc' ls' st' h' Q
  | some (.inr (.inl r)) => Q r h
  | some (.inr (.inr (mi, as, rest))) => match d with
    | 0 => False
    | d' + 1 => tm_D G d' mi as h (fun r h' => tm_X G (d' + 1) M (pc + 3) ls (r.toList ++ rest) h' Q)
theorem tm_X_i {G : tm_G} {d M pc : Nat} {ls st : List Value} {h : tm_H} {Q : Option Value → tm_H → Prop} (en : tm_N) (he : tm_ft G M pc = some en) : tm_Y G d M pc ls h Q (tm_stp G d en pc ls st h) → tm_X G d M pc ls st h Q := by
  intro hy
  cases hs : tm_stp G d en pc ls st h with
  | none => rw [hs] at hy; exact hy.elim
  | some o =>
    rw [hs] at hy
    match o, hy with
    | .inl (pc', ls', st', h'), ⟨n, r, h2, hr, hq⟩ =>
      refine ⟨n + 1, r, h2, ?_, hq⟩
      unfold tm_run
      rw [he]
      dsimp only
      rw [hs]
      exact hr
    | .inr (.inl r), hy =>
      refine ⟨1, r, h, ?_, hy⟩
      unfold tm_run
      rw [he]
      dsimp only
      rw [hs]
    | .inr (.inr (mi, as, rest)), hy =>
      cases d with
      | zero => exact hy.elim
      | succ d' =>
        unfold tm_Y tm_D at hy
        by_cases hm : mi < 1000 ∧ (tm_ex as).length ≤ (tm_mt G mi).2.2.1
        · simp only [hm, and_self, if_true] at hy
          obtain ⟨n, r, h2, hr, n2, r2, h3, hr2, hq⟩ := hy
          refine ⟨max n n2 + 1, r2, h3, ?_, hq⟩
          unfold tm_run
          rw [he]
          dsimp only
          rw [hs]
          dsimp only
          rw [if_pos hm, tm_fuel hr _ (Nat.le_max_left _ _)]
          exact tm_fuel hr2 _ (Nat.le_max_right _ _)
        · simp only [hm, if_false] at hy
          obtain ⟨r, h2, hr, n2, r2, h3, hr2, hq⟩ := hy
          refine ⟨n2 + 1, r2, h3, ?_, hq⟩
          unfold tm_run
          rw [he]
          dsimp only
          rw [hs]
          dsimp only
          rw [if_neg hm, hr]
          exact hr2
theorem tm_X_m {G : tm_G} {d M pc : Nat} {ls st : List Value} {h : tm_H} {Q Q' : Option Value → tm_H → Prop} (hq : ∀ r h', Q r h' → Q' r h') : tm_X G d M pc ls st h Q → tm_X G d M pc ls st h Q' := fun ⟨n, r, h', h1, h2⟩ => ⟨n, r, h', h1, hq r h' h2⟩
theorem tm_D_m {G : tm_G} {d mi : Nat} {as : List Value} {h : tm_H} {Q Q' : Option Value → tm_H → Prop} (hq : ∀ r h', Q r h' → Q' r h') : tm_D G d mi as h Q → tm_D G d mi as h Q' := by
  unfold tm_D
  split
  · exact tm_X_m hq
  · exact fun ⟨r, h', h1, h2⟩ => ⟨r, h', h1, hq r h' h2⟩
theorem tm_X_o {G : tm_G} {d M pc : Nat} {ls st : List Value} {h : tm_H} {Q : Option Value → tm_H → Prop} (en : tm_N) (he : tm_ft G M pc = some en) : tm_X G d M pc ls st h Q → tm_Y G d M pc ls h Q (tm_stp G d en pc ls st h) := by
  rintro ⟨n, r, h2, hr, hq⟩
  cases n with
  | zero => cases hr
  | succ n =>
    unfold tm_run at hr
    rw [he] at hr
    dsimp only at hr
    cases hs : tm_stp G d en pc ls st h with
    | none => rw [hs] at hr; cases hr
    | some o =>
      rw [hs] at hr
      match o, hr with
      | .inl (pc', ls', st', h'), hr => exact ⟨n, r, h2, hr, hq⟩
      | .inr (.inl r'), hr => cases hr; exact hq
      | .inr (.inr (mi, as, rest)), hr =>
        dsimp only at hr
        cases d with
        | zero => cases hr
        | succ d' =>
          dsimp only at hr
          unfold tm_Y tm_D
          by_cases hm : mi < 1000 ∧ (tm_ex as).length ≤ (tm_mt G mi).2.2.1
          · rw [if_pos hm] at hr
            simp only [hm, and_self, if_true]
            cases hw : tm_run G n d' mi 0 (tm_ent as (tm_mt G mi).2.2.1) [] h with
            | none => rw [hw] at hr; cases hr
            | some y =>
              rw [hw] at hr
              exact ⟨n, y.1, y.2, hw, n, r, h2, hr, hq⟩
          · rw [if_neg hm] at hr
            simp only [hm, if_false]
            cases hw : tm_xt G mi d' as h with
            | none => rw [hw] at hr; cases hr
            | some y =>
              rw [hw] at hr
              exact ⟨y.1, y.2, rfl, n, r, h2, hr, hq⟩
theorem tm_X_e {G : tm_G} {d M pc : Nat} {ls st : List Value} {h : tm_H} {Q : Option Value → tm_H → Prop} (en : tm_N) (he : tm_ft G M pc = some en) : tm_X G d M pc ls st h Q ↔ tm_Y G d M pc ls h Q (tm_stp G d en pc ls st h) := ⟨tm_X_o en he, tm_X_i en he⟩
/-- a run has one end -/
theorem tm_X_1 {G : tm_G} {d M pc : Nat} {ls st : List Value} {h : tm_H} {r : Option Value} {h' : tm_H} (hx : tm_X G d M pc ls st h (fun r2 h2 => r2 = r ∧ h2 = h')) (Q : Option Value → tm_H → Prop) : tm_X G d M pc ls st h Q ↔ Q r h' := by
  obtain ⟨n, r2, h2, hr, rfl, rfl⟩ := hx
  constructor
  · rintro ⟨n3, r3, h3, hr3, hq⟩
    have e1 := tm_fuel hr _ (Nat.le_max_left n n3)
    have e2 := tm_fuel hr3 _ (Nat.le_max_right n n3)
    rw [e1] at e2
    cases e2
    exact hq
  · exact fun hq => ⟨n, r2, h2, hr, hq⟩
