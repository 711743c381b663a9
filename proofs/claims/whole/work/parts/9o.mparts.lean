/-! boxes for letters: with and without the order of boxes -/
theorem mst_all {Pl : Nat → Int32} {a b : Int32} : ∀ {j o : Nat}, mst Pl a b j o = true ↔ ∀ q, o ≤ q → q < o + j → Pl q = b → ¬ (a >>> (nI q &&& 31)) &&& 1 = 1
  | 0, o => ⟨fun _ q h1 h2 => by omega, fun _ => rfl⟩
  | j + 1, o => by
    have ih := mst_all (Pl := Pl) (a := a) (b := b) (j := j) (o := o + 1)
    show (if Pl o = b then (if (a >>> (nI o &&& 31)) &&& 1 = 1 then false else mst Pl a b j (o + 1)) else mst Pl a b j (o + 1)) = true ↔ _
    by_cases c1 : Pl o = b
    · rw [if_pos c1]
      by_cases c2 : (a >>> (nI o &&& 31)) &&& 1 = 1
      · rw [if_pos c2]
        exact ⟨fun q => absurd q (by decide), fun q => absurd c2 (q o (Nat.le_refl _) (by omega) c1)⟩
      · rw [if_neg c2, ih]
        constructor
        · intro h q h1 h2
          by_cases e : q = o
          · subst e; exact fun _ => c2
          · exact h q (by omega) (by omega)
        · intro h q h1 h2
          exact h q (by omega) (by omega)
    · rw [if_neg c1, ih]
      constructor
      · intro h q h1 h2
        by_cases e : q = o
        · subst e; exact fun z => absurd z c1
        · exact h q (by omega) (by omega)
      · intro h q h1 h2
        exact h q (by omega) (by omega)
theorem mst_cg {P P' : Nat → Int32} {a b : Int32} {l : Nat} (h : ∀ o, o < l → P o = P' o) : mst P a b l 0 = mst P' a b l 0 := by
  rw [Bool.eq_iff_iff, mst_all, mst_all]
  constructor
  · intro q x h1 h2 h3
    exact q x h1 h2 ((h x (by omega)).trans h3)
  · intro q x h1 h2 h3
    exact q x h1 h2 ((h x (by omega)).symm.trans h3)
/-- all boxes tried for every letter -/
def rcb (Ap : Nat → Int32) (bx : Nat) : Nat → Nat → (Nat → Int32) → Bool × (Nat → Int32)
  | 0, _, Pl => (true, Pl)
  | m + 1, l, Pl => plo (fun _ => rcb Ap bx m (l + 1)) (Ap l) l 0 bx 0 Pl
/-- there is a way -/
def SOL (Ap : Nat → Int32) (bx m l : Nat) (Pl : Nat → Int32) : Prop := ∃ A : Nat → Int32, (∀ o, o < l → A o = Pl o) ∧ ∀ x, l ≤ x → x < l + m → (∃ b, b < bx ∧ A x = nI b) ∧ mst A (Ap x) (A x) x 0 = true
theorem SOL_cg {Ap : Nat → Int32} {bx m l : Nat} {P P' : Nat → Int32} (h : ∀ o, o < l → P o = P' o) (hs : SOL Ap bx m l P) : SOL Ap bx m l P' := by
  obtain ⟨A, h1, h2⟩ := hs
  exact ⟨A, fun o ho => (h1 o ho).trans (h o ho), h2⟩
theorem upd_below {P : Nat → Int32} {l o : Nat} {v : Int32} (h : o < l) : upd P l v o = P o := if_neg (by omega)
theorem upd_at {P : Nat → Int32} {l : Nat} {v : Int32} : upd P l v l = v := if_pos rfl
theorem upd_cg {P P' : Nat → Int32} {l : Nat} {v : Int32} (h : ∀ o, o < l → P o = P' o) : ∀ o, o < l + 1 → upd P l v o = upd P' l v o := by
  intro o ho
  by_cases e : o = l
  · subst e; rw [upd_at, upd_at]
  · rw [upd_below (by omega), upd_below (by omega)]; exact h o (by omega)
theorem SOL_s {Ap : Nat → Int32} {bx m l : Nat} {P : Nat → Int32} : SOL Ap bx (m + 1) l P ↔ ∃ b, b < bx ∧ mst P (Ap l) (nI b) l 0 = true ∧ SOL Ap bx m (l + 1) (upd P l (nI b)) := by
  constructor
  · rintro ⟨A, h1, h2⟩
    obtain ⟨⟨b, hb, eb⟩, hm⟩ := h2 l (Nat.le_refl _) (by omega)
    refine ⟨b, hb, ?_, A, fun o ho => ?_, fun x x1 x2 => h2 x (by omega) (by omega)⟩
    · rw [← mst_cg h1, ← eb]; exact hm
    · by_cases e : o = l
      · subst e; rw [upd_at]; exact eb
      · rw [upd_below (by omega)]; exact h1 o (by omega)
  · rintro ⟨b, hb, hm, A, h1, h2⟩
    have hl : ∀ o, o < l → A o = P o := fun o ho => (h1 o (by omega)).trans (upd_below ho)
    have el : A l = nI b := (h1 l (by omega)).trans upd_at
    refine ⟨A, hl, fun x x1 x2 => ?_⟩
    by_cases e : x = l
    · subst e
      refine ⟨⟨b, hb, el⟩, ?_⟩
      rw [mst_cg hl, el]; exact hm
    · exact h2 x (by omega) (by omega)
/-- two boxes that stand empty are alike -/
theorem SOL_swap {Ap : Nat → Int32} {bx m l a b : Nat} {P : Nat → Int32} (hbx : bx ≤ 8) (ha : a < bx) (hb : b < bx) (hPa : ∀ o, o < l → ¬ P o = nI a) (hPb : ∀ o, o < l → ¬ P o = nI b) (h : SOL Ap bx m (l + 1) (upd P l (nI b))) : SOL Ap bx m (l + 1) (upd P l (nI a)) := by
  obtain ⟨A, h1, h2⟩ := h
  obtain ⟨sw, hsw⟩ : ∃ sw : Int32 → Int32, sw = fun v => if v = nI a then nI b else if v = nI b then nI a else v := ⟨_, rfl⟩
  have hne : a ≠ b → ¬ nI a = nI b := fun q e => q ((nI_eq (by omega) (by omega)).mp e)
  have hinv : ∀ v, sw (sw v) = v := by
    intro v
    rw [hsw]
    dsimp only
    by_cases c1 : v = nI a
    · rw [if_pos c1, if_pos rfl]
      by_cases c2 : nI b = nI a
      · rw [if_pos c2, c1, c2]
      · rw [if_neg c2, c1]
    · rw [if_neg c1]
      by_cases c2 : v = nI b
      · rw [if_pos c2, if_pos rfl, c2]
      · rw [if_neg c2, if_neg c1, if_neg c2]
  have hinj : ∀ v w, sw v = sw w → v = w := fun v w q => by rw [← hinv v, q, hinv]
  refine ⟨fun x => sw (A x), fun o ho => ?_, fun x x1 x2 => ?_⟩
  · show sw (A o) = _
    rw [h1 o ho]
    by_cases e : o = l
    · subst e
      rw [upd_at, upd_at, hsw]
      dsimp only
      by_cases c : nI b = nI a
      · rw [if_pos c, c]
      · rw [if_neg c, if_pos rfl]
    · rw [upd_below (by omega), upd_below (by omega), hsw]
      dsimp only
      rw [if_neg (hPa o (by omega)), if_neg (hPb o (by omega))]
  · obtain ⟨⟨q, hq, eq⟩, hm⟩ := h2 x x1 x2
    refine ⟨?_, ?_⟩
    · show ∃ b, b < bx ∧ sw (A x) = nI b
      rw [hsw]
      dsimp only
      by_cases c1 : A x = nI a
      · rw [if_pos c1]; exact ⟨b, hb, rfl⟩
      · rw [if_neg c1]
        by_cases c2 : A x = nI b
        · rw [if_pos c2]; exact ⟨a, ha, rfl⟩
        · rw [if_neg c2]; exact ⟨q, hq, eq⟩
    · rw [mst_all] at hm ⊢
      intro y y1 y2 y3
      exact hm y y1 y2 (hinj _ _ y3)
theorem plo_keep {rec : Nat → (Nat → Int32) → Bool × (Nat → Int32)} {a : Int32} {l u : Nat} (hr : ∀ u P o, o < l + 1 → (rec u P).2 o = P o) : ∀ {j b : Nat} {P : Nat → Int32} {o : Nat}, o < l → (plo rec a l u j b P).2 o = P o
  | 0, b, P, o, ho => rfl
  | j + 1, b, P, o, ho => by
    have es : plo rec a l u (j + 1) b P = if mst P a (nI b) l 0 then (if (rec (max u (b + 1)) (upd P l (nI b))).1 then rec (max u (b + 1)) (upd P l (nI b)) else plo rec a l u j (b + 1) (rec (max u (b + 1)) (upd P l (nI b))).2) else plo rec a l u j (b + 1) P := rfl
    have e1 : (rec (max u (b + 1)) (upd P l (nI b))).2 o = P o := (hr _ _ o (by omega)).trans (upd_below ho)
    rw [es]
    split
    · split
      · exact e1
      · exact (plo_keep hr ho).trans e1
    · exact plo_keep hr ho
theorem plf_keep {Ap : Nat → Int32} {bx : Nat} : ∀ {m l u : Nat} {P : Nat → Int32} {o : Nat}, o < l → (plf Ap bx m l u P).2 o = P o
  | 0, l, u, P, o, ho => rfl
  | m + 1, l, u, P, o, ho => plo_keep (fun _ _ _ ho => plf_keep ho) ho
theorem rcb_keep {Ap : Nat → Int32} {bx : Nat} : ∀ {m l : Nat} {P : Nat → Int32} {o : Nat}, o < l → (rcb Ap bx m l P).2 o = P o
  | 0, l, P, o, ho => rfl
  | m + 1, l, P, o, ho => plo_keep (fun _ _ _ ho => rcb_keep ho) ho
theorem plo_sol {Ap : Nat → Int32} {bx m l : Nat} (hrec : ∀ P, (rcb Ap bx m (l + 1) P).1 = true ↔ SOL Ap bx m (l + 1) P) : ∀ {j b : Nat} {P : Nat → Int32}, (plo (fun _ => rcb Ap bx m (l + 1)) (Ap l) l 0 j b P).1 = true ↔ ∃ q, b ≤ q ∧ q < b + j ∧ mst P (Ap l) (nI q) l 0 = true ∧ SOL Ap bx m (l + 1) (upd P l (nI q))
  | 0, b, P => ⟨fun h => absurd (show false = true from h) (by decide), fun ⟨q, h1, h2, _⟩ => by omega⟩
  | j + 1, b, P => by
    have es : plo (fun _ => rcb Ap bx m (l + 1)) (Ap l) l 0 (j + 1) b P = if mst P (Ap l) (nI b) l 0 then (if (rcb Ap bx m (l + 1) (upd P l (nI b))).1 then rcb Ap bx m (l + 1) (upd P l (nI b)) else plo (fun _ => rcb Ap bx m (l + 1)) (Ap l) l 0 j (b + 1) (rcb Ap bx m (l + 1) (upd P l (nI b))).2) else plo (fun _ => rcb Ap bx m (l + 1)) (Ap l) l 0 j (b + 1) P := rfl
    have step : ∀ P', (∀ o, o < l → P' o = P o) → ¬ (mst P (Ap l) (nI b) l 0 = true ∧ SOL Ap bx m (l + 1) (upd P l (nI b))) → ((plo (fun _ => rcb Ap bx m (l + 1)) (Ap l) l 0 j (b + 1) P').1 = true ↔ ∃ q, b ≤ q ∧ q < b + (j + 1) ∧ mst P (Ap l) (nI q) l 0 = true ∧ SOL Ap bx m (l + 1) (upd P l (nI q))) := by
      intro P' hP hno
      rw [plo_sol hrec]
      constructor
      · rintro ⟨q, q1, q2, q3, q4⟩
        exact ⟨q, by omega, by omega, by rw [← mst_cg hP]; exact q3, SOL_cg (upd_cg hP) q4⟩
      · rintro ⟨q, q1, q2, q3, q4⟩
        have : q ≠ b := fun e => hno (by subst e; exact ⟨q3, q4⟩)
        exact ⟨q, by omega, by omega, by rw [mst_cg hP]; exact q3, SOL_cg (upd_cg (fun o ho => (hP o ho).symm)) q4⟩
    rw [es]
    cases hm : mst P (Ap l) (nI b) l 0 with
    | false =>
      rw [if_neg (by decide)]
      exact step P (fun _ _ => rfl) (fun q => by rw [hm] at q; exact absurd q.1 (by decide))
    | true =>
      rw [if_pos rfl]
      cases hc : (rcb Ap bx m (l + 1) (upd P l (nI b))).1 with
      | true =>
        rw [if_pos rfl]
        exact ⟨fun _ => ⟨b, Nat.le_refl _, by omega, hm, (hrec _).mp hc⟩, fun _ => hc⟩
      | false =>
        rw [if_neg (by decide)]
        refine step _ (fun o ho => (rcb_keep (by omega)).trans (upd_below ho)) (fun q => ?_)
        have := (hrec _).mpr q.2
        rw [hc] at this
        cases this
theorem rcb_sol {Ap : Nat → Int32} {bx : Nat} : ∀ {m l : Nat} {P : Nat → Int32}, (rcb Ap bx m l P).1 = true ↔ SOL Ap bx m l P
  | 0, l, P => ⟨fun _ => ⟨P, fun _ _ => rfl, fun x h1 h2 => by omega⟩, fun _ => rfl⟩
  | m + 1, l, P => by
    have := plo_sol (Ap := Ap) (bx := bx) (m := m) (l := l) (fun P => rcb_sol) (j := bx) (b := 0) (P := P)
    rw [SOL_s]
    refine this.trans ?_
    constructor
    · rintro ⟨q, q1, q2, q3⟩; exact ⟨q, by omega, q3⟩
    · rintro ⟨q, q2, q3⟩; exact ⟨q, Nat.zero_le _, by omega, q3⟩
/-- both ways find the same -/
theorem plf_rcb {Ap : Nat → Int32} {bx : Nat} (hbx : bx ≤ 8) : ∀ {m l u : Nat} {P P' : Nat → Int32}, (∀ o, o < l → P o = P' o) → u ≤ bx → (∀ o, o < l → ∃ b, b < u ∧ P o = nI b) → (plf Ap bx m l u P).1 = (rcb Ap bx m l P').1 ∧ ((rcb Ap bx m l P').1 = true → ∀ o, o < l + m → (plf Ap bx m l u P).2 o = (rcb Ap bx m l P').2 o)
  | 0, l, u, P, P', he, hu, hP => ⟨rfl, fun _ o ho => he o ho⟩
  | m + 1, l, u, P, P', he, hu, hP => by
    have loop : ∀ (j b : Nat) (P P' : Nat → Int32), b + j = min bx (u + 1) → (∀ o, o < l → P o = P' o) → (∀ o, o < l → ∃ b, b < u ∧ P o = nI b) → (∀ q, q < b → ¬ (mst P' (Ap l) (nI q) l 0 = true ∧ SOL Ap bx m (l + 1) (upd P' l (nI q)))) → (plo (plf Ap bx m (l + 1)) (Ap l) l u j b P).1 = (plo (fun _ => rcb Ap bx m (l + 1)) (Ap l) l 0 (bx - b) b P').1 ∧ ((plo (fun _ => rcb Ap bx m (l + 1)) (Ap l) l 0 (bx - b) b P').1 = true → ∀ o, o < l + (m + 1) → (plo (plf Ap bx m (l + 1)) (Ap l) l u j b P).2 o = (plo (fun _ => rcb Ap bx m (l + 1)) (Ap l) l 0 (bx - b) b P').2 o) := by
      intro j
      induction j with
      | zero =>
        intro b P P' hb he hP hno
        have hf : (plo (fun _ => rcb Ap bx m (l + 1)) (Ap l) l 0 (bx - b) b P').1 = false := by
          cases hc : (plo (fun _ => rcb Ap bx m (l + 1)) (Ap l) l 0 (bx - b) b P').1 with
          | false => rfl
          | true =>
            exfalso
            obtain ⟨q, q1, q2, q3, q4⟩ := (plo_sol (fun P => rcb_sol)).mp hc
            have hub : u < b := by omega
            have hPn : ∀ v, u ≤ v → v < bx → ∀ o, o < l → ¬ P' o = nI v := by
              intro v v1 v2 o ho e
              obtain ⟨z, z1, z2⟩ := hP o ho
              rw [← he o ho, z2] at e
              have := (nI_eq (by omega) (by omega)).mp e
              omega
            refine hno u hub ⟨?_, SOL_swap hbx (by omega) (show q < bx by omega) (hPn u (Nat.le_refl _) (by omega)) (hPn q (by omega) (by omega)) q4⟩
            rw [mst_all]
            intro z z1 z2 z3
            exact absurd z3 (hPn u (Nat.le_refl _) (by omega) z (by omega))
        rw [hf]
        exact ⟨rfl, fun q => by cases q⟩
      | succ j ih =>
        intro b P P' hb he hP hno
        have hbb : b < bx := by omega
        have hbu : b ≤ u := by omega
        have e1 : plo (plf Ap bx m (l + 1)) (Ap l) l u (j + 1) b P = if mst P (Ap l) (nI b) l 0 then (if (plf Ap bx m (l + 1) (max u (b + 1)) (upd P l (nI b))).1 then plf Ap bx m (l + 1) (max u (b + 1)) (upd P l (nI b)) else plo (plf Ap bx m (l + 1)) (Ap l) l u j (b + 1) (plf Ap bx m (l + 1) (max u (b + 1)) (upd P l (nI b))).2) else plo (plf Ap bx m (l + 1)) (Ap l) l u j (b + 1) P := rfl
        have e2 : plo (fun _ => rcb Ap bx m (l + 1)) (Ap l) l 0 (bx - b) b P' = if mst P' (Ap l) (nI b) l 0 then (if (rcb Ap bx m (l + 1) (upd P' l (nI b))).1 then rcb Ap bx m (l + 1) (upd P' l (nI b)) else plo (fun _ => rcb Ap bx m (l + 1)) (Ap l) l 0 (bx - (b + 1)) (b + 1) (rcb Ap bx m (l + 1) (upd P' l (nI b))).2) else plo (fun _ => rcb Ap bx m (l + 1)) (Ap l) l 0 (bx - (b + 1)) (b + 1) P' := by
          rw [show bx - b = (bx - (b + 1)) + 1 by omega]
          rfl
        have hrec := plf_rcb (Ap := Ap) hbx (m := m) (l := l + 1) (u := max u (b + 1)) (P := upd P l (nI b)) (P' := upd P' l (nI b)) (upd_cg he) (by omega) (fun o ho => by
          by_cases e : o = l
          · subst e; exact ⟨b, by omega, upd_at⟩
          · obtain ⟨z, z1, z2⟩ := hP o (by omega)
            exact ⟨z, by omega, (upd_below (by omega)).trans z2⟩)
        rw [e1, e2, mst_cg he]
        cases hm : mst P' (Ap l) (nI b) l 0 with
        | false =>
          rw [if_neg (by decide), if_neg (by decide)]
          refine ih (b + 1) P P' (by omega) he hP (fun q hq => ?_)
          by_cases e : q = b
          · subst e
            rw [hm]
            exact fun z => absurd z.1 (by decide)
          · exact hno q (by omega)
        | true =>
          rw [if_pos rfl, if_pos rfl, hrec.1]
          cases hc : (rcb Ap bx m (l + 1) (upd P' l (nI b))).1 with
          | true =>
            rw [if_pos rfl, if_pos rfl]
            refine ⟨hrec.1, fun q o ho => hrec.2 q o (by omega)⟩
          | false =>
            rw [if_neg (by decide), if_neg (by decide)]
            have k1 : ∀ o, o < l → (plf Ap bx m (l + 1) (max u (b + 1)) (upd P l (nI b))).2 o = P o := fun o ho => (plf_keep (by omega)).trans (upd_below ho)
            have k2 : ∀ o, o < l → (rcb Ap bx m (l + 1) (upd P' l (nI b))).2 o = P' o := fun o ho => (rcb_keep (by omega)).trans (upd_below ho)
            refine ih (b + 1) _ _ (by omega) (fun o ho => (k1 o ho).trans ((he o ho).trans (k2 o ho).symm)) (fun o ho => by rw [k1 o ho]; exact hP o ho) (fun q hq => ?_)
            rw [mst_cg k2]
            rintro ⟨z1, z2⟩
            have z3 : SOL Ap bx m (l + 1) (upd P' l (nI q)) := SOL_cg (upd_cg k2) z2
            by_cases e : q = b
            · subst e
              have := rcb_sol.mpr z3
              rw [hc] at this
              cases this
            · exact hno q (by omega) ⟨z1, z3⟩
    have := loop (min bx (u + 1)) 0 P P' (by omega) he hP (fun q hq => absurd hq (Nat.not_lt_zero q))
    rw [Nat.sub_zero] at this
    exact this
/-- eight boxes are enough -/
theorem rcb_8 {Ap P : Nat → Int32} : (rcb Ap 8 8 0 P).1 = true := by
  rw [rcb_sol]
  refine ⟨fun x => nI x, fun o ho => absurd ho (Nat.not_lt_zero o), fun x x1 x2 => ⟨⟨x, by omega, rfl⟩, ?_⟩⟩
  rw [mst_all]
  intro q q1 q2 q3
  have := (nI_eq (by omega) (by omega)).mp q3
  omega
/-- the fewest boxes, as the reference looks for them -/
def rfw (Ap : Nat → Int32) : Nat → Nat → (Nat → Int32) → Nat × (Nat → Int32)
  | 0, b, Pl => (b, (rcb Ap b 8 0 Pl).2)
  | j + 1, b, Pl => if (rcb Ap b 8 0 Pl).1 then (b, (rcb Ap b 8 0 Pl).2) else rfw Ap j (b + 1) (rcb Ap b 8 0 Pl).2
theorem pfw_rfw {Ap : Nat → Int32} : ∀ {j b : Nat} {P P' : Nat → Int32}, b + j = 8 → (pfw Ap j b P).1 = (rfw Ap j b P').1 ∧ ∀ o, o < 8 → (pfw Ap j b P).2 o = (rfw Ap j b P').2 o
  | 0, b, P, P', hb => by
    have hb : b = 8 := by omega
    subst hb
    have h := plf_rcb (Ap := Ap) (bx := 8) (by omega) (m := 8) (l := 0) (u := 0) (P := P) (P' := P') (fun o ho => absurd ho (Nat.not_lt_zero o)) (by omega) (fun o ho => absurd ho (Nat.not_lt_zero o))
    exact ⟨rfl, fun o ho => h.2 rcb_8 o (by omega)⟩
  | j + 1, b, P, P', hb => by
    have h := plf_rcb (Ap := Ap) (bx := b) (by omega) (m := 8) (l := 0) (u := 0) (P := P) (P' := P') (fun o ho => absurd ho (Nat.not_lt_zero o)) (by omega) (fun o ho => absurd ho (Nat.not_lt_zero o))
    have e1 : pfw Ap (j + 1) b P = if (plf Ap b 8 0 0 P).1 then (b, (plf Ap b 8 0 0 P).2) else pfw Ap j (b + 1) (plf Ap b 8 0 0 P).2 := rfl
    have e2 : rfw Ap (j + 1) b P' = if (rcb Ap b 8 0 P').1 then (b, (rcb Ap b 8 0 P').2) else rfw Ap j (b + 1) (rcb Ap b 8 0 P').2 := rfl
    rw [e1, e2, h.1]
    cases hc : (rcb Ap b 8 0 P').1 with
    | true =>
      rw [if_pos rfl, if_pos rfl]
      exact ⟨rfl, fun o ho => h.2 hc o (by omega)⟩
    | false =>
      rw [if_neg (by decide), if_neg (by decide)]
      exact pfw_rfw (by omega)
section
variable {sa : g_SA} {sc : Nat × Nat × (Nat → Int32)} {xt : Nat → Nat → List Value → tm_H → Option (Option Value × tm_H)} {d m : Nat} {h : tm_H} {Q : Option Value → tm_H → Prop} {I : Nat → Int32} {rd : Value} {ru : Nat} {C : Nat → tm_E}
theorem mst_s {Pl : Nat → Int32} {a b : Int32} {o : Nat} : mst Pl a b (o + 1) 0 = (mst Pl a b o 0 && !(decide ((a >>> (nI o &&& 31)) &&& 1 = 1) && decide (Pl o = b))) := by
  rw [Bool.eq_iff_iff, Bool.and_eq_true, mst_all, mst_all]
  constructor
  · intro h
    refine ⟨fun q h1 h2 => h q h1 (by omega), ?_⟩
    have := h o (Nat.zero_le _) (by omega)
    by_cases c : Pl o = b
    · rw [decide_eq_false (this c), Bool.false_and]; rfl
    · rw [decide_eq_false c, Bool.and_false]; rfl
  · rintro ⟨h1, h2⟩ q q1 q2 q3
    by_cases e : q = o
    · subst e
      intro c
      rw [decide_eq_true c, decide_eq_true q3] at h2
      cases h2
    · exact h1 q q1 (by omega) q3
theorem r_canBox {Ap : Nat → Int32} {bx : Nat} (hbx : bx ≤ 8) (h18 : C 18 = .inl (0, 8, .inl Ap)) : ∀ (k l : Nat) (d : Nat) (Pl : Nat → Int32) (Q : Option Value → tm_H → Prop), l + k = 8 → (tm_D (g_G sa sc xt) (d + k + 1) 253 [.ref m, .int (nI l), .int (nI bx)] (mh h m I rd ru (cup C 19 (.inl (0, 8, .inl Pl)))) Q ↔ Q (some (.int (bI (rcb Ap bx k l Pl).1))) (mh h m I rd ru (cup C 19 (.inl (0, 8, .inl (rcb Ap bx k l Pl).2))))) := by
  intro k
  induction k with
  | zero =>
    intro l d Pl Q hl
    have hl : l = 8 := by omega
    subst hl
    rw [e_253]
    simp only [s_253_0, s_253_1, s_253_3, s_253_6, s_253_7, s_253_8, s_253_9, s_253_11, s_253_12, s_253_15, s_253_16, s_253_18, s_253_19, s_253_23, s_253_24, s_253_27, s_253_29, s_253_32, s_253_33, s_253_36, s_253_37, s_253_38, s_253_40, s_253_43, s_253_46, s_253_47, s_253_50, s_253_52, s_253_53, s_253_54, s_253_57, s_253_58, s_253_61, s_253_62, s_253_64, s_253_67, s_253_70, s_253_72, s_253_75, s_253_78, s_253_79, s_253_82, s_253_83, s_253_84, s_253_85, s_253_86, s_253_87, s_253_88, s_253_89, s_253_90, s_253_93, s_253_96, s_253_97, s_253_98, s_253_101, s_253_104, s_253_105, x_get_i, List.getElem?_cons_succ, List.getElem?_cons_zero, x_cv_j, cs_n, cs_i, cs_r, cs_l, Nat.reduceAdd, Nat.reduceLeDiff, true_and, Option.toList_some, Option.toList_none, List.cons_append, List.nil_append, if_true, if_false, nb0, nb1, x_setJ, x_setZ0, x_setZ1, x_setA, x_setO, List.length_cons, List.length_nil, Nat.reduceLT, List.set_cons_succ, List.set_cons_zero, wrl_0, wrl_1, wrl_2, wrl_3, wrl_4, wrl_5, wrl_p0, wrl_p1, wrl_p2, wrl_p3, wrl_p4, mh_o, mh_po, mcv, mg_0, mg_1, mg_2, mg_3, mg_4, mg_5, mg_6, mg_7, mg_8, mg_9, mg_10, mg_11, mg_12, mg_13, mg_14, mg_15, mg_16, mg_17, mg_18, mg_19, mg_20, mg_21, mg_22, mg_23, mg_24, mg_25, mg_26, mg_27, mg_28, mg_29, mg_30, mg_31, mg_32, mg_33, mg_34, mg_35, mg_36, mg_37, mg_38, mg_39, mg_40, mg_41, mg_42, mg_43, mg_44, mg_45, mg_46, ms_1, ms_4, ms_6, ms_7, ms_9, ms_10, ms_11, ms_12, ms_16, ms_20, ms_24, ms_28, ms_35, ms_39, ms_42, ms_43, ms_17t, ms_17f, ms_8, ms_14, mc_1, mp_1, mc_2, mp_2, mc_3, mp_3, mc_4, mp_4, mc_5, mp_5, mc_6, mp_6, mc_7, mp_7, mc_8, mp_8, mc_9, mp_9, mc_10, mp_10, mc_11, mp_11, mc_12, mp_12, mc_13, mp_13, mc_14, mp_14, mc_15, mp_15, mc_16, mp_16, mc_17, mp_17, mc_18, mp_18, mc_19, mp_19, mc_20, mp_20, mc_21, mp_21, mc_22, mp_22, mc_23, mp_23, mc_24, mp_24, mc_25, mp_25, mc_26, mp_26, mc_27, mp_27, mc_28, mp_28, mc_29, mp_29, iu, cup, Nat.reduceEqDiff, show nI 8 = (8 : Int32) from rfl]
    exact Iff.rfl
  | succ k ihk =>
    intro l d Pl Q hl
    have hl8 : l < 8 := by omega
    have c18 : ∀ e, (cup C 19 e) 18 = .inl (0, 8, .inl Ap) := fun e => (if_neg (by decide)).trans h18
    have loop : ∀ (j b : Nat) (Pl : Nat → Int32) (x4 x5 : Value), b + j = bx → (tm_X (g_G sa sc xt) (d + (k + 1) + 1) 253 10 [.ref m, .int (nI l), .int (nI bx), .int (nI b), x4, x5] [] (mh h m I rd ru (cup C 19 (.inl (0, 8, .inl Pl)))) Q ↔ Q (some (.int (bI (plo (fun _ => rcb Ap bx k (l + 1)) (Ap l) l 0 j b Pl).1))) (mh h m I rd ru (cup C 19 (.inl (0, 8, .inl (plo (fun _ => rcb Ap bx k (l + 1)) (Ap l) l 0 j b Pl).2))))) := by
      intro j
      induction j with
      | zero =>
        intro b Pl x4 x5 hb
        have hb : b = bx := by omega
        subst hb
        rw [s_253_10]
        simp only [s_253_0, s_253_1, s_253_3, s_253_6, s_253_7, s_253_8, s_253_9, s_253_11, s_253_12, s_253_15, s_253_16, s_253_18, s_253_19, s_253_23, s_253_24, s_253_27, s_253_29, s_253_32, s_253_33, s_253_36, s_253_37, s_253_38, s_253_40, s_253_43, s_253_46, s_253_47, s_253_50, s_253_52, s_253_53, s_253_54, s_253_57, s_253_58, s_253_61, s_253_62, s_253_64, s_253_67, s_253_70, s_253_72, s_253_75, s_253_78, s_253_79, s_253_82, s_253_83, s_253_84, s_253_85, s_253_86, s_253_87, s_253_88, s_253_89, s_253_90, s_253_93, s_253_96, s_253_97, s_253_98, s_253_101, s_253_104, s_253_105, x_get_i, List.getElem?_cons_succ, List.getElem?_cons_zero, x_cv_j, cs_n, cs_i, cs_r, cs_l, Nat.reduceAdd, Nat.reduceLeDiff, true_and, Option.toList_some, Option.toList_none, List.cons_append, List.nil_append, if_true, if_false, nb0, nb1, x_setJ, x_setZ0, x_setZ1, x_setA, x_setO, List.length_cons, List.length_nil, Nat.reduceLT, List.set_cons_succ, List.set_cons_zero, wrl_0, wrl_1, wrl_2, wrl_3, wrl_4, wrl_5, wrl_p0, wrl_p1, wrl_p2, wrl_p3, wrl_p4, mh_o, mh_po, mcv, mg_0, mg_1, mg_2, mg_3, mg_4, mg_5, mg_6, mg_7, mg_8, mg_9, mg_10, mg_11, mg_12, mg_13, mg_14, mg_15, mg_16, mg_17, mg_18, mg_19, mg_20, mg_21, mg_22, mg_23, mg_24, mg_25, mg_26, mg_27, mg_28, mg_29, mg_30, mg_31, mg_32, mg_33, mg_34, mg_35, mg_36, mg_37, mg_38, mg_39, mg_40, mg_41, mg_42, mg_43, mg_44, mg_45, mg_46, ms_1, ms_4, ms_6, ms_7, ms_9, ms_10, ms_11, ms_12, ms_16, ms_20, ms_24, ms_28, ms_35, ms_39, ms_42, ms_43, ms_17t, ms_17f, ms_8, ms_14, mc_1, mp_1, mc_2, mp_2, mc_3, mp_3, mc_4, mp_4, mc_5, mp_5, mc_6, mp_6, mc_7, mp_7, mc_8, mp_8, mc_9, mp_9, mc_10, mp_10, mc_11, mp_11, mc_12, mp_12, mc_13, mp_13, mc_14, mp_14, mc_15, mp_15, mc_16, mp_16, mc_17, mp_17, mc_18, mp_18, mc_19, mp_19, mc_20, mp_20, mc_21, mp_21, mc_22, mp_22, mc_23, mp_23, mc_24, mp_24, mc_25, mp_25, mc_26, mp_26, mc_27, mp_27, mc_28, mp_28, mc_29, mp_29, iu, cup, Nat.reduceEqDiff, Int32.le_refl]
        exact Iff.rfl
      | succ j ih =>
        intro b Pl x4 x5 hb
        have inner : ∀ (r o : Nat), o + r = l → (tm_X (g_G sa sc xt) (d + (k + 1) + 1) 253 21 [.ref m, .int (nI l), .int (nI bx), .int (nI b), .int (bI (mst Pl (Ap l) (nI b) o 0)), .int (nI o)] [] (mh h m I rd ru (cup C 19 (.inl (0, 8, .inl Pl)))) Q ↔ tm_X (g_G sa sc xt) (d + (k + 1) + 1) 253 70 [.ref m, .int (nI l), .int (nI bx), .int (nI b), .int (bI (mst Pl (Ap l) (nI b) l 0)), .int (nI l)] [] (mh h m I rd ru (cup C 19 (.inl (0, 8, .inl Pl)))) Q) := by
          intro r
          induction r with
          | zero =>
            intro o ho
            have ho : o = l := by omega
            subst ho
            rw [s_253_21]
            simp only [s_253_23, s_253_24, Int32.le_refl, if_true]
          | succ r ihr =>
            intro o ho
            have o8 : o < 8 := by omega
            have ihr := ihr (o + 1) (by omega)
            rw [mst_s] at ihr
            rw [s_253_21]
            refine Iff.trans ?_ ihr
            clear ihr
            simp only [s_253_23, s_253_24, s_253_27, s_253_29, s_253_32, s_253_33, s_253_36, s_253_37, s_253_38, s_253_40, s_253_43, s_253_46, s_253_47, s_253_50, s_253_52, s_253_53, s_253_54, s_253_57, s_253_58, s_253_61, s_253_62, s_253_64, s_253_67, x_get_i, List.getElem?_cons_succ, List.getElem?_cons_zero, x_cv_j, cs_n, cs_i, cs_r, cs_l, Nat.reduceAdd, Nat.reduceLeDiff, true_and, Option.toList_some, Option.toList_none, List.cons_append, List.nil_append, if_true, if_false, nb0, nb1, x_setJ, x_setZ0, x_setZ1, x_setA, x_setO, List.length_cons, List.length_nil, Nat.reduceLT, List.set_cons_succ, List.set_cons_zero, wrl_0, wrl_1, wrl_2, wrl_3, wrl_4, wrl_5, wrl_p0, wrl_p1, wrl_p2, wrl_p3, wrl_p4, mh_o, mh_po, mcv, mg_0, mg_1, mg_2, mg_3, mg_4, mg_5, mg_6, mg_7, mg_8, mg_9, mg_10, mg_11, mg_12, mg_13, mg_14, mg_15, mg_16, mg_17, mg_18, mg_19, mg_20, mg_21, mg_22, mg_23, mg_24, mg_25, mg_26, mg_27, mg_28, mg_29, mg_30, mg_31, mg_32, mg_33, mg_34, mg_35, mg_36, mg_37, mg_38, mg_39, mg_40, mg_41, mg_42, mg_43, mg_44, mg_45, mg_46, ms_1, ms_4, ms_6, ms_7, ms_9, ms_10, ms_11, ms_12, ms_16, ms_20, ms_24, ms_28, ms_35, ms_39, ms_42, ms_43, ms_17t, ms_17f, ms_8, ms_14, mc_1, mp_1, mc_2, mp_2, mc_3, mp_3, mc_4, mp_4, mc_5, mp_5, mc_6, mp_6, mc_7, mp_7, mc_8, mp_8, mc_9, mp_9, mc_10, mp_10, mc_11, mp_11, mc_12, mp_12, mc_13, mp_13, mc_14, mp_14, mc_15, mp_15, mc_16, mp_16, mc_17, mp_17, mc_18, mp_18, mc_19, mp_19, mc_20, mp_20, mc_21, mp_21, mc_22, mp_22, mc_23, mp_23, mc_24, mp_24, mc_25, mp_25, mc_26, mp_26, mc_27, mp_27, mc_28, mp_28, mc_29, mp_29, iu, cup, Nat.reduceEqDiff, show ¬ nI l ≤ nI o from nI_ge (by omega) (by omega), h18, x_ild_n hl8 n8, x_ild_n o8 n8, r_has, nI_1, if_false]
            cases hm : mst Pl (Ap l) (nI b) o 0 with
            | false =>
              simp only [show bI false = 0 by decide, if_true, Bool.false_and]
            | true =>
              simp only [show ¬ bI true = 0 by decide, if_false, Bool.true_and]
              by_cases c1 : (Ap l >>> (nI o &&& 31)) &&& 1 = 1
              · by_cases c2 : Pl o = nI b
                · simp only [c1, c2, if_true, show ¬ (1 : Int32) = 0 by decide, if_false, decide_true, Bool.and_self, Bool.not_true, show bI false = 0 by decide]
                · simp only [c1, c2, if_true, show ¬ (1 : Int32) = 0 by decide, if_false, decide_true, decide_false, Bool.and_false, Bool.not_false, show bI true = 1 by decide]
              · simp only [c1, if_true, if_false, decide_false, Bool.false_and, Bool.not_false, show bI true = 1 by decide]
        rw [s_253_10]
        simp only [s_253_11, s_253_12, s_253_15, s_253_16, s_253_18, s_253_19, show ¬ nI bx ≤ nI b from nI_ge (by omega) (by omega), if_false]
        refine (inner l 0 (by omega)).trans ?_
        unfold plo
        cases hm : mst Pl (Ap l) (nI b) l 0 with
        | false =>
          simp only [s_253_0, s_253_1, s_253_3, s_253_6, s_253_7, s_253_8, s_253_9, s_253_11, s_253_12, s_253_15, s_253_16, s_253_18, s_253_19, s_253_23, s_253_24, s_253_27, s_253_29, s_253_32, s_253_33, s_253_36, s_253_37, s_253_38, s_253_40, s_253_43, s_253_46, s_253_47, s_253_50, s_253_52, s_253_53, s_253_54, s_253_57, s_253_58, s_253_61, s_253_62, s_253_64, s_253_67, s_253_70, s_253_72, s_253_75, s_253_78, s_253_79, s_253_82, s_253_83, s_253_84, s_253_85, s_253_86, s_253_87, s_253_88, s_253_89, s_253_90, s_253_93, s_253_96, s_253_97, s_253_98, s_253_101, s_253_104, s_253_105, show bI false = 0 by decide, not_true_eq_false, if_true, Bool.false_eq_true, if_false, nI_1]
          exact ih (b + 1) Pl _ _ (by omega)
        | true =>
          simp only [s_253_0, s_253_1, s_253_3, s_253_6, s_253_7, s_253_8, s_253_9, s_253_11, s_253_12, s_253_15, s_253_16, s_253_18, s_253_19, s_253_23, s_253_24, s_253_27, s_253_29, s_253_32, s_253_33, s_253_36, s_253_37, s_253_38, s_253_40, s_253_43, s_253_46, s_253_47, s_253_50, s_253_52, s_253_53, s_253_54, s_253_57, s_253_58, s_253_61, s_253_62, s_253_64, s_253_67, s_253_70, s_253_72, s_253_75, s_253_78, s_253_79, s_253_82, s_253_83, s_253_84, s_253_85, s_253_86, s_253_87, s_253_88, s_253_89, s_253_90, s_253_93, s_253_96, s_253_97, s_253_98, s_253_101, s_253_104, s_253_105, x_get_i, List.getElem?_cons_succ, List.getElem?_cons_zero, x_cv_j, cs_n, cs_i, cs_r, cs_l, Nat.reduceAdd, Nat.reduceLeDiff, true_and, Option.toList_some, Option.toList_none, List.cons_append, List.nil_append, if_true, if_false, nb0, nb1, x_setJ, x_setZ0, x_setZ1, x_setA, x_setO, List.length_cons, List.length_nil, Nat.reduceLT, List.set_cons_succ, List.set_cons_zero, wrl_0, wrl_1, wrl_2, wrl_3, wrl_4, wrl_5, wrl_p0, wrl_p1, wrl_p2, wrl_p3, wrl_p4, mh_o, mh_po, mcv, mg_0, mg_1, mg_2, mg_3, mg_4, mg_5, mg_6, mg_7, mg_8, mg_9, mg_10, mg_11, mg_12, mg_13, mg_14, mg_15, mg_16, mg_17, mg_18, mg_19, mg_20, mg_21, mg_22, mg_23, mg_24, mg_25, mg_26, mg_27, mg_28, mg_29, mg_30, mg_31, mg_32, mg_33, mg_34, mg_35, mg_36, mg_37, mg_38, mg_39, mg_40, mg_41, mg_42, mg_43, mg_44, mg_45, mg_46, ms_1, ms_4, ms_6, ms_7, ms_9, ms_10, ms_11, ms_12, ms_16, ms_20, ms_24, ms_28, ms_35, ms_39, ms_42, ms_43, ms_17t, ms_17f, ms_8, ms_14, mc_1, mp_1, mc_2, mp_2, mc_3, mp_3, mc_4, mp_4, mc_5, mp_5, mc_6, mp_6, mc_7, mp_7, mc_8, mp_8, mc_9, mp_9, mc_10, mp_10, mc_11, mp_11, mc_12, mp_12, mc_13, mp_13, mc_14, mp_14, mc_15, mp_15, mc_16, mp_16, mc_17, mp_17, mc_18, mp_18, mc_19, mp_19, mc_20, mp_20, mc_21, mp_21, mc_22, mp_22, mc_23, mp_23, mc_24, mp_24, mc_25, mp_25, mc_26, mp_26, mc_27, mp_27, mc_28, mp_28, mc_29, mp_29, iu, cup, Nat.reduceEqDiff, show ¬ bI true = 0 by decide, not_false_eq_true, if_false, if_true, x_ist_n hl8 n8, cup_cup, nI_1]
          have hr := ihk (l + 1) d (upd Pl l (nI b)) (fun r h' => tm_X (g_G sa sc xt) (d + (k + 1) + 1) 253 93 [.ref m, .int (nI l), .int (nI bx), .int (nI b), .int (bI true), .int (nI l)] (r.toList ++ []) h' Q) (by omega)
          refine hr.trans ?_
          cases hp : (rcb Ap bx k (l + 1) (upd Pl l (nI b))).1 with
          | true =>
            simp only [s_253_0, s_253_1, s_253_3, s_253_6, s_253_7, s_253_8, s_253_9, s_253_11, s_253_12, s_253_15, s_253_16, s_253_18, s_253_19, s_253_23, s_253_24, s_253_27, s_253_29, s_253_32, s_253_33, s_253_36, s_253_37, s_253_38, s_253_40, s_253_43, s_253_46, s_253_47, s_253_50, s_253_52, s_253_53, s_253_54, s_253_57, s_253_58, s_253_61, s_253_62, s_253_64, s_253_67, s_253_70, s_253_72, s_253_75, s_253_78, s_253_79, s_253_82, s_253_83, s_253_84, s_253_85, s_253_86, s_253_87, s_253_88, s_253_89, s_253_90, s_253_93, s_253_96, s_253_97, s_253_98, s_253_101, s_253_104, s_253_105, x_get_i, List.getElem?_cons_succ, List.getElem?_cons_zero, x_cv_j, cs_n, cs_i, cs_r, cs_l, Nat.reduceAdd, Nat.reduceLeDiff, true_and, Option.toList_some, Option.toList_none, List.cons_append, List.nil_append, if_true, if_false, nb0, nb1, x_setJ, x_setZ0, x_setZ1, x_setA, x_setO, List.length_cons, List.length_nil, Nat.reduceLT, List.set_cons_succ, List.set_cons_zero, wrl_0, wrl_1, wrl_2, wrl_3, wrl_4, wrl_5, wrl_p0, wrl_p1, wrl_p2, wrl_p3, wrl_p4, mh_o, mh_po, mcv, mg_0, mg_1, mg_2, mg_3, mg_4, mg_5, mg_6, mg_7, mg_8, mg_9, mg_10, mg_11, mg_12, mg_13, mg_14, mg_15, mg_16, mg_17, mg_18, mg_19, mg_20, mg_21, mg_22, mg_23, mg_24, mg_25, mg_26, mg_27, mg_28, mg_29, mg_30, mg_31, mg_32, mg_33, mg_34, mg_35, mg_36, mg_37, mg_38, mg_39, mg_40, mg_41, mg_42, mg_43, mg_44, mg_45, mg_46, ms_1, ms_4, ms_6, ms_7, ms_9, ms_10, ms_11, ms_12, ms_16, ms_20, ms_24, ms_28, ms_35, ms_39, ms_42, ms_43, ms_17t, ms_17f, ms_8, ms_14, mc_1, mp_1, mc_2, mp_2, mc_3, mp_3, mc_4, mp_4, mc_5, mp_5, mc_6, mp_6, mc_7, mp_7, mc_8, mp_8, mc_9, mp_9, mc_10, mp_10, mc_11, mp_11, mc_12, mp_12, mc_13, mp_13, mc_14, mp_14, mc_15, mp_15, mc_16, mp_16, mc_17, mp_17, mc_18, mp_18, mc_19, mp_19, mc_20, mp_20, mc_21, mp_21, mc_22, mp_22, mc_23, mp_23, mc_24, mp_24, mc_25, mp_25, mc_26, mp_26, mc_27, mp_27, mc_28, mp_28, mc_29, mp_29, iu, cup, Nat.reduceEqDiff, show ¬ bI true = 0 by decide, if_false, if_true]
            rw [hp]
            exact Iff.rfl
          | false =>
            simp only [s_253_0, s_253_1, s_253_3, s_253_6, s_253_7, s_253_8, s_253_9, s_253_11, s_253_12, s_253_15, s_253_16, s_253_18, s_253_19, s_253_23, s_253_24, s_253_27, s_253_29, s_253_32, s_253_33, s_253_36, s_253_37, s_253_38, s_253_40, s_253_43, s_253_46, s_253_47, s_253_50, s_253_52, s_253_53, s_253_54, s_253_57, s_253_58, s_253_61, s_253_62, s_253_64, s_253_67, s_253_70, s_253_72, s_253_75, s_253_78, s_253_79, s_253_82, s_253_83, s_253_84, s_253_85, s_253_86, s_253_87, s_253_88, s_253_89, s_253_90, s_253_93, s_253_96, s_253_97, s_253_98, s_253_101, s_253_104, s_253_105, x_get_i, List.getElem?_cons_succ, List.getElem?_cons_zero, x_cv_j, cs_n, cs_i, cs_r, cs_l, Nat.reduceAdd, Nat.reduceLeDiff, true_and, Option.toList_some, Option.toList_none, List.cons_append, List.nil_append, if_true, if_false, nb0, nb1, x_setJ, x_setZ0, x_setZ1, x_setA, x_setO, List.length_cons, List.length_nil, Nat.reduceLT, List.set_cons_succ, List.set_cons_zero, wrl_0, wrl_1, wrl_2, wrl_3, wrl_4, wrl_5, wrl_p0, wrl_p1, wrl_p2, wrl_p3, wrl_p4, mh_o, mh_po, mcv, mg_0, mg_1, mg_2, mg_3, mg_4, mg_5, mg_6, mg_7, mg_8, mg_9, mg_10, mg_11, mg_12, mg_13, mg_14, mg_15, mg_16, mg_17, mg_18, mg_19, mg_20, mg_21, mg_22, mg_23, mg_24, mg_25, mg_26, mg_27, mg_28, mg_29, mg_30, mg_31, mg_32, mg_33, mg_34, mg_35, mg_36, mg_37, mg_38, mg_39, mg_40, mg_41, mg_42, mg_43, mg_44, mg_45, mg_46, ms_1, ms_4, ms_6, ms_7, ms_9, ms_10, ms_11, ms_12, ms_16, ms_20, ms_24, ms_28, ms_35, ms_39, ms_42, ms_43, ms_17t, ms_17f, ms_8, ms_14, mc_1, mp_1, mc_2, mp_2, mc_3, mp_3, mc_4, mp_4, mc_5, mp_5, mc_6, mp_6, mc_7, mp_7, mc_8, mp_8, mc_9, mp_9, mc_10, mp_10, mc_11, mp_11, mc_12, mp_12, mc_13, mp_13, mc_14, mp_14, mc_15, mp_15, mc_16, mp_16, mc_17, mp_17, mc_18, mp_18, mc_19, mp_19, mc_20, mp_20, mc_21, mp_21, mc_22, mp_22, mc_23, mp_23, mc_24, mp_24, mc_25, mp_25, mc_26, mp_26, mc_27, mp_27, mc_28, mp_28, mc_29, mp_29, iu, cup, Nat.reduceEqDiff, show bI false = 0 by decide, if_true, Bool.false_eq_true, if_false, nI_1]
            exact ih (b + 1) _ _ _ (by omega)
    have hne : ¬ nI l = (8 : Int32) := fun q => by
      have := (nI_eq (b := 8) (by omega) (by decide)).mp q
      omega
    rw [e_253]
    simp only [s_253_0, s_253_1, s_253_3, s_253_6, s_253_7, s_253_8, s_253_9, s_253_11, s_253_12, s_253_15, s_253_16, s_253_18, s_253_19, s_253_23, s_253_24, s_253_27, s_253_29, s_253_32, s_253_33, s_253_36, s_253_37, s_253_38, s_253_40, s_253_43, s_253_46, s_253_47, s_253_50, s_253_52, s_253_53, s_253_54, s_253_57, s_253_58, s_253_61, s_253_62, s_253_64, s_253_67, s_253_70, s_253_72, s_253_75, s_253_78, s_253_79, s_253_82, s_253_83, s_253_84, s_253_85, s_253_86, s_253_87, s_253_88, s_253_89, s_253_90, s_253_93, s_253_96, s_253_97, s_253_98, s_253_101, s_253_104, s_253_105, x_get_i, List.getElem?_cons_succ, List.getElem?_cons_zero, x_cv_j, cs_n, cs_i, cs_r, cs_l, Nat.reduceAdd, Nat.reduceLeDiff, true_and, Option.toList_some, Option.toList_none, List.cons_append, List.nil_append, if_true, if_false, nb0, nb1, x_setJ, x_setZ0, x_setZ1, x_setA, x_setO, List.length_cons, List.length_nil, Nat.reduceLT, List.set_cons_succ, List.set_cons_zero, wrl_0, wrl_1, wrl_2, wrl_3, wrl_4, wrl_5, wrl_p0, wrl_p1, wrl_p2, wrl_p3, wrl_p4, mh_o, mh_po, mcv, mg_0, mg_1, mg_2, mg_3, mg_4, mg_5, mg_6, mg_7, mg_8, mg_9, mg_10, mg_11, mg_12, mg_13, mg_14, mg_15, mg_16, mg_17, mg_18, mg_19, mg_20, mg_21, mg_22, mg_23, mg_24, mg_25, mg_26, mg_27, mg_28, mg_29, mg_30, mg_31, mg_32, mg_33, mg_34, mg_35, mg_36, mg_37, mg_38, mg_39, mg_40, mg_41, mg_42, mg_43, mg_44, mg_45, mg_46, ms_1, ms_4, ms_6, ms_7, ms_9, ms_10, ms_11, ms_12, ms_16, ms_20, ms_24, ms_28, ms_35, ms_39, ms_42, ms_43, ms_17t, ms_17f, ms_8, ms_14, mc_1, mp_1, mc_2, mp_2, mc_3, mp_3, mc_4, mp_4, mc_5, mp_5, mc_6, mp_6, mc_7, mp_7, mc_8, mp_8, mc_9, mp_9, mc_10, mp_10, mc_11, mp_11, mc_12, mp_12, mc_13, mp_13, mc_14, mp_14, mc_15, mp_15, mc_16, mp_16, mc_17, mp_17, mc_18, mp_18, mc_19, mp_19, mc_20, mp_20, mc_21, mp_21, mc_22, mp_22, mc_23, mp_23, mc_24, mp_24, mc_25, mp_25, mc_26, mp_26, mc_27, mp_27, mc_28, mp_28, mc_29, mp_29, iu, cup, Nat.reduceEqDiff, hne]
    exact loop bx 0 Pl _ _ (by omega)
end
