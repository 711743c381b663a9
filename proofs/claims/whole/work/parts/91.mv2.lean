/-! the reference's world: answers are told, a case is changed -/
section
variable {I I' : Nat → Int32} {C C' : Nat → tm_E} {tx tx' : Nat × (Nat → Int32)} {rw rw' : Nat × (Nat → Int64)} {nw nw' : TN} {pa pa' : PA} {cd : List Int32} {he : Nat × (Nat → Int32)} {mi : Nat × (Nat → Int32) × (Nat → Int32) × (Nat → Int32)}
theorem MV.same (h : MV I C tx rw nw pa cd he mi) (hk : KP I I' C C') (ht : I' 4 = I 4) (h3 : C' 3 = C 3) (h6 : I' 6 = I 6) (h4 : C' 4 = C 4) : MV I' C' tx rw nw pa cd he mi := h.to hk (h.1.same ht h3) (h.2.1.same h6 h4)
theorem MV.tell0 {R : Nat → Int64} (h : MV I C tx rw nw pa cd he mi) (hk : KP I I' C C') (ht : I' 4 = I 4) (h3 : C' 3 = C 3) (h6 : I' 6 = 0) (h4 : C' 4 = C 4) : MV I' C' tx (0, R) nw pa cd he mi := by
  obtain ⟨R', hR⟩ : ∃ R', C 4 = .inl (3, 16, .inr (.inl R')) := by obtain ⟨-, -, R', hR, -⟩ := h.2.1; exact ⟨R', hR⟩
  exact h.to hk (h.1.same ht h3) (MVr.mk h6 (h4.trans hR) (Nat.zero_le _) (fun i hi => absurd hi (Nat.not_lt_zero i)))
theorem MV.tell1 {R R' : Nat → Int64} {a : Int64} (h : MV I C tx rw nw pa cd he mi) (hk : KP I I' C C') (ht : I' 4 = I 4) (h3 : C' 3 = C 3) : MV (iu I' 6 (nI 1)) (cup C' 4 (.inl (3, 16, .inr (.inl (vp_updL R' 0 a))))) tx (rw1 R a) nw pa cd he mi := by
  refine h.to ((hk.iu rfl).cn rfl rfl) (h.1.same ht h3) (MVr.mk (if_pos rfl) (if_pos rfl) (by decide) (fun i hi => ?_))
  have : i = 0 := by omega
  subst this
  rfl
theorem MV.tell2 {R R' : Nat → Int64} {a b : Int64} (h : MV I C tx rw nw pa cd he mi) (hk : KP I I' C C') (ht : I' 4 = I 4) (h3 : C' 3 = C 3) : MV (iu I' 6 (nI 2)) (cup C' 4 (.inl (3, 16, .inr (.inl (vp_updL (vp_updL R' 0 a) 1 b))))) tx (rw2 R a b) nw pa cd he mi := by
  refine h.to ((hk.iu rfl).cn rfl rfl) (h.1.same ht h3) (MVr.mk (if_pos rfl) (if_pos rfl) (by decide) (fun i hi => ?_))
  rcases (show i = 0 ∨ i = 1 by omega) with e | e <;> subst e <;> rfl
theorem MV.tell3 {R R' : Nat → Int64} {a b e : Int64} (h : MV I C tx rw nw pa cd he mi) (hk : KP I I' C C') (ht : I' 4 = I 4) (h3 : C' 3 = C 3) : MV (iu I' 6 (nI 3)) (cup C' 4 (.inl (3, 16, .inr (.inl (vp_updL (vp_updL (vp_updL R' 0 a) 1 b) 2 e))))) tx (rw3 R a b e) nw pa cd he mi := by
  refine h.to ((hk.iu rfl).cn rfl rfl) (h.1.same ht h3) (MVr.mk (if_pos rfl) (if_pos rfl) (by decide) (fun i hi => ?_))
  rcases (show i = 0 ∨ i = 1 ∨ i = 2 by omega) with e | e | e <;> subst e <;> rfl
theorem LK.refl {X : TN} : LK X X := ⟨rfl, fun _ _ => rfl⟩
theorem LK.trans {X Y Z : TN} (a : LK X Y) (b : LK Y Z) : LK X Z := ⟨b.1.trans a.1, fun i hi => (b.2 i (by rw [a.1]; exact hi)).trans (a.2 i hi)⟩
theorem LK.symm {X Y : TN} (a : LK X Y) : LK Y X := ⟨a.1.symm, fun i hi => (a.2 i (by rw [← a.1]; exact hi)).symm⟩
theorem MVu.like {X Y : TN} (h : MVu I C X pa) (hl : LK X Y) (h1 : I' 20 = I 20) (h2 : C' 9 = C 9) : MVu I' C' Y pa := by
  obtain ⟨b1, b2, b3, U, b4, b5⟩ := h
  exact ⟨h1.trans b1, b2, b3, U, h2.trans b4, fun k hk => ⟨(b5 k hk).1, hl.symm.trans (b5 k hk).2.1, (b5 k hk).2.2⟩⟩
theorem MVk.like {X Y : TN} (h : MVk I C X pa) (hl : LK X Y) (hp : pa'.2.2.2 = pa.2.2.2) (h1 : I' 43 = I 43) (h2 : C' 27 = C 27) (h3 : C' 28 = C 28) (h4 : C' 29 = C 29) : MVk I' C' Y pa' := by
  obtain ⟨q, K, b, kc, b1, b2, b3, b4, b5, b6⟩ := h
  refine ⟨q, K, b, kc, h1.trans b1, by rw [hl.1]; exact b2, h2.trans b3, h3.trans b4, h4.trans b5, fun i hi => ?_⟩
  rw [hp, hl.1]
  obtain ⟨c1, c2, c3⟩ := b6 i hi
  refine ⟨c1, c2, fun q1 => ?_⟩
  obtain ⟨p, p1, p2, p3, p4, p5⟩ := c3 q1
  exact ⟨p, p1, p2, p3, fun e => hl.symm.trans (p4 e), p5⟩
/-- the sorts have changed, letters apart -/
theorem MV.act {N' : Nat → Int32} (h : MV I C tx rw nw pa cd he mi) (hl : LK nw nw') (hwf : WFX nw') (hz : WZ nw') (hI : ∀ k, kI k = true → k ≠ 20 → I' k = I k) (hC : ∀ j, kC j = true → j ≠ 1 → j ≠ 9 → C' j = C j) (h1 : C' 1 = .inl (0, 38, .inl N')) (hN : RW N' nw') (hu : MVu I' C' nw' pa') (hp : pa'.2.2.2 = pa.2.2.2) (ht : MVt I' C' tx') (hr : MVr I' C' rw') (hx : MX C') : MV I' C' tx' rw' nw' pa' cd he mi := by
  obtain ⟨a1, a2, a3, a4, a5, a6, a7, a8, a9⟩ := h
  refine ⟨ht, hr, ?_, hu, ?_, ?_, ?_, ?_, hx⟩
  · obtain ⟨b1, b2, b3, N, Lm, b4, b5, b6, b7⟩ := a3
    refine ⟨(hI 1 rfl (by decide)).trans (b1.trans (by rw [hl.1])), hwf, hz, N', Lm, h1, (hC 2 rfl (by decide) (by decide)).trans b5, hN, fun i hi => ?_⟩
    rw [hl.1] at hi
    exact (b7 i hi).trans (hl.2 i hi).symm
  · exact a5.like hl hp (hI 43 rfl (by decide)) (hC 27 rfl (by decide) (by decide)) (hC 28 rfl (by decide) (by decide)) (hC 29 rfl (by decide) (by decide))
  · obtain ⟨b0, ⟨T7, F7, b8, b9⟩, rs, T, F, b1, b2, b3, b4⟩ := a6
    exact ⟨(hI 17 rfl (by decide)).trans b0, ⟨T7, F7, (hC 7 rfl (by decide) (by decide)).trans b8, b9⟩, rs, T, F, (hI 16 rfl (by decide)).trans b1, b2, (hC 6 rfl (by decide) (by decide)).trans b3, b4⟩
  · obtain ⟨b1, b2, A, B, b3, b4, b5⟩ := a7
    exact ⟨(hI 35 rfl (by decide)).trans b1, b2, A, B, (hC 20 rfl (by decide) (by decide)).trans b3, (hC 21 rfl (by decide) (by decide)).trans b4, b5⟩
  · obtain ⟨b1, b2, A, B, D, b3, b4, b5, b6⟩ := a8
    exact ⟨(hI 39 rfl (by decide)).trans b1, b2, A, B, D, (hC 22 rfl (by decide) (by decide)).trans b3, (hC 23 rfl (by decide) (by decide)).trans b4, (hC 24 rfl (by decide) (by decide)).trans b5, b6⟩
end
theorem RW_cg {N N' : Nat → Int32} {X : TN} (h : RW N X) (he : ∀ j, j < 38 → N' j = N j) : RW N' X := by
  obtain ⟨h1, h2, h3, h4, h5⟩ := h
  exact ⟨fun i hi => (he i (by omega)).trans (h1 i hi), fun i hi => (he _ (by omega)).trans (h2 i hi), fun i hi => (he _ (by omega)).trans (h3 i hi), (he _ (by decide)).trans h4, (he _ (by decide)).trans h5⟩
/-- one more that can be undone -/
theorem MVu_push {X : TN} {pa : PA} {U N : Nat → Int32} (hu : pa.1 ≤ 12) (hx : pa.2.1 < 12) (hU : ∀ k, k < pa.1 → RW (fun j => U (38 * k + j)) (pa.2.2.1 ((pa.2.1 + 12 - pa.1 + k) % 12)) ∧ LK X (pa.2.2.1 ((pa.2.1 + 12 - pa.1 + k) % 12)) ∧ WFX (pa.2.2.1 ((pa.2.1 + 12 - pa.1 + k) % 12)) ∧ WZ (pa.2.2.1 ((pa.2.1 + 12 - pa.1 + k) % 12))) {Y : TN} (hN : RW N Y) (hl : LK X Y) (hwf : WFX Y) (hz : WZ Y) : rec_ pa.1 = (pap1 pa Y).1 ∧ ∀ k, k < (pap1 pa Y).1 → RW (fun j => rem U pa.1 N (38 * k + j)) ((pap1 pa Y).2.2.1 (((pap1 pa Y).2.1 + 12 - (pap1 pa Y).1 + k) % 12)) ∧ LK X ((pap1 pa Y).2.2.1 (((pap1 pa Y).2.1 + 12 - (pap1 pa Y).1 + k) % 12)) ∧ WFX ((pap1 pa Y).2.2.1 (((pap1 pa Y).2.1 + 12 - (pap1 pa Y).1 + k) % 12)) ∧ WZ ((pap1 pa Y).2.2.1 (((pap1 pa Y).2.1 + 12 - (pap1 pa Y).1 + k) % 12)) := by
  obtain ⟨u, nx, cs, kp, ik⟩ := pa
  dsimp only at hu hx hU ⊢
  by_cases c : u = 12
  · subst c
    refine ⟨rfl, fun k hk => ?_⟩
    have hk : k < 12 := by omega
    have er : rem U 12 N = lyt N (rsh U 418) 418 38 := if_pos rfl
    rw [show min 12 (12 + 1) = 12 from rfl, er]
    by_cases c2 : k = 11
    · subst c2
      rw [if_pos (show ((nx + 1) % 12 + 12 - 12 + 11) % 12 = nx by omega)]
      refine ⟨RW_cg hN (fun j hj => ?_), hl, hwf, hz⟩
      show (if 418 ≤ 38 * 11 + j ∧ 38 * 11 + j < 418 + 38 then N (38 * 11 + j - 418) else _) = _
      rw [if_pos (by omega), show 38 * 11 + j - 418 = j by omega]
    · rw [if_neg (show ¬ ((nx + 1) % 12 + 12 - 12 + k) % 12 = nx by omega)]
      have hq := hU (k + 1) (by omega)
      rw [show (nx + 12 - 12 + (k + 1)) % 12 = ((nx + 1) % 12 + 12 - 12 + k) % 12 by omega] at hq
      refine ⟨RW_cg hq.1 (fun j hj => ?_), hq.2⟩
      show (if 418 ≤ 38 * k + j ∧ 38 * k + j < 418 + 38 then N (38 * k + j - 418) else (if 38 * k + j < 418 then U (38 * k + j + 38) else U (38 * k + j))) = U (38 * (k + 1) + j)
      rw [if_neg (by omega), if_pos (by omega), show 38 * k + j + 38 = 38 * (k + 1) + j by omega]
  · have hmin : min 12 (u + 1) = u + 1 := by omega
    rw [hmin]
    refine ⟨if_neg c, fun k hk => ?_⟩
    have er : rem U u N = lyt N U (38 * u) 38 := if_neg c
    rw [er]
    by_cases c2 : k = u
    · subst c2
      rw [if_pos (show ((nx + 1) % 12 + 12 - (k + 1) + k) % 12 = nx by omega)]
      refine ⟨RW_cg hN (fun j hj => ?_), hl, hwf, hz⟩
      show (if 38 * k ≤ 38 * k + j ∧ 38 * k + j < 38 * k + 38 then N (38 * k + j - 38 * k) else _) = _
      rw [if_pos (by omega), show 38 * k + j - 38 * k = j by omega]
    · rw [if_neg (show ¬ ((nx + 1) % 12 + 12 - (u + 1) + k) % 12 = nx by omega)]
      have hq := hU k (by omega)
      rw [show (nx + 12 - u + k) % 12 = ((nx + 1) % 12 + 12 - (u + 1) + k) % 12 by omega] at hq
      refine ⟨RW_cg hq.1 (fun j hj => ?_), hq.2⟩
      show (if 38 * u ≤ 38 * k + j ∧ 38 * k + j < 38 * u + 38 then N (38 * k + j - 38 * u) else U (38 * k + j)) = U (38 * k + j)
      rw [if_neg (by omega)]
theorem n16 : 16 < 2 ^ 31 := by decide
theorem n76 : 76 < 2 ^ 31 := by decide
theorem n3800 : 3800 < 2 ^ 31 := by decide
/-- is a number between 0 and a bound -/
theorem in0 {v : Int32} {k : Nat} (hk : k < 2 ^ 30) : (if v < 0 then (0 : Int32) else if nI k < v then 0 else 1) = if ∃ j, j ≤ k ∧ v = nI j then 1 else 0 := by
  by_cases c1 : v < 0
  · rw [if_pos c1, if_neg]
    rintro ⟨j, hj, e⟩
    subst e
    exact nI_pos (by omega) c1
  · rw [if_neg c1]
    obtain ⟨j, hj, e⟩ := nI_of c1
    subst e
    by_cases c2 : nI k < nI j
    · rw [if_pos c2, if_neg]
      rintro ⟨i, hi, e⟩
      rw [(nI_eq hj (by omega)).mp e] at c2
      exact nI_nlt hi (by omega) c2
    · rw [if_neg c2, if_pos]
      refine ⟨j, Nat.not_lt.mp (fun q => c2 (nI_lt q hj)), rfl⟩
theorem in0' {v : Int32} {k : Nat} (hk : k < 2 ^ 30) : (v < 0 ∨ nI k < v) ↔ ¬ ∃ j, j ≤ k ∧ v = nI j := by
  have := in0 (v := v) hk
  by_cases c1 : v < 0
  · rw [if_pos c1] at this
    by_cases c : ∃ j, j ≤ k ∧ v = nI j
    · rw [if_pos c] at this; exact absurd this (by decide)
    · exact ⟨fun _ => c, fun _ => Or.inl c1⟩
  · rw [if_neg c1] at this
    by_cases c2 : nI k < v
    · rw [if_pos c2] at this
      by_cases c : ∃ j, j ≤ k ∧ v = nI j
      · rw [if_pos c] at this; exact absurd this (by decide)
      · exact ⟨fun _ => c, fun _ => Or.inr c2⟩
    · rw [if_neg c2] at this
      by_cases c : ∃ j, j ≤ k ∧ v = nI j
      · exact ⟨fun q => (by rcases q with q | q; exact absurd q c1; exact absurd q c2), fun q => absurd c q⟩
      · rw [if_neg c] at this; exact absurd this (by decide)
/-- the row's moods, boxes, wear are the case's -/
theorem mo_cg {M M' : Nat → Int32} {v : Int32} {n : Nat} (h : ∀ i, i < n → M i = M' i) : tc_mo M v n = tc_mo M' v n := by
  unfold tc_mo
  exact fo_congr (fun i hi x => by rw [h i hi])
theorem wh_cg {M M' : Nat → Int32} {v : Int32} {n : Nat} (h : ∀ i, i < n → M i = M' i) : tc_wh M v n = tc_wh M' v n := by
  unfold tc_wh
  exact fo_congr (fun i hi x => by rw [h i hi])
theorem sum_cg {M M' : Nat → Int32} {n : Nat} (h : ∀ i, i < n → M i = M' i) : tc_sum M n = tc_sum M' n := by
  unfold tc_sum
  exact fo_congr (fun i hi x => by rw [h i hi])
theorem home_cg {L L' M M' : Nat → Int32} {n : Nat} (h : ∀ i, i < n → M i = M' i) (hL : ∀ i, i < n → L i = L' i) : tc_home L M n = tc_home L' M' n := by
  unfold tc_home
  exact fo_congr (fun i hi x => by rw [h i hi, hL i hi])
theorem rfr_cg {L L' : Nat → Int32} {s v : Int32} {n : Nat} (hL : ∀ i, i < n → L i = L' i) : rfr L s v n = rfr L' s v n := by
  unfold rfr
  exact fo_congr (fun i hi x => by rw [hL i hi])
section
variable {N : Nat → Int32} {X : TN} {v : Int32}
theorem RW_mo (h : RW N X) (hn : X.2.2.2.2.1 ≤ 12) : tc_mo (rM N) v X.2.2.2.2.1 = tc_mo X.2.2.1 v X.2.2.2.2.1 := mo_cg (fun i hi => h.2.1 i (by omega))
theorem RW_wh (h : RW N X) (hn : X.2.2.2.2.1 ≤ 12) : tc_wh (rB N) v X.2.2.2.2.1 = tc_wh X.2.2.2.1 v X.2.2.2.2.1 := wh_cg (fun i hi => h.2.2.1 i (by omega))
theorem RW_sum (h : RW N X) (hn : X.2.2.2.2.1 ≤ 12) : tc_sum N X.2.2.2.2.1 = tc_sum X.2.1 X.2.2.2.2.1 := sum_cg (fun i hi => h.1 i (by omega))
theorem RW_home {Lm : Nat → Int32} (h : RW N X) (hn : X.2.2.2.2.1 ≤ 12) (hL : ∀ i, i < X.2.2.2.2.1 → Lm i = X.1 i) : tc_home Lm (rB N) X.2.2.2.2.1 = tc_home X.1 X.2.2.2.1 X.2.2.2.2.1 := home_cg (fun i hi => h.2.2.1 i (by omega)) hL
end
/-- of a letter those that are free: both ways -/
theorem rfr_wh {L : Nat → Int32} {s v : Int32} : ∀ n, n ≤ 12 → rfr L s v n = tc_wh L v n &&& (s ^^^ (-1))
  | 0, _ => by
    show (0 : Int32) = 0 &&& (s ^^^ (-1))
    apply bt_ext
    intro i hi
    rw [bt_and, bt_0]; rfl
  | n + 1, hn => by
    have ih := rfr_wh (L := L) (s := s) (v := v) n (by omega)
    have e1 : rfr L s v (n + 1) = rfr L s v n ||| (if L n = v then (if (s >>> (nI n &&& 31)) &&& 1 = 1 then (0 : Int32) else 1 <<< (nI n &&& 31)) else 0) := rfl
    have e2 : tc_wh L v (n + 1) = tc_wh L v n ||| (if L n = v then 1 <<< (nI n &&& 31) else 0) := rfl
    rw [e1, e2, ih]
    apply bt_ext
    intro i hi
    by_cases c : L n = v
    · rw [if_pos c, if_pos c]
      by_cases c2 : (s >>> (nI n &&& 31)) &&& 1 = 1
      · rw [if_pos c2, bt_or, bt_and, bt_0, bt_and, bt_or, bt_one (by omega) hi, bt_not hi]
        have := (bt_sr (by omega)).mp c2
        by_cases e : i = n
        · subst e; rw [this]; simp
        · rw [decide_eq_false e]; simp
      · rw [if_neg c2, bt_or, bt_and, bt_and, bt_or, bt_one (by omega) hi, bt_not hi]
        have h3 : ¬ bt s n = true := fun q => c2 ((bt_sr (by omega)).mpr q)
        by_cases e : i = n
        · subst e
          have h3 : bt s i = false := by cases hb : bt s i with
            | true => exact absurd hb h3
            | false => rfl
          rw [h3]; simp
        · rw [decide_eq_false e]; simp
    · rw [if_neg c, if_neg c, bt_or, bt_and, bt_and, bt_or, bt_0]; simp
