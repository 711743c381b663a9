/-! what steps are worth -/
def ev1 (E : Nat → Int32) (p : Int32) (st : List Int32) : List Int32 :=
  if p < 1007 then (if p < 1000 then p else E (p - 1000).toNatClampNeg) :: st
  else if p = 2000 then (match st with
    | [] => []
    | x :: r => (-x) :: r)
  else (match st with
    | y :: x :: r => vop (p - 1007) x y :: r
    | s => s)
def evl (E : Nat → Int32) : List Int32 → List Int32 → List Int32
  | [], st => st
  | p :: cd, st => evl E cd (ev1 E p st)
def evv (E : Nat → Int32) (cd : List Int32) : Int32 := (evl E cd []).headD 0
/-- steps that bring one value -/
def VPr (cd : List Int32) : Prop := ∀ E st, evl E cd st = evv E cd :: st
theorem evl_app {E : Nat → Int32} {c1 c2 : List Int32} : ∀ {st : List Int32}, evl E (c1 ++ c2) st = evl E c2 (evl E c1 st) := by
  induction c1 with
  | nil => intro st; rfl
  | cons p c1 ih => intro st; exact ih
theorem VPr_1 {p : Int32} (h : p < 1007) : VPr [p] := by
  intro E st
  show ev1 E p st = (ev1 E p []).headD 0 :: st
  unfold ev1
  rw [if_pos h, if_pos h]
  rfl
theorem VPr_neg {cd : List Int32} (h : VPr cd) : VPr (cd ++ [2000]) ∧ ∀ E, evv E (cd ++ [2000]) = -(evv E cd) := by
  have hs : ∀ E st, evl E (cd ++ [2000]) st = -(evv E cd) :: st := by
    intro E st
    rw [evl_app, h E st]
    show ev1 E 2000 (evv E cd :: st) = _
    unfold ev1
    rw [if_neg (by decide), if_pos rfl]
  have hv : ∀ E, evv E (cd ++ [2000]) = -(evv E cd) := by
    intro E
    show (evl E (cd ++ [2000]) []).headD 0 = _
    rw [hs]; rfl
  exact ⟨fun E st => by rw [hs, hv], hv⟩
theorem bop_7 {x : Int32} (h : ¬ bop x = 0) : x = 60 ∨ x = 61 ∨ x = 62 ∨ x = 43 ∨ x = 45 ∨ x = 42 ∨ x = 47 := by
  unfold bop at h
  by_cases a1 : x = 60
  · simp [a1]
  by_cases a2 : x = 61
  · simp [a2]
  by_cases a3 : x = 62
  · simp [a3]
  by_cases a4 : x = 43
  · simp [a4]
  by_cases a5 : x = 45
  · simp [a5]
  by_cases a6 : x = 42
  · simp [a6]
  by_cases a7 : x = 47
  · simp [a7]
  simp only [a1, a2, a3, a4, a5, a6, a7, if_false, not_true_eq_false] at h
theorem VPr_op {c1 c2 : List Int32} {x : Int32} (h1 : VPr c1) (h2 : VPr c2) (hx : ¬ bop x = 0) : VPr (c1 ++ c2 ++ [1007 + x]) ∧ ∀ E, evv E (c1 ++ c2 ++ [1007 + x]) = vop x (evv E c1) (evv E c2) := by
  have hq : ¬ 1007 + x < 1007 ∧ ¬ 1007 + x = 2000 ∧ 1007 + x - 1007 = x := by
    rcases bop_7 hx with e | e | e | e | e | e | e <;> subst e <;> decide
  have hs : ∀ E st, evl E (c1 ++ c2 ++ [1007 + x]) st = vop x (evv E c1) (evv E c2) :: st := by
    intro E st
    rw [evl_app, evl_app, h1 E st, h2 E _]
    show ev1 E (1007 + x) (evv E c2 :: evv E c1 :: st) = _
    unfold ev1
    rw [if_neg hq.1, if_neg hq.2.1, hq.2.2]
  have hv : ∀ E, evv E (c1 ++ c2 ++ [1007 + x]) = vop x (evv E c1) (evv E c2) := by
    intro E
    show (evl E (c1 ++ c2 ++ [1007 + x]) []).headD 0 = _
    rw [hs]; rfl
  exact ⟨fun E st => by rw [hs, hv], hv⟩
theorem VPr_ngc {cd : List Int32} {k : Nat} (h : VPr cd) : VPr (cd ++ ngc k) := by
  unfold ngc
  split
  · exact (VPr_neg h).1
  · rw [List.append_nil]; exact h
def VPJ (J : Nat → PR) : Prop := ∀ pos q cd, J pos = .inr (q, cd) → VPr cd
theorem thi_lt {x : Int32} (h : ¬ thi x = -1) : 1000 + thi x < 1007 := by
  obtain ⟨i, hi, e⟩ := thi_n h
  rw [e]
  have : ∀ i : Fin 7, (1000 : Int32) + nI i.1 < 1007 := by decide +kernel
  exact this ⟨i, hi⟩
theorem numr_lt {F : Nat → Int32} {n p : Nat} : (numr F n 3 p 0).2 < 1000 := by
  obtain ⟨y, hy, e⟩ := numr_3 (F := F) (n := n) (p := p)
  rw [e]
  exact nI_lt (b := 1000) hy (by decide)
theorem lt_1007 {x : Int32} (h : x < 1000) : x < 1007 := by
  rw [Int32.lt_iff_toInt_lt] at h ⊢
  exact Int.lt_trans h (by decide)
theorem VPJ_pth {F : Nat → Int32} {n : Nat} {inn : Option (Nat → PR)} (hi : ∀ J, inn = some J → VPJ J) : VPJ (pth F n inn) := by
  intro pos q cd e
  unfold pth pt1 at e
  split at e
  · cases e
  split at e
  · rename_i c1
    cases e
    exact VPr_ngc (VPr_1 (thi_lt c1))
  split at e
  · cases e
    exact VPr_ngc (VPr_1 (lt_1007 numr_lt))
  split at e
  · cases inn with
    | none => cases e
    | some J =>
      dsimp only at e
      split at e
      · cases e
      · rename_i q0 cd0 hJ
        split at e
        · cases e
          exact VPr_ngc (hi J rfl _ _ _ hJ)
        · cases e
  · cases e
theorem VPJ_pjl {F : Nat → Int32} {n b : Nat} {rec : Nat → Nat → PR} (hb : 1 ≤ b) (hr : ∀ o, b ≤ o → o ≤ 3 → VPJ (rec o)) : ∀ {j : Nat} {cm : Bool} {p : Nat} {cd : List Int32} {q : Nat} {c : List Int32}, VPr cd → pjl F n b rec j cm p cd = .inr (q, c) → VPr c := by
  intro j
  induction j with
  | zero => intro cm p cd q c h1 e; cases e; exact h1
  | succ j ih =>
    intro cm p cd q c h1 e
    unfold pjl at e
    split at e
    · cases e; exact h1
    split at e
    · cases e; exact h1
    · rename_i c0 c1
      split at e
      · cases e
      · rename_i q0 c2 hq
        have h2 : VPr c2 := hr (bop (F p)) (by omega) bop_3 _ _ _ hq
        exact ih (VPr_op h1 h2 (by omega)).1 e
theorem VPJ_pj {F : Nat → Int32} {n b : Nat} {th : Nat → PR} {rec : Nat → Nat → PR} (hb : 1 ≤ b) (ht : VPJ th) (hr : ∀ o, b ≤ o → o ≤ 3 → VPJ (rec o)) : VPJ (pj F n th b rec) := by
  intro pos q cd e
  unfold pj at e
  split at e
  · cases e
  · rename_i p c0 hp
    exact VPJ_pjl hb hr (ht _ _ _ hp) e
theorem VPJ_J4 {F : Nat → Int32} {n : Nat} {th : Nat → PR} (ht : VPJ th) : VPJ (J4 F n th) := VPJ_pj (by decide) ht (fun o h1 h2 => by omega)
theorem VPJ_J3 {F : Nat → Int32} {n : Nat} {th : Nat → PR} (ht : VPJ th) : VPJ (J3 F n th) := VPJ_pj (by decide) ht (fun o h1 h2 => VPJ_J4 ht)
theorem VPJ_J2 {F : Nat → Int32} {n : Nat} {th : Nat → PR} (ht : VPJ th) : VPJ (J2 F n th) := VPJ_pj (by decide) ht (fun o h1 h2 => by
  split
  · exact VPJ_J4 ht
  · exact VPJ_J3 ht)
theorem VPJ_J1 {F : Nat → Int32} {n : Nat} {th : Nat → PR} (ht : VPJ th) : VPJ (J1 F n th) := VPJ_pj (by decide) ht (fun o h1 h2 => by
  split
  · exact VPJ_J4 ht
  · split
    · exact VPJ_J3 ht
    · exact VPJ_J2 ht)
theorem VPJ_TH {F : Nat → Int32} {n : Nat} : ∀ e, VPJ (TH F n e)
  | 0 => VPJ_pth (fun J h => by cases h)
  | e + 1 => VPJ_pth (fun J h => by cases h; exact VPJ_J1 (VPJ_TH e))
theorem VPr_first : VPr rfirst ∧ ∀ E, evv E rfirst = vop 47 (vop 45 (vop 47 (E 4) (E 3)) (E 0)) 2 := by
  have h : ∀ E st, evl E rfirst st = vop 47 (vop 45 (vop 47 (E 4) (E 3)) (E 0)) 2 :: st := fun E st => rfl
  have hv : ∀ E, evv E rfirst = vop 47 (vop 45 (vop 47 (E 4) (E 3)) (E 0)) 2 := fun E => by
    show (evl E rfirst []).headD 0 = _
    rw [h]; rfl
  exact ⟨fun E st => by rw [h, hv], hv⟩
theorem VPr_rrd {F : Nat → Int32} {c : Nat} {cd : List Int32} (h : rrd F c = .inr cd) : VPr cd := by
  unfold rrd at h
  split at h
  · cases h; exact VPr_first.1
  · split at h
    · cases h
    · rename_i q c0 hq
      split at h
      · cases h
      · split at h
        · cases h
        · cases h
          exact VPJ_J1 (VPJ_TH 4) _ _ _ hq
/-- a stack's numbers, from its bottom -/
def SRt (S : Nat → Int32) (st : List Int32) : Prop := ∀ i x, st.reverse[i]? = some x → S i = x
theorem SRt_push {S : Nat → Int32} {st : List Int32} {v : Int32} (h : SRt S st) : SRt (upd S st.length v) (v :: st) := by
  intro i x hx
  rw [List.reverse_cons] at hx
  unfold upd
  by_cases hi : i = st.length
  · rw [if_pos hi]
    rw [List.getElem?_append_right (by rw [List.length_reverse]; omega), List.length_reverse, hi, Nat.sub_self] at hx
    cases hx; rfl
  · rw [if_neg hi]
    apply h
    by_cases h2 : i < st.length
    · rw [List.getElem?_append_left (by rw [List.length_reverse]; exact h2)] at hx
      exact hx
    · rw [List.getElem?_eq_none (by rw [List.length_append, List.length_reverse]; simp only [List.length_cons, List.length_nil]; omega)] at hx
      cases hx
theorem SRt_tail {S : Nat → Int32} {st : List Int32} {v : Int32} (h : SRt S (v :: st)) : SRt S st ∧ S st.length = v := by
  constructor
  · intro i x hx
    apply h
    rw [List.reverse_cons]
    have hl : i < st.reverse.length := (List.getElem?_eq_some_iff.mp hx).1
    rw [List.getElem?_append_left hl]
    exact hx
  · apply h
    rw [List.reverse_cons, List.getElem?_append_right (by rw [List.length_reverse]; exact Nat.le_refl _), List.length_reverse, Nat.sub_self]
    rfl
theorem vstep_ev {E S : Nat → Int32} {st : List Int32} {p : Int32} (h : SRt S st) (hl : st.length < 40) : ∃ S', vstep E p (S, st.length) = (S', (ev1 E p st).length) ∧ SRt S' (ev1 E p st) := by
  unfold vstep ev1
  by_cases c1 : p < 1007
  · rw [if_pos c1, if_pos c1]
    rw [if_pos hl]
    exact ⟨_, rfl, SRt_push h⟩
  rw [if_neg c1, if_neg c1]
  by_cases c2 : p = 2000
  · rw [if_pos c2, if_pos c2]
    cases st with
    | nil => exact ⟨S, rfl, h⟩
    | cons x r =>
      obtain ⟨h1, h2⟩ := SRt_tail h
      dsimp only
      rw [if_pos (by simp only [List.length_cons]; omega)]
      refine ⟨_, rfl, ?_⟩
      simp only [List.length_cons, Nat.add_sub_cancel]
      rw [h2]
      exact SRt_push h1
  rw [if_neg c2, if_neg c2]
  match st, h, hl with
  | [], h, hl => exact ⟨S, rfl, h⟩
  | [x], h, hl => exact ⟨S, rfl, h⟩
  | y :: x :: r, h, hl =>
    obtain ⟨h1, h2⟩ := SRt_tail h
    obtain ⟨h3, h4⟩ := SRt_tail h1
    dsimp only
    rw [if_pos (by simp only [List.length_cons]; omega)]
    refine ⟨_, rfl, ?_⟩
    simp only [List.length_cons, Nat.add_sub_cancel] at h2 ⊢
    rw [show r.length + 1 + 1 - 2 = r.length by omega, h2, h4]
    exact SRt_push h3
theorem wrc_lt {cd : List Int32} : ∀ {P : Nat → Int32} {z i : Nat}, i < z → wrc P z cd i = P i := by
  induction cd with
  | nil => intro P z i h; rfl
  | cons c cd ih =>
    intro P z i h
    show wrc (upd P z c) (z + 1) cd i = P i
    rw [ih (by omega)]
    unfold upd
    rw [if_neg (by omega)]
theorem wrc_at {cd : List Int32} : ∀ {P : Nat → Int32} {z i : Nat} {x : Int32}, cd[i]? = some x → wrc P z cd (z + i) = x := by
  induction cd with
  | nil => intro P z i x h; cases h
  | cons c cd ih =>
    intro P z i x h
    show wrc (upd P z c) (z + 1) cd (z + i) = x
    cases i with
    | zero =>
      cases h
      rw [wrc_lt (by omega)]
      unfold upd
      rw [if_pos (Nat.add_zero z)]
    | succ i =>
      have := ih (P := upd P z c) (z := z + 1) (i := i) (x := x) h
      rw [show z + (i + 1) = z + 1 + i by omega]
      exact this
theorem ev1_len {E : Nat → Int32} {p : Int32} {st : List Int32} : (ev1 E p st).length ≤ st.length + 1 := by
  unfold ev1
  split
  · exact Nat.le_refl _
  split
  · cases st with
    | nil => exact Nat.zero_le _
    | cons x r => exact Nat.le_succ _
  · split
    · simp only [List.length_cons]; omega
    · omega
theorem vrun_ev {E P K : Nat → Int32} {cd : List Int32} (hl : cd.length ≤ 40) : ∀ j, j ≤ cd.length → ∃ S, vrun E (wrc P 0 cd) K j = (S, (evl E (cd.take j) []).length) ∧ SRt S (evl E (cd.take j) []) ∧ (evl E (cd.take j) []).length ≤ j := by
  intro j
  induction j with
  | zero => intro _; exact ⟨K, rfl, fun i x h => (by cases h), Nat.le_refl _⟩
  | succ j ih =>
    intro hj
    obtain ⟨S, h1, h2, h3⟩ := ih (by omega)
    have es : vrun E (wrc P 0 cd) K (j + 1) = vstep E (wrc P 0 cd j) (vrun E (wrc P 0 cd) K j) := rfl
    have hp : wrc P 0 cd j = cd[j] := by
      have := wrc_at (cd := cd) (P := P) (z := 0) (i := j) (x := cd[j]) (List.getElem?_eq_getElem (by omega))
      rwa [Nat.zero_add] at this
    have ht : cd.take (j + 1) = cd.take j ++ [cd[j]] := by rw [List.take_append_getElem]
    rw [es, hp, h1, ht, evl_app]
    obtain ⟨S', h4, h5⟩ := vstep_ev (E := E) (p := cd[j]) h2 (by omega)
    have h6 := ev1_len (E := E) (p := cd[j]) (st := evl E (cd.take j) [])
    exact ⟨S', h4, h5, by show (ev1 E cd[j] (evl E (cd.take j) [])).length ≤ j + 1; omega⟩
theorem vrun_evv {E P K : Nat → Int32} {cd : List Int32} (hl : cd.length ≤ 40) (hv : VPr cd) : (vrun E (wrc P 0 cd) K cd.length).1 0 = evv E cd := by
  obtain ⟨S, h1, h2, -⟩ := vrun_ev (E := E) (P := P) (K := K) hl cd.length (Nat.le_refl _)
  rw [h1]
  rw [List.take_length, hv E []] at h2
  exact h2 0 _ rfl
/-- steps look at their seven things alone -/
theorem ev1_7 {E F : Nat → Int32} {p : Int32} {st : List Int32} (h : ∀ i, i < 7 → E i = F i) : ev1 E p st = ev1 F p st := by
  unfold ev1
  split
  · rename_i c1
    split
    · rfl
    · rename_i c2
      have q1 : (1000 : Int) ≤ p.toInt := Int32.le_iff_toInt_le.mp (Int32.not_lt.mp c2)
      have q2 : p.toInt < 1007 := Int32.lt_iff_toInt_lt.mp c1
      have : (p - 1000).toNatClampNeg < 7 := by
        have e : (p - 1000).toInt = p.toInt - 1000 := by
          rw [Int32.toInt_sub]
          show (p.toInt - 1000).bmod (2 ^ 32) = _
          rw [Int.bmod_eq_of_le (by omega) (by omega)]
        show (p - 1000).toInt.toNat < 7
        rw [e]
        omega
      rw [h _ this]
  · rfl
theorem ev1_6 {E F : Nat → Int32} {p : Int32} {st : List Int32} (hp : p ≠ 1006) (h : ∀ i, i < 6 → E i = F i) : ev1 E p st = ev1 F p st := by
  unfold ev1
  split
  · rename_i c1
    split
    · rfl
    · rename_i c2
      have q1 : (1000 : Int) ≤ p.toInt := Int32.le_iff_toInt_le.mp (Int32.not_lt.mp c2)
      have q2 : p.toInt < 1007 := Int32.lt_iff_toInt_lt.mp c1
      have q3 : p.toInt ≠ 1006 := fun e => hp (Int32.toInt_inj.mp e)
      have : (p - 1000).toNatClampNeg < 6 := by
        have e : (p - 1000).toInt = p.toInt - 1000 := by
          rw [Int32.toInt_sub]
          show (p.toInt - 1000).bmod (2 ^ 32) = _
          rw [Int.bmod_eq_of_le (by omega) (by omega)]
        show (p - 1000).toInt.toNat < 6
        rw [e]
        omega
      rw [h _ this]
  · rfl
theorem evl_7 {E F : Nat → Int32} (h : ∀ i, i < 7 → E i = F i) : ∀ {cd st : List Int32}, evl E cd st = evl F cd st
  | [], st => rfl
  | p :: cd, st => by
    show evl E cd (ev1 E p st) = evl F cd (ev1 F p st)
    rw [ev1_7 h]
    exact evl_7 h
theorem evl_6 {E F : Nat → Int32} (h : ∀ i, i < 6 → E i = F i) : ∀ {cd st : List Int32}, hsN cd = false → evl E cd st = evl F cd st
  | [], st, _ => rfl
  | p :: cd, st, hq => by
    have h1 : (decide (p = 1006) || hsN cd) = false := hq
    rw [Bool.or_eq_false_iff] at h1
    show evl E cd (ev1 E p st) = evl F cd (ev1 F p st)
    rw [ev1_6 (of_decide_eq_false h1.1) h]
    exact evl_6 h h1.2
theorem evv_7 {cd : List Int32} : V7 (fun E => evv E cd) := fun E F h => by
  show (evl E cd []).headD 0 = (evl F cd []).headD 0
  rw [evl_7 h]
theorem evv_6 {cd : List Int32} (hq : hsN cd = false) : V6 (fun E => evv E cd) := fun E F h => by
  show (evl E cd []).headD 0 = (evl F cd []).headD 0
  rw [evl_6 h hq]
/-- a rule object's shape -/
def RUs (h : tm_H) (r : Nat) : Prop := ∃ (E P K : Nat → Int32) (z : Int32) (hb : Bool) (a e : Int32), ∀ i x, (ruc r E P K z (bI hb) a e)[i]? = some x → h.2.2 (r + i) = x
/-- a rule object that holds steps -/
def RUc (h : tm_H) (r : Nat) (cd : List Int32) : Prop := RU h r (fun E => evv E cd) (bI (hsN cd))
theorem RUc_s {h : tm_H} {r : Nat} {cd : List Int32} (hR : RUc h r cd) : RUs h r := by
  obtain ⟨E, P, K, z, a, e, h1, h2, h3⟩ := hR
  exact ⟨E, P, K, nI z, hsN cd, a, e, h1⟩
theorem RUs_same {h h' : tm_H} {r : Nat} (hh : ∀ q, r ≤ q → q < r + 4 → h'.2.2 q = h.2.2 q) (hR : RUs h r) : RUs h' r := by
  obtain ⟨E, P, K, z, hb, a, e, h1⟩ := hR
  refine ⟨E, P, K, z, hb, a, e, fun i x hx => ?_⟩
  have hl : i < 4 := (List.getElem?_eq_some_iff.mp hx).1
  rw [hh _ (by omega) (by omega)]
  exact h1 i x hx
section
variable {sa : g_SA} {sc : Nat × Nat × (Nat → Int32)} {xt : Nat → Nat → List Value → tm_H → Option (Option Value × tm_H)} {h : tm_H} {r t c d : Nat} {F : Nat → Int32} {Q : Option Value → tm_H → Prop}
theorem ru_readR (hR : RUs h r) (hx : tx_in h t c F) (hTB : TB F) (hc : c ≤ 80) (hSS : SH sa h) (hSo : SHo sa r) (hd : t + 2 ≤ r ∨ r + 4 ≤ t) (hok : ∀ cd h', rrd F c = .inr cd → sm r (r + 4) h h' → RUc h' r cd → Q (some (.int (-1))) h') (hbad : ∀ q h', rrd F c = .inl q → q ≤ 80 → sm r (r + 4) h h' → RUs h' r → Q (some (.int (nI q))) h') : tm_D (g_G sa sc xt) (d + 51) 53 [.ref r, .ref t] h Q := by
  obtain ⟨E, P, K, z, hb, a, e, h1⟩ := hR
  have := wrl_eta h1
  rw [← this]
  refine ru_read hx hTB hc hSS hSo hd (fun cd a' e' h2 h3 => ?_) (fun q P' z' hb' a' e' h2 h3 => ?_)
  · exact hok cd _ h2 (sm_wrl (Nat.le_refl _) (Nat.le_refl _)) ⟨E, wrc P 0 cd, K, cd.length, a', e', fun i x hx => wrl_i hx, h3, fun E K => vrun_evv h3 (VPr_rrd h2)⟩
  · exact hbad q _ h2 h3 (sm_wrl (Nat.le_refl _) (Nat.le_refl _)) ⟨E, P', K, z', hb', a', e', fun i x hx => wrl_i hx⟩
end
