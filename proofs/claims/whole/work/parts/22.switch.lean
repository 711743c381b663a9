/-! switches -/
def x_lw (φ : Int → Prop) (df : Int) (x : Int32) : List (Int × Int) → Prop
  | [] => φ df
  | p :: r => if x = Int32.ofInt p.1 then φ p.2 else x_lw φ df x r
/-- keys one behind the other -/
def x_ky : Int → List Int → List (Int × Int)
  | _, [] => []
  | lo, o :: r => (lo, o) :: x_ky (lo + 1) r
theorem x_key {x : Int32} {a : Int} (ha : -2147483648 ≤ a ∧ a < 2147483648) : x = Int32.ofInt a ↔ a = x.toInt := by
  constructor
  · intro h
    rw [h, Int32.toInt_ofInt_of_le (by show -(2147483648 : Int) ≤ a; omega) (by show a < (2147483648 : Int); omega)]
  · intro h
    rw [h, Int32.ofInt_toInt]
theorem x_lw_off {φ : Int → Prop} {df : Int} {x : Int32} : ∀ {ps : List (Int × Int)}, (∀ p ∈ ps, -2147483648 ≤ p.1 ∧ p.1 < 2147483648) → (φ (Op.lookupswitch.offset ps df x.toInt) ↔ x_lw φ df x ps)
  | [], _ => Iff.rfl
  | (a, o) :: r, h => by
    show φ (if a = x.toInt then o else Op.lookupswitch.offset r df x.toInt) ↔ if x = Int32.ofInt a then φ o else x_lw φ df x r
    have hk := x_key (x := x) (h (a, o) List.mem_cons_self)
    by_cases c : a = x.toInt
    · rw [if_pos c, if_pos (hk.mpr c)]
    · rw [if_neg c, if_neg (fun q => c (hk.mp q))]
      exact x_lw_off (fun p hp => h p (List.mem_cons_of_mem _ hp))
theorem x_lw_tab {φ : Int → Prop} {df : Int} {x : Int32} : ∀ {offs : List Int} {lo : Int}, -2147483648 ≤ lo → lo + offs.length ≤ 2147483648 → ((if x.toInt < lo ∨ lo + offs.length ≤ x.toInt then φ df else ∃ o, offs[(x.toInt - lo).toNat]? = some o ∧ φ o) ↔ x_lw φ df x (x_ky lo offs))
  | [], lo, h1, h2 => by
    rw [if_pos (by simp only [List.length_nil]; omega)]
    exact Iff.rfl
  | o :: r, lo, h1, h2 => by
    simp only [List.length_cons] at h2 ⊢
    have h2' : lo + ((r.length : Int) + 1) ≤ 2147483648 := by
      have := h2
      push_cast at this
      omega
    show _ ↔ if x = Int32.ofInt lo then φ o else x_lw φ df x (x_ky (lo + 1) r)
    have hk := x_key (x := x) (a := lo) ⟨h1, by omega⟩
    have ih := x_lw_tab (φ := φ) (df := df) (x := x) (offs := r) (lo := lo + 1) (by omega) (by omega)
    by_cases c : lo = x.toInt
    · rw [if_pos (hk.mpr c), if_neg (by push_cast; omega)]
      have h0 : (x.toInt - lo).toNat = 0 := by omega
      rw [h0]
      constructor
      · rintro ⟨o', q1, q2⟩
        cases q1
        exact q2
      · exact fun q => ⟨o, rfl, q⟩
    · rw [if_neg (fun q => c (hk.mp q)), ← ih]
      by_cases c2 : x.toInt < lo ∨ lo + ((r.length : Int) + 1) ≤ x.toInt
      · rw [if_pos (by push_cast; omega), if_pos (by omega)]
      · rw [if_neg (by push_cast; omega), if_neg (by omega)]
        have h3 : (x.toInt - lo).toNat = (x.toInt - (lo + 1)).toNat + 1 := by omega
        rw [h3, List.getElem?_cons_succ]
section XR
variable {G : tm_G} {d M pc pc' : Nat} {ls st : List Value} {h : tm_H} {Q : Option Value → tm_H → Prop}
theorem x_lsw_e {x : Int32} {dflt : Int} {ps : Array (Int × Int)} (hs : (ps.toList.zip (ps.toList.drop 1)).all (fun (a, next) => a.1 < next.1) = true) (hb : ps.toList.all (fun p => decide (-2147483648 ≤ p.1 ∧ p.1 < 2147483648)) = true) : tm_Y G d M pc ls h Q (tm_lsw pc' dflt ps ls (.int x :: st) h) ↔ x_lw (fun o => tm_Y G d M pc ls h Q (tm_jmp pc' o ls st h)) dflt x ps.toList := by
  rw [← x_lw_off (fun p hp => of_decide_eq_true (List.all_eq_true.mp hb p hp))]
  unfold tm_lsw
  dsimp only
  rw [if_pos hs]
theorem x_tsw_e {x : Int32} {dflt lo hi : Int} {offs : Array Int} (h1 : -2147483648 ≤ lo) (h2 : hi + 1 = lo + offs.toList.length) (h3 : lo + offs.toList.length ≤ 2147483648) : tm_Y G d M pc ls h Q (tm_tsw pc' dflt lo hi offs ls (.int x :: st) h) ↔ x_lw (fun o => tm_Y G d M pc ls h Q (tm_jmp pc' o ls st h)) dflt x (x_ky lo offs.toList) := by
  rw [← x_lw_tab h1 h3]
  unfold tm_tsw
  dsimp only
  by_cases c : x.toInt < lo ∨ hi < x.toInt
  · rw [if_pos c, if_pos (by omega)]
  · rw [if_neg c, if_neg (by omega)]
    rw [← Array.getElem?_toList]
    cases hq : offs.toList[(x.toInt - lo).toNat]? with
    | none =>
      constructor
      · exact fun q => q.elim
      · rintro ⟨o, q, -⟩
        cases q
    | some o =>
      constructor
      · exact fun q => ⟨o, rfl, q⟩
      · rintro ⟨o', q, q2⟩
        cases q
        exact q2
end XR
