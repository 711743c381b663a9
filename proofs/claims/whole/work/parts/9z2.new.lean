/-! new objects: cells one after another -/
def NW (h : tm_H) (s : Nat) (cs : List tm_E) : tm_H := (h.1 + cs.length, h.2.1 + s, fun q => if h.1 ≤ q then (cs[q - h.1]?).getD (h.2.2 q) else h.2.2 q)
theorem NW_1 {h : tm_H} {s : Nat} {cs : List tm_E} : (NW h s cs).1 = h.1 + cs.length := rfl
theorem NW_nil {h : tm_H} : h = NW h 0 [] := by
  refine tcp_ext rfl rfl (fun q => ?_)
  show h.2.2 q = if h.1 ≤ q then h.2.2 q else h.2.2 q
  split <;> rfl
theorem NW_new {h : tm_H} {s n : Nat} {cs : List tm_E} {e : tm_E} : tm_new (NW h s cs) n e = NW h (s + n) (cs ++ [e]) := by
  refine tcp_ext ?_ ?_ (fun q => ?_)
  · show h.1 + cs.length + 1 = h.1 + (cs ++ [e]).length
    rw [List.length_append, List.length_singleton, Nat.add_assoc]
  · show h.2.1 + s + n = h.2.1 + (s + n)
    omega
  · show (if q = h.1 + cs.length then e else (if h.1 ≤ q then (cs[q - h.1]?).getD (h.2.2 q) else h.2.2 q)) = if h.1 ≤ q then ((cs ++ [e])[q - h.1]?).getD (h.2.2 q) else h.2.2 q
    by_cases c : h.1 ≤ q
    · rw [if_pos c, if_pos c]
      by_cases c2 : q = h.1 + cs.length
      · rw [if_pos c2, show q - h.1 = cs.length by omega, List.getElem?_append_right (Nat.le_refl _), Nat.sub_self]
        rfl
      · rw [if_neg c2]
        by_cases c3 : q - h.1 < cs.length
        · rw [List.getElem?_append_left c3]
        · rw [List.getElem?_eq_none (by omega), List.getElem?_eq_none (by rw [List.length_append, List.length_singleton]; omega)]
    · rw [if_neg c, if_neg c, if_neg (by omega)]
theorem NW_g {h : tm_H} {s i : Nat} {cs : List tm_E} {e : tm_E} (hi : cs[i]? = some e) : (NW h s cs).2.2 (h.1 + i) = e := by
  show (if h.1 ≤ h.1 + i then (cs[h.1 + i - h.1]?).getD (h.2.2 (h.1 + i)) else h.2.2 (h.1 + i)) = e
  rw [if_pos (by omega), Nat.add_sub_cancel_left, hi]
  rfl
theorem NW_b {h : tm_H} {s q : Nat} {cs : List tm_E} (hq : q < h.1) : (NW h s cs).2.2 q = h.2.2 q := if_neg (by omega)
theorem NW_g0 {h : tm_H} {s : Nat} {cs : List tm_E} {e : tm_E} : (NW h s (e :: cs)).2.2 h.1 = e := NW_g (i := 0) rfl
theorem NW_p0 {h : tm_H} {s : Nat} {cs : List tm_E} {e e' : tm_E} : tm_put (NW h s (e :: cs)) h.1 e' = NW h s (e' :: cs) := by
  refine tcp_ext rfl rfl (fun q => ?_)
  by_cases c : q = h.1
  · subst c
    rw [pa_s]
    exact NW_g0.symm
  · rw [pa_n c]
    show (if h.1 ≤ q then ((e :: cs)[q - h.1]?).getD (h.2.2 q) else h.2.2 q) = if h.1 ≤ q then ((e' :: cs)[q - h.1]?).getD (h.2.2 q) else h.2.2 q
    by_cases c2 : h.1 ≤ q
    · rw [if_pos c2, if_pos c2, show q - h.1 = (q - h.1 - 1) + 1 by omega, List.getElem?_cons_succ, List.getElem?_cons_succ]
    · rw [if_neg c2, if_neg c2]
theorem NW_NW {h : tm_H} {s s' : Nat} {cs cs' : List tm_E} : NW (NW h s cs) s' cs' = NW h (s + s') (cs ++ cs') := by
  refine tcp_ext ?_ ?_ (fun q => ?_)
  · show h.1 + cs.length + cs'.length = h.1 + (cs ++ cs').length
    rw [List.length_append, Nat.add_assoc]
  · show h.2.1 + s + s' = h.2.1 + (s + s')
    omega
  · show (if h.1 + cs.length ≤ q then (cs'[q - (h.1 + cs.length)]?).getD (if h.1 ≤ q then (cs[q - h.1]?).getD (h.2.2 q) else h.2.2 q) else (if h.1 ≤ q then (cs[q - h.1]?).getD (h.2.2 q) else h.2.2 q)) = if h.1 ≤ q then ((cs ++ cs')[q - h.1]?).getD (h.2.2 q) else h.2.2 q
    by_cases c : h.1 ≤ q
    · rw [if_pos c, if_pos c]
      by_cases c2 : h.1 + cs.length ≤ q
      · rw [if_pos c2, List.getElem?_append_right (by omega), List.getElem?_eq_none (l := cs) (by omega), show q - (h.1 + cs.length) = q - h.1 - cs.length by omega]
        rfl
      · rw [if_neg c2, List.getElem?_append_left (by omega)]
    · rw [if_neg c, if_neg c, if_neg (by omega)]
theorem x_set_a {ci k x : Nat} {t : FieldType} {fs : List Value} {φ : tm_E → Prop} (h1 : k < fs.length) : x_set (.inr (ci, fs)) ci k (.array t) (.ref x) φ ↔ φ (.inr (ci, fs.set k (.ref x))) := x_set_i h1 rfl rfl
section
variable {sa : g_SA} {sc : Nat × Nat × (Nat → Int32)} {xt : Nat → Nat → List Value → tm_H → Option (Option Value × tm_H)} {d : Nat} {h : tm_H} {Q : Option Value → tm_H → Prop}
theorem z32 : ∀ k : Nat, k < 4000 → ((Int32.ofNat k < 0 ∨ 60000000 < (Int32.ofNat k).toNatClampNeg) = False) ∧ (Int32.ofNat k).toNatClampNeg = k := by
  intro k hk
  have e := nI_clamp (n := k) (by omega)
  refine ⟨eq_false ?_, e⟩
  rintro (z | z)
  · exact nI_pos (by omega) z
  · rw [show (Int32.ofNat k).toNatClampNeg = k from e] at z
    omega
end
