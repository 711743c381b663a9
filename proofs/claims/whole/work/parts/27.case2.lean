theorem pa_s {h : tm_H} {a : Nat} {e : tm_E} : (tm_put h a e).2.2 a = e := tm_up_s
theorem pa_n {h : tm_H} {a b : Nat} {e : tm_E} (hn : b ≠ a) : (tm_put h a e).2.2 b = h.2.2 b := tm_up_n hn
theorem put_put {h : tm_H} {a : Nat} {e e' : tm_E} : tm_put (tm_put h a e) a e' = tm_put h a e' := by
  unfold tm_put
  refine Prod.ext rfl (Prod.ext rfl ?_)
  funext q
  show tm_up (tm_up h.2.2 a e) a e' q = tm_up h.2.2 a e' q
  unfold tm_up
  split <;> rfl
theorem put_same {h : tm_H} {a : Nat} {e : tm_E} (he : h.2.2 a = e) : tm_put h a e = h := by
  unfold tm_put
  refine Prod.ext rfl (Prod.ext rfl ?_)
  funext q
  show tm_up h.2.2 a e q = h.2.2 q
  unfold tm_up
  split
  · rename_i hq; rw [hq, he]
  · rfl
def tc_ob (k : Nat) (z s g : Int32) : tm_E := .inr (9, [.ref (k + 1), .ref (k + 2), .ref (k + 3), .ref (k + 4), .int z, .int s, .int g, .ref (k + 5), .ref (k + 6)])
/-- the heap with a TypeCase at k -/
def tcp (h : tm_H) (k : Nat) (L W M B : Nat → Int32) (z s g : Int32) (a b : Nat → Int32) : tm_H := (h.1, h.2.1, fun q => if q = k then tc_ob k z s g else if q = k + 1 then .inl (0, 12, .inl L) else if q = k + 2 then .inl (0, 12, .inl W) else if q = k + 3 then .inl (0, 12, .inl M) else if q = k + 4 then .inl (0, 12, .inl B) else if q = k + 5 then .inl (0, 8, .inl a) else if q = k + 6 then .inl (0, 8, .inl b) else h.2.2 q)
section
variable {h : tm_H} {k : Nat} {L W M B : Nat → Int32} {z s g : Int32} {a b : Nat → Int32}
theorem tcp_0 : (tcp h k L W M B z s g a b).2.2 k = .inr (9, [.ref (k + 1), .ref (k + 2), .ref (k + 3), .ref (k + 4), .int z, .int s, .int g, .ref (k + 5), .ref (k + 6)]) := by simp [tcp, tc_ob]
theorem tcp_1 : (tcp h k L W M B z s g a b).2.2 (k + 1) = .inl (0, 12, .inl L) := by simp [tcp]
theorem tcp_2 : (tcp h k L W M B z s g a b).2.2 (k + 2) = .inl (0, 12, .inl W) := by simp [tcp]
theorem tcp_3 : (tcp h k L W M B z s g a b).2.2 (k + 3) = .inl (0, 12, .inl M) := by simp [tcp]
theorem tcp_4 : (tcp h k L W M B z s g a b).2.2 (k + 4) = .inl (0, 12, .inl B) := by simp [tcp]
theorem tcp_5 : (tcp h k L W M B z s g a b).2.2 (k + 5) = .inl (0, 8, .inl a) := by simp [tcp]
theorem tcp_6 : (tcp h k L W M B z s g a b).2.2 (k + 6) = .inl (0, 8, .inl b) := by simp [tcp]
theorem tcp_o {q : Nat} (hq : q < k ∨ k + 7 ≤ q) : (tcp h k L W M B z s g a b).2.2 q = h.2.2 q := by
  show (if q = k then _ else _) = _
  rw [if_neg (by omega), if_neg (by omega), if_neg (by omega), if_neg (by omega), if_neg (by omega), if_neg (by omega), if_neg (by omega)]
theorem tcp_at : tc_at (tcp h k L W M B z s g a b) k L W M B z s g := ⟨tcp_0, tcp_1, tcp_2, tcp_3, tcp_4, ⟨a, tcp_5⟩, ⟨b, tcp_6⟩⟩
theorem tcp_ext {f f' : tm_H} (h1 : f.1 = f'.1) (h2 : f.2.1 = f'.2.1) (h3 : ∀ q, f.2.2 q = f'.2.2 q) : f = f' := Prod.ext h1 (Prod.ext h2 (funext h3))
/-- eta: a heap that holds one is its own writing -/
theorem tcp_eta (hT : tc_at h k L W M B z s g) : ∃ a b, h = tcp h k L W M B z s g a b := by
  obtain ⟨h0, h1, h2, h3, h4, ⟨a, h5⟩, ⟨b, h6⟩⟩ := hT
  refine ⟨a, b, tcp_ext rfl rfl (fun q => ?_)⟩
  show h.2.2 q = if q = k then _ else _
  split
  · rename_i e; rw [e, h0]; rfl
  split
  · rename_i e; rw [e, h1]
  split
  · rename_i e; rw [e, h2]
  split
  · rename_i e; rw [e, h3]
  split
  · rename_i e; rw [e, h4]
  split
  · rename_i e; rw [e, h5]
  split
  · rename_i e; rw [e, h6]
  · rfl
theorem tcp_pf {e : tm_E} {j : Nat} {L' W' M' B' : Nat → Int32} {z' s' g' : Int32} {a' b' : Nat → Int32} (hj : (tcp h k L' W' M' B' z' s' g' a' b').2.2 j = e) (ho : ∀ q, q ≠ j → (tcp h k L W M B z s g a b).2.2 q = (tcp h k L' W' M' B' z' s' g' a' b').2.2 q) : tm_put (tcp h k L W M B z s g a b) j e = tcp h k L' W' M' B' z' s' g' a' b' := by
  refine tcp_ext rfl rfl (fun q => ?_)
  show tm_up _ j e q = _
  unfold tm_up
  split
  · rename_i hq; rw [hq, hj]
  · rename_i hq; exact ho q hq
theorem tcp_p0 {z' s' g' : Int32} : tm_put (tcp h k L W M B z s g a b) k (.inr (9, [.ref (k + 1), .ref (k + 2), .ref (k + 3), .ref (k + 4), .int z', .int s', .int g', .ref (k + 5), .ref (k + 6)])) = tcp h k L W M B z' s' g' a b := tcp_pf tcp_0 (fun q hq => by simp only [tcp, hq, if_false])
theorem tcp_p1 {X : Nat → Int32} : tm_put (tcp h k L W M B z s g a b) (k + 1) (.inl (0, 12, .inl X)) = tcp h k X W M B z s g a b := tcp_pf tcp_1 (fun q hq => by simp only [tcp, hq, if_false])
theorem tcp_p2 {X : Nat → Int32} : tm_put (tcp h k L W M B z s g a b) (k + 2) (.inl (0, 12, .inl X)) = tcp h k L X M B z s g a b := tcp_pf tcp_2 (fun q hq => by simp only [tcp, hq, if_false])
theorem tcp_p3 {X : Nat → Int32} : tm_put (tcp h k L W M B z s g a b) (k + 3) (.inl (0, 12, .inl X)) = tcp h k L W X B z s g a b := tcp_pf tcp_3 (fun q hq => by simp only [tcp, hq, if_false])
theorem tcp_p4 {X : Nat → Int32} : tm_put (tcp h k L W M B z s g a b) (k + 4) (.inl (0, 12, .inl X)) = tcp h k L W M X z s g a b := tcp_pf tcp_4 (fun q hq => by simp only [tcp, hq, if_false])
theorem tcp_p5 {X : Nat → Int32} : tm_put (tcp h k L W M B z s g a b) (k + 5) (.inl (0, 8, .inl X)) = tcp h k L W M B z s g X b := tcp_pf tcp_5 (fun q hq => by simp only [tcp, hq, if_false])
theorem tcp_p6 {X : Nat → Int32} : tm_put (tcp h k L W M B z s g a b) (k + 6) (.inl (0, 8, .inl X)) = tcp h k L W M B z s g a X := tcp_pf tcp_6 (fun q hq => by simp only [tcp, hq, if_false])
theorem tcp_tcp {L' W' M' B' : Nat → Int32} {z' s' g' : Int32} {a' b' : Nat → Int32} : tcp (tcp h k L W M B z s g a b) k L' W' M' B' z' s' g' a' b' = tcp h k L' W' M' B' z' s' g' a' b' := by
  refine tcp_ext rfl rfl (fun q => ?_)
  by_cases hq : q < k ∨ k + 7 ≤ q
  · rw [tcp_o hq, tcp_o hq, tcp_o hq]
  · rcases (show q = k ∨ q = k + 1 ∨ q = k + 2 ∨ q = k + 3 ∨ q = k + 4 ∨ q = k + 5 ∨ q = k + 6 by omega) with e | e | e | e | e | e | e <;> rw [e] <;> simp only [tcp_0, tcp_1, tcp_2, tcp_3, tcp_4, tcp_5, tcp_6]
end
section
variable {sa : g_SA} {sc : Nat × Nat × (Nat → Int32)} {xt : Nat → Nat → List Value → tm_H → Option (Option Value × tm_H)} {d : Nat} {h : tm_H} {Q : Option Value → tm_H → Prop}
variable {k n : Nat} {L W M B : Nat → Int32} {z s g : Int32} {a b : Nat → Int32}
/-- put to -9 .. 9, as the class has it -/
def pm (v : Int32) : Int32 := if v < -9 then -9 else if 9 < v then 9 else v
theorem m_putToMood (v : Int32) : tm_D (g_G sa sc xt) d 158 [.int v] h Q ↔ Q (some (.int (pm v))) h := by
  rw [e_158]
  simp only [s_158_0, s_158_1, s_158_3, s_158_6, s_158_8, s_158_11, s_158_12, s_158_14, s_158_17, s_158_19, s_158_22, s_158_23]
  unfold pm
  by_cases c1 : v < -9
  · simp only [c1, if_true, show ¬ (-9 : Int32) ≤ v from Int32.not_le.mpr c1, if_false]
  · simp only [c1, if_false, show (-9 : Int32) ≤ v from Int32.not_lt.mp c1, if_true]
    by_cases c2 : 9 < v
    · simp only [c2, if_true, show ¬ v ≤ (9 : Int32) from Int32.not_le.mpr c2, if_false]
    · simp only [c2, if_false, show v ≤ (9 : Int32) from Int32.not_lt.mp c2, if_true]
theorem m_isBox (v : Int32) : tm_D (g_G sa sc xt) d 157 [.int v] h Q ↔ Q (some (.int (if v < 0 then 0 else if 8 ≤ v then 0 else 1))) h := by
  rw [e_157]
  simp only [s_157_0, s_157_1, s_157_4, s_157_5, s_157_7, s_157_10, s_157_11, s_157_14, s_157_15, nb0, nb1, true_and]
  by_cases c1 : v < 0
  · simp only [c1, if_true]
  · by_cases c2 : 8 ≤ v
    · simp only [c1, c2, if_true, if_false]
    · simp only [c1, c2, if_false]
/-- the first i places are v -/
def fl (f : Nat → Int32) (v : Int32) (i : Nat) : Nat → Int32 := fun j => if j < i then v else f j
theorem fl_0 {f : Nat → Int32} {v : Int32} : fl f v 0 = f := by funext j; simp [fl]
theorem fl_s {f : Nat → Int32} {v : Int32} {i : Nat} : upd (fl f v i) i v = fl f v (i + 1) := by
  funext j
  unfold upd fl
  by_cases h1 : j = i
  · simp [h1]
  · simp only [h1, if_false]
    by_cases h2 : j < i
    · simp [h2, Nat.lt_succ_of_lt h2]
    · simp [h2, show ¬ j < i + 1 by omega]
theorem m_fill {o N : Nat} {f : Nat → Int32} {v : Int32} (hN : N < 2 ^ 31) (ho : h.2.2 o = .inl (0, N, .inl f)) : tm_D (g_G sa sc xt) d 291 [.ref o, .int v] h Q ↔ Q none (tm_put h o (.inl (0, N, .inl (fl f v N)))) := by
  have loop : ∀ j i, i + j = N → (tm_X (g_G sa sc xt) d 291 5 [.ref o, .int v, .int (nI i), .int (nI N)] [] (tm_put h o (.inl (0, N, .inl (fl f v i)))) Q ↔ Q none (tm_put h o (.inl (0, N, .inl (fl f v N))))) := by
    intro j
    induction j with
    | zero =>
      intro i hi
      have hi : i = N := by omega
      subst hi
      rw [s_291_5]
      simp only [s_291_0, s_291_1, s_291_2, s_291_3, s_291_4, s_291_6, s_291_7, s_291_10, s_291_11, s_291_12, s_291_13, s_291_14, s_291_17, s_291_20, Int32.le_refl, if_true]
    | succ j ih =>
      intro i hi
      have hin : i < N := by omega
      have c1 : ¬ nI N ≤ nI i := nI_ge hin hN
      rw [← ih (i + 1) (by omega), s_291_5]
      simp only [s_291_0, s_291_1, s_291_2, s_291_3, s_291_4, s_291_6, s_291_7, s_291_10, s_291_11, s_291_12, s_291_13, s_291_14, s_291_17, s_291_20, pa_s, c1, if_false, x_ist_n hin hN, put_put, fl_s, nI_1]
  rw [e_291]
  simp only [s_291_0, s_291_1, s_291_2, s_291_3, s_291_4, s_291_6, s_291_7, s_291_10, s_291_11, s_291_12, s_291_13, s_291_14, s_291_17, s_291_20, ho, x_len_i (show 0 < 6 by decide)]
  have := loop N 0 (by omega)
  rw [fl_0, put_same ho] at this
  exact this
end
