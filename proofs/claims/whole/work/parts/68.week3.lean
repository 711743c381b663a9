/-! calls of the class: an act, week -/
theorem mfn_all {F : Nat → Int32} {e : Nat} : ∀ {l : List Int32} {p : Nat}, mfn F e l p = none → ∀ i k, l[i]? = some k → p + i < e ∧ ¬ txs k (F (p + i)) = 0
  | [], p, _, i, k, hk => by cases hk
  | x :: r, p, h, i, k, hk => by
    unfold mfn at h
    split at h
    · cases h
    · rename_i c1
      split at h
      · cases h
      · rename_i c2
        cases i with
        | zero => cases hk; exact ⟨by omega, c2⟩
        | succ i =>
          have := mfn_all h i k hk
          rw [show p + 1 + i = p + (i + 1) by omega] at this
          exact this
theorem bhl_all {F : Nat → Int32} {a e : Nat} : ∀ {j p q : Nat}, bhl F a e j p = .inr q → (∀ i, p ≤ i → i < q → ¬ txs 108 (F i) = 0) ∧ (p ≤ a + 15 → q ≤ a + 15)
  | 0, p, q, h => by cases h; exact ⟨fun i h1 h2 => by omega, id⟩
  | j + 1, p, q, h => by
    unfold bhl at h
    split at h
    · cases h; exact ⟨fun i h1 h2 => by omega, id⟩
    split at h
    · cases h; exact ⟨fun i h1 h2 => by omega, id⟩
    rename_i c1 c2
    split at h
    · cases h
    rename_i c3
    obtain ⟨h1, h2⟩ := bhl_all h
    refine ⟨fun i h3 h4 => ?_, fun h3 => h2 (by omega)⟩
    by_cases e : i = p
    · rw [e]; exact c2
    · exact h1 i (by omega) h4
theorem lrd_ok {F : Nat → Int32} {f : Nat} : ∀ {j i : Nat}, (∀ k, i ≤ k → k < i + j → ¬ txs 108 (F k) = 0) → i + j ≤ f + 12 → f < i + j → lrd F f j i = none
  | 0, i, _, h2, h3 => by
    unfold lrd
    rw [if_neg (by omega)]
  | j + 1, i, h1, h2, h3 => by
    unfold lrd
    rw [if_neg]
    · exact lrd_ok (fun k a1 a2 => h1 k (by omega) (by omega)) (by omega) (by omega)
    · rintro (e | e)
      · omega
      · exact h1 i (by omega) (by omega) e
theorem dg2_n {F : Nat → Int32} {p : Nat} (h1 : ¬ txs 100 (F p) = 0) (h2 : ¬ txs 100 (F (p + 1)) = 0) : ∃ v, v < 100 ∧ dg2 F p = nI v := by
  obtain ⟨y, hy, e⟩ := txs_d0 h1
  obtain ⟨z, hz, e2⟩ := txs_d0 h2
  refine ⟨10 * y + z, by omega, ?_⟩
  unfold dg2
  rw [e, e2, nI_48, nI_48, show (10 : Int32) = nI 10 from rfl, nI_mul, nI_add]
theorem txs_b0 {x : Int32} (hx : ¬ txs 98 x = 0) : ∃ y, y < 8 ∧ x = nI (48 + y) := by
  unfold txs at hx
  rw [if_neg (by decide), if_neg (by decide), if_pos rfl] at hx
  split at hx
  · exact absurd rfl hx
  · rename_i h1
    split at hx
    · exact absurd rfl hx
    · rename_i h2
      have q1 : (48 : Int) ≤ x.toInt := Int32.le_iff_toInt_le.mp (Int32.not_lt.mp h1)
      have q2 : x.toInt ≤ 55 := Int32.le_iff_toInt_le.mp (Int32.not_lt.mp h2)
      refine ⟨(x.toInt - 48).toNat, by omega, ?_⟩
      apply Int32.toInt_inj.mp
      rw [nI_toInt (by omega)]
      omega
section
variable {sa : g_SA} {sc : Nat × Nat × (Nat → Int32)} {xt : Nat → Nat → List Value → tm_H → Option (Option Value × tm_H)} {d b : Nat} {h : tm_H} {Q : Option Value → tm_H → Prop}
variable {tx : Nat × (Nat → Int32)} {rw : Nat × (Nat → Int64)} {nw : TN} {pa : Nat × Nat × (Nat → TN) × (Nat → TN) × (Nat → Int32)} {ru : Nat × Nat × List Int32} {he : Nat × (Nat → Int32)} {mi : Nat × (Nat → Int32) × (Nat → Int32) × (Nat → Int32)} {ga : Nat}
variable {c n m : Nat} {F L W M B H Ms Bs Os : Nat → Int32} {s g : Int32} {rc hc mc : Nat} {R : Nat → Int64} {r1 r2 : Nat} {cd0 : List Int32}
theorem c_nightsB {mem : Int32} (hm : m < 2 ^ 30) (hW : CW sa h b tx rw nw pa ru he mi ga) (hQ : ∀ h', sm b (b + 162) h h' → (∀ T, tca h (b + 26) T → tca h' (b + 26) T) → CW sa h' b tx rw (nXT ru.2.2 mem m nw) pa ru he mi ga → Q none h') : tm_D (g_G sa sc xt) (d + 3) 100 [.ref (b + 5), .ref ru.1, .int (nI m), .int mem] h Q := by
  obtain ⟨w_o, w_t, w_r, w_n, w_h, w_l, w_b, w_p, w_u, w_v, w_a, w_e, w_w, w_x, w_q, w_m, w_g, w_d, w_s⟩ := id hW
  refine tc_nightsR hm w_n.1 w_n.2 w_u (by omega) (fun h1 h2 s1 s2 q1 q2 => ?_)
  have u1 : RUc h1 ru.1 ru.2.2 := RUc_sm ⟨s2.1.symm, s2.2.1.symm, fun x hx => (s2.2.2 x hx).symm⟩ (by omega) q1
  exact hQ h2 ((s1.mono (by omega) (by omega)).trans (s2.mono (by omega) (by omega))) (fun T hT => tca_sm s2 (by omega) (tca_sm s1 (by omega) hT)) (CW_n (nw' := nXT ru.2.2 mem m nw) (CW_u hW s1 u1) s2 ⟨q2, WFT_nXT w_n.2⟩)
theorem c_setL {f k : Nat} {N P : Nat → Int32} {p v : Int32} (hW : CW sa h b tx rw (L, W, M, B, n, s, g) pa ru he mi ga) (hc : cel h (b + 143) (lec (b + 143) (LN N F f k) P (nI k) p)) (hk : k ≤ 80) (h1 : tc_t2 L W n s (lcn F f k) 8 0 0 = none → Q (some (.int (-1))) h) (h2 : ∀ t h', tc_t2 L W n s (lcn F f k) 8 0 0 = some t → ¬ t < 0 → sm (b + 5) (b + 12) h h' → CW sa h' b tx rw (L, tc_sW t W n, tc_sM t v M n, B, n, s ||| t, g) pa ru he mi ga → Q (some (.int t)) h') : tm_D (g_G sa sc xt) (d + 3) 168 [.ref b, .int v] h Q := by
  obtain ⟨w_o, w_t, w_r, w_n, w_h, w_l, w_b, w_p, w_u, w_v, w_a, w_e, w_w, w_x, w_q, w_m, w_g, w_d, w_s⟩ := id hW
  have o_0 := hW.1
  have a_0 : h.2.2 (b + 1) = .inr (8, _) := hW.2.1.1.1
  have c_0 : h.2.2 (b + 3) = .inr (5, _) := cel_0 hW.2.2.1.1
  have n_0 : h.2.2 (b + 5) = .inr (9, _) := hW.2.2.2.1.1.1
  have p_0 : h.2.2 (b + 33) = .inr (6, _) := hW.2.2.2.2.2.2.2.1.1.1
  have q_0 : h.2.2 (b + 152) = .inr (2, _) := cel_0 hW.2.2.2.2.2.2.2.2.2.2.2.2.2.2.1.1
  obtain ⟨_, mm_0⟩ := hW.2.2.2.2.2.2.2.2.2.2.2.2.2.2.2.1.1
  have m_0 : h.2.2 (b + 154) = .inr (4, _) := cel_0 mm_0
  have g_0 : h.2.2 (b + 159) = .inr (1, _) := cel_0 hW.2.2.2.2.2.2.2.2.2.2.2.2.2.2.2.2.1.1
  have hn : n ≤ 12 := w_n.2.1
  have hT : tc_at h (b + 5) L W M B (nI n) s g := w_n.1
  have e0 := cel_0 hc
  have hle : ∀ x, lcn F f k x < 100 := fun x => by have := lcn_le (F := F) (f := f) (x := x) (m := k); omega
  have et : ∀ {d : Nat} {Q}, tm_D (g_G sa sc xt) (d + 2) 93 [.ref (b + 5), .ref (b + 143)] h Q ↔ Q (some (.int (o2 (tc_t2 L W n s (lcn F f k) 8 0 0)))) h := fun {d Q} => tc_wouldTake hT hn e0 (cel_1 hc) (fun i hi => ⟨if_pos hi, hle i⟩)
  rw [e_168]
  simp only [s_168_0, s_168_1, s_168_4, s_168_5, s_168_8, s_168_11, s_168_12, s_168_13, s_168_14, s_168_17, s_168_18, s_168_21, s_168_22, s_168_23, s_168_26, s_168_27, x_get_i, List.getElem?_cons_succ, List.getElem?_cons_zero, x_cv_j, cs_n, cs_i, cs_r, cs_l, Nat.reduceAdd, Nat.reduceLeDiff, true_and, Option.toList_some, Option.toList_none, List.cons_append, List.nil_append, if_true, if_false, nb0, nb1, x_setJ, x_setZ0, x_setZ1, x_setA, x_setO, List.length_cons, List.length_nil, Nat.reduceLT, List.set_cons_succ, List.set_cons_zero, wrl_0, wrl_1, wrl_2, wrl_3, wrl_4, wrl_5, wrl_p0, wrl_p1, wrl_p2, wrl_p3, wrl_p4, o_0, a_0, c_0, n_0, p_0, q_0, m_0, g_0, et]
  cases ht : tc_t2 L W n s (lcn F f k) 8 0 0 with
  | none =>
    simp only [o2, if_true]
    exact h1 ht
  | some t =>
    have hlow := t2_b hn (fun i _ _ => bt_0) ht
    obtain ⟨q, hq, eq⟩ := low12 hlow
    have hne : ¬ t = -1 := by rw [eq]; exact oI_ne (by omega)
    have hpos : ¬ t < 0 := by rw [eq]; exact nI_pos (by omega)
    simp only [o2, hne, if_false]
    refine tca_call (T := tcT (L, W, M, B, n, s, g)) (T' := tcT (L, tc_sW t W n, tc_sM t v M n, B, n, s ||| t, g)) (r := none) hT (fun a b Q => tc_setSorts hn t v) (fun ha sA tA => ?_)
    simp only [s_168_0, s_168_1, s_168_4, s_168_5, s_168_8, s_168_11, s_168_12, s_168_13, s_168_14, s_168_17, s_168_18, s_168_21, s_168_22, s_168_23, s_168_26, s_168_27, x_get_i, List.getElem?_cons_succ, List.getElem?_cons_zero, x_cv_j, cs_n, cs_i, cs_r, cs_l, Nat.reduceAdd, Nat.reduceLeDiff, true_and, Option.toList_some, Option.toList_none, List.cons_append, List.nil_append, if_true, if_false, nb0, nb1, x_setJ, x_setZ0, x_setZ1, x_setA, x_setO, List.length_cons, List.length_nil, Nat.reduceLT, List.set_cons_succ, List.set_cons_zero, wrl_0, wrl_1, wrl_2, wrl_3, wrl_4, wrl_5, wrl_p0, wrl_p1, wrl_p2, wrl_p3, wrl_p4]
    exact h2 t ha ht hpos sA (CW_n (nw' := (L, tc_sW t W n, tc_sM t v M n, B, n, s ||| t, g)) hW sA ⟨tA, w_n.2⟩)
set_option maxHeartbeats 1000000 in
theorem c_doAct {a q : Nat} (hW : CW sa h b (c, F) rw (L, W, M, B, n, s, g) pa ru he mi ga) (hX : WFX (L, W, M, B, n, s, g)) (hac : a < c) (hg : bha F c a = .inr q) (h1 : ∀ r h', wact ru.2.2 F (L, W, M, B, n, s, g) a q = none → r < 0 → sm b (b + 162) h h' → (∀ T, tca h (b + 26) T → tca h' (b + 26) T) → CW sa h' b (c, F) rw (L, W, M, B, n, s, g) pa ru he mi ga → Q (some (.int r)) h') (h2 : ∀ X' r h', wact ru.2.2 F (L, W, M, B, n, s, g) a q = some X' → WFX X' → ¬ r < 0 → sm b (b + 162) h h' → (∀ T, tca h (b + 26) T → tca h' (b + 26) T) → CW sa h' b (c, F) rw X' pa ru he mi ga → Q (some (.int r)) h') : tm_D (g_G sa sc xt) (d + 5) 167 [.ref b, .int (nI a), .int (nI q)] h Q := by
  obtain ⟨w_o, w_t, w_r, w_n, w_h, w_l, w_b, w_p, w_u, w_v, w_a, w_e, w_w, w_x, w_q, w_m, w_g, w_d, w_s⟩ := id hW
  have o_0 := hW.1
  have a_0 : h.2.2 (b + 1) = .inr (8, _) := hW.2.1.1.1
  have c_0 : h.2.2 (b + 3) = .inr (5, _) := cel_0 hW.2.2.1.1
  have n_0 : h.2.2 (b + 5) = .inr (9, _) := hW.2.2.2.1.1.1
  have p_0 : h.2.2 (b + 33) = .inr (6, _) := hW.2.2.2.2.2.2.2.1.1.1
  have q_0 : h.2.2 (b + 152) = .inr (2, _) := cel_0 hW.2.2.2.2.2.2.2.2.2.2.2.2.2.2.1.1
  obtain ⟨_, mm_0⟩ := hW.2.2.2.2.2.2.2.2.2.2.2.2.2.2.2.1.1
  have m_0 : h.2.2 (b + 154) = .inr (4, _) := cel_0 mm_0
  have g_0 : h.2.2 (b + 159) = .inr (1, _) := cel_0 hW.2.2.2.2.2.2.2.2.2.2.2.2.2.2.2.2.1.1
  have hc80 : c ≤ 80 := w_t.2.1
  have hx : tx_in h (b + 1) c F := w_t.1
  have hn : n ≤ 12 := w_n.2.1
  have hT : tc_at h (b + 5) L W M B (nI n) s g := w_n.1
  have hq := (bha_le (F := F) hac).2 q hg
  have e1 : nI a + 1 = nI (a + 1) := nI_add a 1
  have e3 : nI a + 3 = nI (a + 3) := nI_add a 3
  have e2 : nI (a + 1) + 1 = nI (a + 2) := nI_add _ 1
  unfold bha at hg
  have k6 : ¬ shp (F a) = 6 := by
    intro e
    rw [if_pos e] at hg
    cases hg
  rw [if_neg k6] at hg
  cases hm : mfn F c (g_sb (shp (F a))) (a + 1) with
  | some x => rw [hm] at hg; cases hg
  | none =>
    rw [hm] at hg
    dsimp only at hg
    have hall := mfn_all hm
    rw [e_167]
    simp only [s_167_0, s_167_1, s_167_4, s_167_5, s_167_8, s_167_60, s_167_61, s_167_64, s_167_65, s_167_68, s_167_69, s_167_72, s_167_73, s_167_74, s_167_75, s_167_78, s_167_79, s_167_82, s_167_85, s_167_88, s_167_89, s_167_90, s_167_91, s_167_94, s_167_95, s_167_98, s_167_99, s_167_100, s_167_101, s_167_102, s_167_105, s_167_106, s_167_107, s_167_108, s_167_111, s_167_112, s_167_113, s_167_114, s_167_117, s_167_120, s_167_121, s_167_122, s_167_125, s_167_126, s_167_129, s_167_130, s_167_131, s_167_132, s_167_135, s_167_136, s_167_139, s_167_140, s_167_141, s_167_142, s_167_145, s_167_148, s_167_149, s_167_150, s_167_153, s_167_154, s_167_157, s_167_158, s_167_159, s_167_160, s_167_163, s_167_166, s_167_167, s_167_168, s_167_171, s_167_172, s_167_175, s_167_176, s_167_177, s_167_178, s_167_181, s_167_184, s_167_185, s_167_186, x_get_i, List.getElem?_cons_succ, List.getElem?_cons_zero, x_cv_j, cs_n, cs_i, cs_r, cs_l, Nat.reduceAdd, Nat.reduceLeDiff, true_and, Option.toList_some, Option.toList_none, List.cons_append, List.nil_append, if_true, if_false, nb0, nb1, x_setJ, x_setZ0, x_setZ1, x_setA, x_setO, List.length_cons, List.length_nil, Nat.reduceLT, List.set_cons_succ, List.set_cons_zero, wrl_0, wrl_1, wrl_2, wrl_3, wrl_4, wrl_5, wrl_p0, wrl_p1, wrl_p2, wrl_p3, wrl_p4, o_0, a_0, c_0, n_0, p_0, q_0, m_0, g_0, tx_at' hx hc80, txa_n hac hc80]
    unfold wact at h1 h2
    dsimp only at h1 h2
    have two : ∀ z, ¬ txs 100 (F (a + 1)) = 0 → ¬ txs 100 (F (a + 2)) = 0 → a + 2 < c → z = dg2 F (a + 1) → ∃ v, v < 100 ∧ dg2 F (a + 1) = nI v ∧ 10 * (txa F c (nI (a + 1)) - 48) + (txa F c (nI (a + 2)) - 48) = nI v := by
      intro z d1 d2 hlt _
      obtain ⟨v, hv, ev⟩ := dg2_n (p := a + 1) d1 d2
      refine ⟨v, hv, ev, ?_⟩
      rw [txa_n (by omega) hc80, txa_n hlt hc80]
      exact ev
    by_cases c67 : F a = 67
    · have h5 : shp (F a) = 5 := by rw [c67]; decide
      rw [h5] at hall
      obtain ⟨l1, d1⟩ := hall 0 100 rfl
      obtain ⟨l2, d2⟩ := hall 1 100 rfl
      obtain ⟨v, hv, ev, ev2⟩ := two _ d1 d2 (by omega) rfl
      rw [if_pos c67] at h1 h2
      simp only [c67, if_true, tx_twoDigitsAt' hx hc80, s_167_0, s_167_1, s_167_4, s_167_5, s_167_8, s_167_60, s_167_61, s_167_64, s_167_65, s_167_68, s_167_69, s_167_72, s_167_73, s_167_74, s_167_75, s_167_78, s_167_79, s_167_82, s_167_85, s_167_88, s_167_89, s_167_90, s_167_91, s_167_94, s_167_95, s_167_98, s_167_99, s_167_100, s_167_101, s_167_102, s_167_105, s_167_106, s_167_107, s_167_108, s_167_111, s_167_112, s_167_113, s_167_114, s_167_117, s_167_120, s_167_121, s_167_122, s_167_125, s_167_126, s_167_129, s_167_130, s_167_131, s_167_132, s_167_135, s_167_136, s_167_139, s_167_140, s_167_141, s_167_142, s_167_145, s_167_148, s_167_149, s_167_150, s_167_153, s_167_154, s_167_157, s_167_158, s_167_159, s_167_160, s_167_163, s_167_166, s_167_167, s_167_168, s_167_171, s_167_172, s_167_175, s_167_176, s_167_177, s_167_178, s_167_181, s_167_184, s_167_185, s_167_186, x_get_i, List.getElem?_cons_succ, List.getElem?_cons_zero, x_cv_j, cs_n, cs_i, cs_r, cs_l, Nat.reduceAdd, Nat.reduceLeDiff, true_and, Option.toList_some, Option.toList_none, List.cons_append, List.nil_append, if_true, if_false, nb0, nb1, x_setJ, x_setZ0, x_setZ1, x_setA, x_setO, List.length_cons, List.length_nil, Nat.reduceLT, List.set_cons_succ, List.set_cons_zero, wrl_0, wrl_1, wrl_2, wrl_3, wrl_4, wrl_5, wrl_p0, wrl_p1, wrl_p2, wrl_p3, wrl_p4, o_0, a_0, c_0, n_0, p_0, q_0, m_0, g_0, e1, e2, ev2]
      rw [ev] at h1 h2
      by_cases hvn : v < n
      · have q1 : ¬ (nI v < 0 ∨ nI n ≤ nI v) := by
          rintro (e | e)
          · exact nI_pos (by omega) e
          · exact nI_ge hvn (by omega) e
        rw [if_neg q1, nI_clamp (by omega)] at h1 h2
        by_cases k1 : M v = 0
        · rw [if_pos k1] at h1
          refine tca_call (T := tcT (L, W, M, B, n, s, g)) (T' := tcT (L, W, M, B, n, s, g)) (r := some (.int (-2))) hT (fun a b' Q => ?_) (fun ha sA tA => ?_)
          · have hm := tc_clean1 (sa := sa) (sc := sc) (xt := xt) (d := d + 3) (h := h) (k := b + 5) (L := L) (W := W) (M := M) (B := B) (s := s) (g := g) (a := a) (b := b') (Q := Q) hn hvn
            rw [if_pos k1, upd_same k1] at hm
            exact hm
          · simp only [s_167_0, s_167_1, s_167_4, s_167_5, s_167_8, s_167_60, s_167_61, s_167_64, s_167_65, s_167_68, s_167_69, s_167_72, s_167_73, s_167_74, s_167_75, s_167_78, s_167_79, s_167_82, s_167_85, s_167_88, s_167_89, s_167_90, s_167_91, s_167_94, s_167_95, s_167_98, s_167_99, s_167_100, s_167_101, s_167_102, s_167_105, s_167_106, s_167_107, s_167_108, s_167_111, s_167_112, s_167_113, s_167_114, s_167_117, s_167_120, s_167_121, s_167_122, s_167_125, s_167_126, s_167_129, s_167_130, s_167_131, s_167_132, s_167_135, s_167_136, s_167_139, s_167_140, s_167_141, s_167_142, s_167_145, s_167_148, s_167_149, s_167_150, s_167_153, s_167_154, s_167_157, s_167_158, s_167_159, s_167_160, s_167_163, s_167_166, s_167_167, s_167_168, s_167_171, s_167_172, s_167_175, s_167_176, s_167_177, s_167_178, s_167_181, s_167_184, s_167_185, s_167_186, x_get_i, List.getElem?_cons_succ, List.getElem?_cons_zero, x_cv_j, cs_n, cs_i, cs_r, cs_l, Nat.reduceAdd, Nat.reduceLeDiff, true_and, Option.toList_some, Option.toList_none, List.cons_append, List.nil_append, if_true, if_false, nb0, nb1, x_setJ, x_setZ0, x_setZ1, x_setA, x_setO, List.length_cons, List.length_nil, Nat.reduceLT, List.set_cons_succ, List.set_cons_zero, wrl_0, wrl_1, wrl_2, wrl_3, wrl_4, wrl_5, wrl_p0, wrl_p1, wrl_p2, wrl_p3, wrl_p4]
            exact h1 _ ha rfl (by decide) (sA.mono (by omega) (by omega)) (fun T hT => tca_sm sA (by omega) hT) (CW_n (nw' := (L, W, M, B, n, s, g)) hW sA ⟨tA, w_n.2⟩)
        · rw [if_neg k1] at h2
          refine tca_call (T := tcT (L, W, M, B, n, s, g)) (T' := tcT (L, W, upd M v 0, B, n, s, g)) (r := some (.int (10 + M v))) hT (fun a b' Q => ?_) (fun ha sA tA => ?_)
          · have hm := tc_clean1 (sa := sa) (sc := sc) (xt := xt) (d := d + 3) (h := h) (k := b + 5) (L := L) (W := W) (M := M) (B := B) (s := s) (g := g) (a := a) (b := b') (Q := Q) hn hvn
            rw [if_neg k1] at hm
            exact hm
          · simp only [s_167_0, s_167_1, s_167_4, s_167_5, s_167_8, s_167_60, s_167_61, s_167_64, s_167_65, s_167_68, s_167_69, s_167_72, s_167_73, s_167_74, s_167_75, s_167_78, s_167_79, s_167_82, s_167_85, s_167_88, s_167_89, s_167_90, s_167_91, s_167_94, s_167_95, s_167_98, s_167_99, s_167_100, s_167_101, s_167_102, s_167_105, s_167_106, s_167_107, s_167_108, s_167_111, s_167_112, s_167_113, s_167_114, s_167_117, s_167_120, s_167_121, s_167_122, s_167_125, s_167_126, s_167_129, s_167_130, s_167_131, s_167_132, s_167_135, s_167_136, s_167_139, s_167_140, s_167_141, s_167_142, s_167_145, s_167_148, s_167_149, s_167_150, s_167_153, s_167_154, s_167_157, s_167_158, s_167_159, s_167_160, s_167_163, s_167_166, s_167_167, s_167_168, s_167_171, s_167_172, s_167_175, s_167_176, s_167_177, s_167_178, s_167_181, s_167_184, s_167_185, s_167_186, x_get_i, List.getElem?_cons_succ, List.getElem?_cons_zero, x_cv_j, cs_n, cs_i, cs_r, cs_l, Nat.reduceAdd, Nat.reduceLeDiff, true_and, Option.toList_some, Option.toList_none, List.cons_append, List.nil_append, if_true, if_false, nb0, nb1, x_setJ, x_setZ0, x_setZ1, x_setA, x_setO, List.length_cons, List.length_nil, Nat.reduceLT, List.set_cons_succ, List.set_cons_zero, wrl_0, wrl_1, wrl_2, wrl_3, wrl_4, wrl_5, wrl_p0, wrl_p1, wrl_p2, wrl_p3, wrl_p4]
            exact h2 _ _ ha rfl ⟨w_n.2, upd_b (P := fun x => ∃ y, y < 19 ∧ x = nI y - 9) hX.2.1 ⟨9, by decide, by decide⟩, hX.2.2⟩ (MWB_m hX.2 hvn) (sA.mono (by omega) (by omega)) (fun T hT => tca_sm sA (by omega) hT) (CW_n (nw' := (L, W, upd M v 0, B, n, s, g)) hW sA ⟨tA, w_n.2⟩)
      · have q1 : nI v < 0 ∨ nI n ≤ nI v := Or.inr (nI_le (by omega) (by omega))
        have hno : ¬ ∃ j, j < n ∧ nI v = nI j := by
          rintro ⟨j, hj, e⟩
          have := (nI_eq (by omega) (by omega)).mp e
          omega
        rw [if_pos q1] at h1
        refine tca_call (T := tcT (L, W, M, B, n, s, g)) (T' := tcT (L, W, M, B, n, s, g)) (r := some (.int (-1))) hT (fun a b' Q => ?_) (fun ha sA tA => ?_)
        · exact tc_clean0 (hasI0 (n := n) hn hno)
        · simp only [s_167_0, s_167_1, s_167_4, s_167_5, s_167_8, s_167_60, s_167_61, s_167_64, s_167_65, s_167_68, s_167_69, s_167_72, s_167_73, s_167_74, s_167_75, s_167_78, s_167_79, s_167_82, s_167_85, s_167_88, s_167_89, s_167_90, s_167_91, s_167_94, s_167_95, s_167_98, s_167_99, s_167_100, s_167_101, s_167_102, s_167_105, s_167_106, s_167_107, s_167_108, s_167_111, s_167_112, s_167_113, s_167_114, s_167_117, s_167_120, s_167_121, s_167_122, s_167_125, s_167_126, s_167_129, s_167_130, s_167_131, s_167_132, s_167_135, s_167_136, s_167_139, s_167_140, s_167_141, s_167_142, s_167_145, s_167_148, s_167_149, s_167_150, s_167_153, s_167_154, s_167_157, s_167_158, s_167_159, s_167_160, s_167_163, s_167_166, s_167_167, s_167_168, s_167_171, s_167_172, s_167_175, s_167_176, s_167_177, s_167_178, s_167_181, s_167_184, s_167_185, s_167_186, x_get_i, List.getElem?_cons_succ, List.getElem?_cons_zero, x_cv_j, cs_n, cs_i, cs_r, cs_l, Nat.reduceAdd, Nat.reduceLeDiff, true_and, Option.toList_some, Option.toList_none, List.cons_append, List.nil_append, if_true, if_false, nb0, nb1, x_setJ, x_setZ0, x_setZ1, x_setA, x_setO, List.length_cons, List.length_nil, Nat.reduceLT, List.set_cons_succ, List.set_cons_zero, wrl_0, wrl_1, wrl_2, wrl_3, wrl_4, wrl_5, wrl_p0, wrl_p1, wrl_p2, wrl_p3, wrl_p4]
          exact h1 _ ha rfl (by decide) (sA.mono (by omega) (by omega)) (fun T hT => tca_sm sA (by omega) hT) (CW_n (nw' := (L, W, M, B, n, s, g)) hW sA ⟨tA, w_n.2⟩)
    rw [if_neg c67] at h1 h2
    by_cases c70 : F a = 70
    · have h5 : shp (F a) = 5 := by rw [c70]; decide
      rw [h5] at hall
      obtain ⟨l1, d1⟩ := hall 0 100 rfl
      obtain ⟨l2, d2⟩ := hall 1 100 rfl
      obtain ⟨v, hv, ev, ev2⟩ := two _ d1 d2 (by omega) rfl
      rw [if_pos c70] at h1 h2
      simp only [c70, show ¬ (70 : Int32) = 67 by decide, if_true, if_false, tx_twoDigitsAt' hx hc80, s_167_0, s_167_1, s_167_4, s_167_5, s_167_8, s_167_60, s_167_61, s_167_64, s_167_65, s_167_68, s_167_69, s_167_72, s_167_73, s_167_74, s_167_75, s_167_78, s_167_79, s_167_82, s_167_85, s_167_88, s_167_89, s_167_90, s_167_91, s_167_94, s_167_95, s_167_98, s_167_99, s_167_100, s_167_101, s_167_102, s_167_105, s_167_106, s_167_107, s_167_108, s_167_111, s_167_112, s_167_113, s_167_114, s_167_117, s_167_120, s_167_121, s_167_122, s_167_125, s_167_126, s_167_129, s_167_130, s_167_131, s_167_132, s_167_135, s_167_136, s_167_139, s_167_140, s_167_141, s_167_142, s_167_145, s_167_148, s_167_149, s_167_150, s_167_153, s_167_154, s_167_157, s_167_158, s_167_159, s_167_160, s_167_163, s_167_166, s_167_167, s_167_168, s_167_171, s_167_172, s_167_175, s_167_176, s_167_177, s_167_178, s_167_181, s_167_184, s_167_185, s_167_186, x_get_i, List.getElem?_cons_succ, List.getElem?_cons_zero, x_cv_j, cs_n, cs_i, cs_r, cs_l, Nat.reduceAdd, Nat.reduceLeDiff, true_and, Option.toList_some, Option.toList_none, List.cons_append, List.nil_append, if_true, if_false, nb0, nb1, x_setJ, x_setZ0, x_setZ1, x_setA, x_setO, List.length_cons, List.length_nil, Nat.reduceLT, List.set_cons_succ, List.set_cons_zero, wrl_0, wrl_1, wrl_2, wrl_3, wrl_4, wrl_5, wrl_p0, wrl_p1, wrl_p2, wrl_p3, wrl_p4, o_0, a_0, c_0, n_0, p_0, q_0, m_0, g_0, e1, e2, ev2]
      rw [ev] at h1 h2
      by_cases hvn : v < n
      · have q1 : ¬ (nI v < 0 ∨ nI n ≤ nI v) := by
          rintro (e | e)
          · exact nI_pos (by omega) e
          · exact nI_ge hvn (by omega) e
        rw [if_neg q1, nI_clamp (by omega)] at h1 h2
        by_cases k1 : W v = 0
        · rw [if_pos k1] at h1
          refine tca_call (T := tcT (L, W, M, B, n, s, g)) (T' := tcT (L, W, M, B, n, s, g)) (r := some (.int (-2))) hT (fun a b' Q => ?_) (fun ha sA tA => ?_)
          · have hm := tc_cast1 (sa := sa) (sc := sc) (xt := xt) (d := d + 3) (h := h) (k := b + 5) (L := L) (W := W) (M := M) (B := B) (s := s) (g := g) (a := a) (b := b') (Q := Q) hn hvn
            rw [if_pos k1, upd_same k1] at hm
            exact hm
          · simp only [s_167_0, s_167_1, s_167_4, s_167_5, s_167_8, s_167_60, s_167_61, s_167_64, s_167_65, s_167_68, s_167_69, s_167_72, s_167_73, s_167_74, s_167_75, s_167_78, s_167_79, s_167_82, s_167_85, s_167_88, s_167_89, s_167_90, s_167_91, s_167_94, s_167_95, s_167_98, s_167_99, s_167_100, s_167_101, s_167_102, s_167_105, s_167_106, s_167_107, s_167_108, s_167_111, s_167_112, s_167_113, s_167_114, s_167_117, s_167_120, s_167_121, s_167_122, s_167_125, s_167_126, s_167_129, s_167_130, s_167_131, s_167_132, s_167_135, s_167_136, s_167_139, s_167_140, s_167_141, s_167_142, s_167_145, s_167_148, s_167_149, s_167_150, s_167_153, s_167_154, s_167_157, s_167_158, s_167_159, s_167_160, s_167_163, s_167_166, s_167_167, s_167_168, s_167_171, s_167_172, s_167_175, s_167_176, s_167_177, s_167_178, s_167_181, s_167_184, s_167_185, s_167_186, x_get_i, List.getElem?_cons_succ, List.getElem?_cons_zero, x_cv_j, cs_n, cs_i, cs_r, cs_l, Nat.reduceAdd, Nat.reduceLeDiff, true_and, Option.toList_some, Option.toList_none, List.cons_append, List.nil_append, if_true, if_false, nb0, nb1, x_setJ, x_setZ0, x_setZ1, x_setA, x_setO, List.length_cons, List.length_nil, Nat.reduceLT, List.set_cons_succ, List.set_cons_zero, wrl_0, wrl_1, wrl_2, wrl_3, wrl_4, wrl_5, wrl_p0, wrl_p1, wrl_p2, wrl_p3, wrl_p4]
            exact h1 _ ha rfl (by decide) (sA.mono (by omega) (by omega)) (fun T hT => tca_sm sA (by omega) hT) (CW_n (nw' := (L, W, M, B, n, s, g)) hW sA ⟨tA, w_n.2⟩)
        · rw [if_neg k1] at h2
          refine tca_call (T := tcT (L, W, M, B, n, s, g)) (T' := tcT (L, upd W v 0, M, B, n, s, g)) (r := some (.int (W v))) hT (fun a b' Q => ?_) (fun ha sA tA => ?_)
          · have hm := tc_cast1 (sa := sa) (sc := sc) (xt := xt) (d := d + 3) (h := h) (k := b + 5) (L := L) (W := W) (M := M) (B := B) (s := s) (g := g) (a := a) (b := b') (Q := Q) hn hvn
            rw [if_neg k1] at hm
            exact hm
          · simp only [s_167_0, s_167_1, s_167_4, s_167_5, s_167_8, s_167_60, s_167_61, s_167_64, s_167_65, s_167_68, s_167_69, s_167_72, s_167_73, s_167_74, s_167_75, s_167_78, s_167_79, s_167_82, s_167_85, s_167_88, s_167_89, s_167_90, s_167_91, s_167_94, s_167_95, s_167_98, s_167_99, s_167_100, s_167_101, s_167_102, s_167_105, s_167_106, s_167_107, s_167_108, s_167_111, s_167_112, s_167_113, s_167_114, s_167_117, s_167_120, s_167_121, s_167_122, s_167_125, s_167_126, s_167_129, s_167_130, s_167_131, s_167_132, s_167_135, s_167_136, s_167_139, s_167_140, s_167_141, s_167_142, s_167_145, s_167_148, s_167_149, s_167_150, s_167_153, s_167_154, s_167_157, s_167_158, s_167_159, s_167_160, s_167_163, s_167_166, s_167_167, s_167_168, s_167_171, s_167_172, s_167_175, s_167_176, s_167_177, s_167_178, s_167_181, s_167_184, s_167_185, s_167_186, x_get_i, List.getElem?_cons_succ, List.getElem?_cons_zero, x_cv_j, cs_n, cs_i, cs_r, cs_l, Nat.reduceAdd, Nat.reduceLeDiff, true_and, Option.toList_some, Option.toList_none, List.cons_append, List.nil_append, if_true, if_false, nb0, nb1, x_setJ, x_setZ0, x_setZ1, x_setA, x_setO, List.length_cons, List.length_nil, Nat.reduceLT, List.set_cons_succ, List.set_cons_zero, wrl_0, wrl_1, wrl_2, wrl_3, wrl_4, wrl_5, wrl_p0, wrl_p1, wrl_p2, wrl_p3, wrl_p4]
            exact h2 _ _ ha rfl ⟨w_n.2, hX.2.1, upd_b (P := fun x => ∃ y, y < 10 ∧ x = nI y) hX.2.2 ⟨0, by decide, rfl⟩⟩ (MWB_w hX.2 hvn) (sA.mono (by omega) (by omega)) (fun T hT => tca_sm sA (by omega) hT) (CW_n (nw' := (L, upd W v 0, M, B, n, s, g)) hW sA ⟨tA, w_n.2⟩)
      · have q1 : nI v < 0 ∨ nI n ≤ nI v := Or.inr (nI_le (by omega) (by omega))
        have hno : ¬ ∃ j, j < n ∧ nI v = nI j := by
          rintro ⟨j, hj, e⟩
          have := (nI_eq (by omega) (by omega)).mp e
          omega
        rw [if_pos q1] at h1
        refine tca_call (T := tcT (L, W, M, B, n, s, g)) (T' := tcT (L, W, M, B, n, s, g)) (r := some (.int (-1))) hT (fun a b' Q => ?_) (fun ha sA tA => ?_)
        · exact tc_cast0 (hasI0 (n := n) hn hno)
        · simp only [s_167_0, s_167_1, s_167_4, s_167_5, s_167_8, s_167_60, s_167_61, s_167_64, s_167_65, s_167_68, s_167_69, s_167_72, s_167_73, s_167_74, s_167_75, s_167_78, s_167_79, s_167_82, s_167_85, s_167_88, s_167_89, s_167_90, s_167_91, s_167_94, s_167_95, s_167_98, s_167_99, s_167_100, s_167_101, s_167_102, s_167_105, s_167_106, s_167_107, s_167_108, s_167_111, s_167_112, s_167_113, s_167_114, s_167_117, s_167_120, s_167_121, s_167_122, s_167_125, s_167_126, s_167_129, s_167_130, s_167_131, s_167_132, s_167_135, s_167_136, s_167_139, s_167_140, s_167_141, s_167_142, s_167_145, s_167_148, s_167_149, s_167_150, s_167_153, s_167_154, s_167_157, s_167_158, s_167_159, s_167_160, s_167_163, s_167_166, s_167_167, s_167_168, s_167_171, s_167_172, s_167_175, s_167_176, s_167_177, s_167_178, s_167_181, s_167_184, s_167_185, s_167_186, x_get_i, List.getElem?_cons_succ, List.getElem?_cons_zero, x_cv_j, cs_n, cs_i, cs_r, cs_l, Nat.reduceAdd, Nat.reduceLeDiff, true_and, Option.toList_some, Option.toList_none, List.cons_append, List.nil_append, if_true, if_false, nb0, nb1, x_setJ, x_setZ0, x_setZ1, x_setA, x_setO, List.length_cons, List.length_nil, Nat.reduceLT, List.set_cons_succ, List.set_cons_zero, wrl_0, wrl_1, wrl_2, wrl_3, wrl_4, wrl_5, wrl_p0, wrl_p1, wrl_p2, wrl_p3, wrl_p4]
          exact h1 _ ha rfl (by decide) (sA.mono (by omega) (by omega)) (fun T hT => tca_sm sA (by omega) hT) (CW_n (nw' := (L, W, M, B, n, s, g)) hW sA ⟨tA, w_n.2⟩)
    rw [if_neg c70] at h1 h2
    by_cases c77 : F a = 77
    · have h5 : shp (F a) = 4 := by rw [c77]; decide
      rw [h5] at hall
      obtain ⟨l1, d1⟩ := hall 0 100 rfl
      obtain ⟨l2, d2⟩ := hall 1 100 rfl
      obtain ⟨l3, d3⟩ := hall 2 98 rfl
      obtain ⟨v, hv, ev, ev2⟩ := two _ d1 d2 (by omega) rfl
      obtain ⟨x, hx8, ex⟩ := txs_b0 d3
      have ex : F (a + 3) = nI (48 + x) := ex
      rw [if_pos c77] at h1 h2
      simp only [c77, show ¬ (77 : Int32) = 67 by decide, show ¬ (77 : Int32) = 70 by decide, if_true, if_false, tx_twoDigitsAt' hx hc80, tx_digitAt' hx hc80, s_167_0, s_167_1, s_167_4, s_167_5, s_167_8, s_167_60, s_167_61, s_167_64, s_167_65, s_167_68, s_167_69, s_167_72, s_167_73, s_167_74, s_167_75, s_167_78, s_167_79, s_167_82, s_167_85, s_167_88, s_167_89, s_167_90, s_167_91, s_167_94, s_167_95, s_167_98, s_167_99, s_167_100, s_167_101, s_167_102, s_167_105, s_167_106, s_167_107, s_167_108, s_167_111, s_167_112, s_167_113, s_167_114, s_167_117, s_167_120, s_167_121, s_167_122, s_167_125, s_167_126, s_167_129, s_167_130, s_167_131, s_167_132, s_167_135, s_167_136, s_167_139, s_167_140, s_167_141, s_167_142, s_167_145, s_167_148, s_167_149, s_167_150, s_167_153, s_167_154, s_167_157, s_167_158, s_167_159, s_167_160, s_167_163, s_167_166, s_167_167, s_167_168, s_167_171, s_167_172, s_167_175, s_167_176, s_167_177, s_167_178, s_167_181, s_167_184, s_167_185, s_167_186, x_get_i, List.getElem?_cons_succ, List.getElem?_cons_zero, x_cv_j, cs_n, cs_i, cs_r, cs_l, Nat.reduceAdd, Nat.reduceLeDiff, true_and, Option.toList_some, Option.toList_none, List.cons_append, List.nil_append, if_true, if_false, nb0, nb1, x_setJ, x_setZ0, x_setZ1, x_setA, x_setO, List.length_cons, List.length_nil, Nat.reduceLT, List.set_cons_succ, List.set_cons_zero, wrl_0, wrl_1, wrl_2, wrl_3, wrl_4, wrl_5, wrl_p0, wrl_p1, wrl_p2, wrl_p3, wrl_p4, o_0, a_0, c_0, n_0, p_0, q_0, m_0, g_0, e1, e2, e3, ev2, txa_n (show a + 3 < c by omega) hc80, ex, nI_48]
      rw [ev, ex, nI_48] at h1 h2
      have hbx := boxI.mpr ⟨x, hx8, rfl⟩
      by_cases hvn : v < n
      · have q1 : ¬ (nI v < 0 ∨ nI n ≤ nI v) := by
          rintro (e | e)
          · exact nI_pos (by omega) e
          · exact nI_ge hvn (by omega) e
        rw [if_neg q1, nI_clamp (by omega)] at h1 h2
        by_cases k1 : (s >>> (nI v &&& 31)) &&& 1 = 1
        · rw [if_pos k1] at h1
          refine tca_call (T := tcT (L, W, M, B, n, s, g)) (T' := tcT (L, W, M, B, n, s, g)) (r := some (.int (-2))) hT (fun a b' Q => ?_) (fun ha sA tA => ?_)
          · have hm := tc_move1 (sa := sa) (sc := sc) (xt := xt) (d := d + 3) (h := h) (k := b + 5) (L := L) (W := W) (M := M) (B := B) (s := s) (g := g) (a := a) (b := b') (Q := Q) hn hvn hbx
            rw [if_pos k1] at hm
            exact hm
          · simp only [s_167_0, s_167_1, s_167_4, s_167_5, s_167_8, s_167_60, s_167_61, s_167_64, s_167_65, s_167_68, s_167_69, s_167_72, s_167_73, s_167_74, s_167_75, s_167_78, s_167_79, s_167_82, s_167_85, s_167_88, s_167_89, s_167_90, s_167_91, s_167_94, s_167_95, s_167_98, s_167_99, s_167_100, s_167_101, s_167_102, s_167_105, s_167_106, s_167_107, s_167_108, s_167_111, s_167_112, s_167_113, s_167_114, s_167_117, s_167_120, s_167_121, s_167_122, s_167_125, s_167_126, s_167_129, s_167_130, s_167_131, s_167_132, s_167_135, s_167_136, s_167_139, s_167_140, s_167_141, s_167_142, s_167_145, s_167_148, s_167_149, s_167_150, s_167_153, s_167_154, s_167_157, s_167_158, s_167_159, s_167_160, s_167_163, s_167_166, s_167_167, s_167_168, s_167_171, s_167_172, s_167_175, s_167_176, s_167_177, s_167_178, s_167_181, s_167_184, s_167_185, s_167_186, x_get_i, List.getElem?_cons_succ, List.getElem?_cons_zero, x_cv_j, cs_n, cs_i, cs_r, cs_l, Nat.reduceAdd, Nat.reduceLeDiff, true_and, Option.toList_some, Option.toList_none, List.cons_append, List.nil_append, if_true, if_false, nb0, nb1, x_setJ, x_setZ0, x_setZ1, x_setA, x_setO, List.length_cons, List.length_nil, Nat.reduceLT, List.set_cons_succ, List.set_cons_zero, wrl_0, wrl_1, wrl_2, wrl_3, wrl_4, wrl_5, wrl_p0, wrl_p1, wrl_p2, wrl_p3, wrl_p4]
            exact h1 _ ha rfl (by decide) (sA.mono (by omega) (by omega)) (fun T hT => tca_sm sA (by omega) hT) (CW_n (nw' := (L, W, M, B, n, s, g)) hW sA ⟨tA, w_n.2⟩)
        rw [if_neg k1] at h1 h2
        by_cases k2 : B v = nI x
        · rw [if_pos k2] at h1
          refine tca_call (T := tcT (L, W, M, B, n, s, g)) (T' := tcT (L, W, M, B, n, s, g)) (r := some (.int (-3))) hT (fun a b' Q => ?_) (fun ha sA tA => ?_)
          · have hm := tc_move1 (sa := sa) (sc := sc) (xt := xt) (d := d + 3) (h := h) (k := b + 5) (L := L) (W := W) (M := M) (B := B) (s := s) (g := g) (a := a) (b := b') (Q := Q) hn hvn hbx
            rw [if_neg k1, if_pos k2] at hm
            exact hm
          · simp only [s_167_0, s_167_1, s_167_4, s_167_5, s_167_8, s_167_60, s_167_61, s_167_64, s_167_65, s_167_68, s_167_69, s_167_72, s_167_73, s_167_74, s_167_75, s_167_78, s_167_79, s_167_82, s_167_85, s_167_88, s_167_89, s_167_90, s_167_91, s_167_94, s_167_95, s_167_98, s_167_99, s_167_100, s_167_101, s_167_102, s_167_105, s_167_106, s_167_107, s_167_108, s_167_111, s_167_112, s_167_113, s_167_114, s_167_117, s_167_120, s_167_121, s_167_122, s_167_125, s_167_126, s_167_129, s_167_130, s_167_131, s_167_132, s_167_135, s_167_136, s_167_139, s_167_140, s_167_141, s_167_142, s_167_145, s_167_148, s_167_149, s_167_150, s_167_153, s_167_154, s_167_157, s_167_158, s_167_159, s_167_160, s_167_163, s_167_166, s_167_167, s_167_168, s_167_171, s_167_172, s_167_175, s_167_176, s_167_177, s_167_178, s_167_181, s_167_184, s_167_185, s_167_186, x_get_i, List.getElem?_cons_succ, List.getElem?_cons_zero, x_cv_j, cs_n, cs_i, cs_r, cs_l, Nat.reduceAdd, Nat.reduceLeDiff, true_and, Option.toList_some, Option.toList_none, List.cons_append, List.nil_append, if_true, if_false, nb0, nb1, x_setJ, x_setZ0, x_setZ1, x_setA, x_setO, List.length_cons, List.length_nil, Nat.reduceLT, List.set_cons_succ, List.set_cons_zero, wrl_0, wrl_1, wrl_2, wrl_3, wrl_4, wrl_5, wrl_p0, wrl_p1, wrl_p2, wrl_p3, wrl_p4]
            exact h1 _ ha rfl (by decide) (sA.mono (by omega) (by omega)) (fun T hT => tca_sm sA (by omega) hT) (CW_n (nw' := (L, W, M, B, n, s, g)) hW sA ⟨tA, w_n.2⟩)
        rw [if_neg k2] at h2
        refine tca_call (T := tcT (L, W, M, B, n, s, g)) (T' := tcT (L, W, M, upd B v (nI x), n, s, g)) (r := some (.int (10 + B v))) hT (fun a b' Q => ?_) (fun ha sA tA => ?_)
        · have hm := tc_move1 (sa := sa) (sc := sc) (xt := xt) (d := d + 3) (h := h) (k := b + 5) (L := L) (W := W) (M := M) (B := B) (s := s) (g := g) (a := a) (b := b') (Q := Q) hn hvn hbx
          rw [if_neg k1, if_neg k2] at hm
          exact hm
        · simp only [s_167_0, s_167_1, s_167_4, s_167_5, s_167_8, s_167_60, s_167_61, s_167_64, s_167_65, s_167_68, s_167_69, s_167_72, s_167_73, s_167_74, s_167_75, s_167_78, s_167_79, s_167_82, s_167_85, s_167_88, s_167_89, s_167_90, s_167_91, s_167_94, s_167_95, s_167_98, s_167_99, s_167_100, s_167_101, s_167_102, s_167_105, s_167_106, s_167_107, s_167_108, s_167_111, s_167_112, s_167_113, s_167_114, s_167_117, s_167_120, s_167_121, s_167_122, s_167_125, s_167_126, s_167_129, s_167_130, s_167_131, s_167_132, s_167_135, s_167_136, s_167_139, s_167_140, s_167_141, s_167_142, s_167_145, s_167_148, s_167_149, s_167_150, s_167_153, s_167_154, s_167_157, s_167_158, s_167_159, s_167_160, s_167_163, s_167_166, s_167_167, s_167_168, s_167_171, s_167_172, s_167_175, s_167_176, s_167_177, s_167_178, s_167_181, s_167_184, s_167_185, s_167_186, x_get_i, List.getElem?_cons_succ, List.getElem?_cons_zero, x_cv_j, cs_n, cs_i, cs_r, cs_l, Nat.reduceAdd, Nat.reduceLeDiff, true_and, Option.toList_some, Option.toList_none, List.cons_append, List.nil_append, if_true, if_false, nb0, nb1, x_setJ, x_setZ0, x_setZ1, x_setA, x_setO, List.length_cons, List.length_nil, Nat.reduceLT, List.set_cons_succ, List.set_cons_zero, wrl_0, wrl_1, wrl_2, wrl_3, wrl_4, wrl_5, wrl_p0, wrl_p1, wrl_p2, wrl_p3, wrl_p4]
          have wf : WFT (L, W, M, upd B v (nI x), n, s, g) := ⟨hn, w_n.2.2.1, BX_upd w_n.2.2.2 hx8⟩
          have hpos : ¬ 10 + B v < 0 := by
            obtain ⟨y, hy8, ey⟩ := w_n.2.2.2 v hvn
            have ey : B v = nI y := ey
            rw [ey, show (10 : Int32) = nI 10 from rfl, nI_add]
            exact nI_pos (by omega)
          exact h2 _ _ ha rfl ⟨wf, hX.2⟩ hpos (sA.mono (by omega) (by omega)) (fun T hT => tca_sm sA (by omega) hT) (CW_n (nw' := (L, W, M, upd B v (nI x), n, s, g)) hW sA ⟨tA, wf⟩)
      · have q1 : nI v < 0 ∨ nI n ≤ nI v := Or.inr (nI_le (by omega) (by omega))
        have hno : ¬ ∃ j, j < n ∧ nI v = nI j := by
          rintro ⟨j, hj, e⟩
          have := (nI_eq (by omega) (by omega)).mp e
          omega
        rw [if_pos q1] at h1
        refine tca_call (T := tcT (L, W, M, B, n, s, g)) (T' := tcT (L, W, M, B, n, s, g)) (r := some (.int (-1))) hT (fun a b' Q => ?_) (fun ha sA tA => ?_)
        · exact tc_move0 (Or.inl (hasI0 (n := n) hn hno))
        · simp only [s_167_0, s_167_1, s_167_4, s_167_5, s_167_8, s_167_60, s_167_61, s_167_64, s_167_65, s_167_68, s_167_69, s_167_72, s_167_73, s_167_74, s_167_75, s_167_78, s_167_79, s_167_82, s_167_85, s_167_88, s_167_89, s_167_90, s_167_91, s_167_94, s_167_95, s_167_98, s_167_99, s_167_100, s_167_101, s_167_102, s_167_105, s_167_106, s_167_107, s_167_108, s_167_111, s_167_112, s_167_113, s_167_114, s_167_117, s_167_120, s_167_121, s_167_122, s_167_125, s_167_126, s_167_129, s_167_130, s_167_131, s_167_132, s_167_135, s_167_136, s_167_139, s_167_140, s_167_141, s_167_142, s_167_145, s_167_148, s_167_149, s_167_150, s_167_153, s_167_154, s_167_157, s_167_158, s_167_159, s_167_160, s_167_163, s_167_166, s_167_167, s_167_168, s_167_171, s_167_172, s_167_175, s_167_176, s_167_177, s_167_178, s_167_181, s_167_184, s_167_185, s_167_186, x_get_i, List.getElem?_cons_succ, List.getElem?_cons_zero, x_cv_j, cs_n, cs_i, cs_r, cs_l, Nat.reduceAdd, Nat.reduceLeDiff, true_and, Option.toList_some, Option.toList_none, List.cons_append, List.nil_append, if_true, if_false, nb0, nb1, x_setJ, x_setZ0, x_setZ1, x_setA, x_setO, List.length_cons, List.length_nil, Nat.reduceLT, List.set_cons_succ, List.set_cons_zero, wrl_0, wrl_1, wrl_2, wrl_3, wrl_4, wrl_5, wrl_p0, wrl_p1, wrl_p2, wrl_p3, wrl_p4]
          exact h1 _ ha rfl (by decide) (sA.mono (by omega) (by omega)) (fun T hT => tca_sm sA (by omega) hT) (CW_n (nw' := (L, W, M, B, n, s, g)) hW sA ⟨tA, w_n.2⟩)
    rw [if_neg c77] at h1 h2
    by_cases c78 : F a = 78
    · have h5 : shp (F a) = 2 := by rw [c78]; decide
      rw [h5] at hall
      obtain ⟨l1, d1⟩ := hall 0 100 rfl
      obtain ⟨y, hy, ey⟩ := txs_d0 d1
      have ey : F (a + 1) = nI (48 + y) := ey
      rw [if_pos c78] at h1 h2
      rw [ey, nI_48, nI_clamp (by omega)] at h2
      simp only [c78, show ¬ (78 : Int32) = 67 by decide, show ¬ (78 : Int32) = 70 by decide, show ¬ (78 : Int32) = 77 by decide, if_true, if_false, tx_digitAt' hx hc80, tc_all hT, s_167_0, s_167_1, s_167_4, s_167_5, s_167_8, s_167_60, s_167_61, s_167_64, s_167_65, s_167_68, s_167_69, s_167_72, s_167_73, s_167_74, s_167_75, s_167_78, s_167_79, s_167_82, s_167_85, s_167_88, s_167_89, s_167_90, s_167_91, s_167_94, s_167_95, s_167_98, s_167_99, s_167_100, s_167_101, s_167_102, s_167_105, s_167_106, s_167_107, s_167_108, s_167_111, s_167_112, s_167_113, s_167_114, s_167_117, s_167_120, s_167_121, s_167_122, s_167_125, s_167_126, s_167_129, s_167_130, s_167_131, s_167_132, s_167_135, s_167_136, s_167_139, s_167_140, s_167_141, s_167_142, s_167_145, s_167_148, s_167_149, s_167_150, s_167_153, s_167_154, s_167_157, s_167_158, s_167_159, s_167_160, s_167_163, s_167_166, s_167_167, s_167_168, s_167_171, s_167_172, s_167_175, s_167_176, s_167_177, s_167_178, s_167_181, s_167_184, s_167_185, s_167_186, x_get_i, List.getElem?_cons_succ, List.getElem?_cons_zero, x_cv_j, cs_n, cs_i, cs_r, cs_l, Nat.reduceAdd, Nat.reduceLeDiff, true_and, Option.toList_some, Option.toList_none, List.cons_append, List.nil_append, if_true, if_false, nb0, nb1, x_setJ, x_setZ0, x_setZ1, x_setA, x_setO, List.length_cons, List.length_nil, Nat.reduceLT, List.set_cons_succ, List.set_cons_zero, wrl_0, wrl_1, wrl_2, wrl_3, wrl_4, wrl_5, wrl_p0, wrl_p1, wrl_p2, wrl_p3, wrl_p4, o_0, a_0, c_0, n_0, p_0, q_0, m_0, g_0, e1, txa_n (show a + 1 < c by omega) hc80, ey, nI_48]
      refine c_nightsB (by omega) hW (fun ha sA kA hWa => ?_)
      simp only [s_167_0, s_167_1, s_167_4, s_167_5, s_167_8, s_167_60, s_167_61, s_167_64, s_167_65, s_167_68, s_167_69, s_167_72, s_167_73, s_167_74, s_167_75, s_167_78, s_167_79, s_167_82, s_167_85, s_167_88, s_167_89, s_167_90, s_167_91, s_167_94, s_167_95, s_167_98, s_167_99, s_167_100, s_167_101, s_167_102, s_167_105, s_167_106, s_167_107, s_167_108, s_167_111, s_167_112, s_167_113, s_167_114, s_167_117, s_167_120, s_167_121, s_167_122, s_167_125, s_167_126, s_167_129, s_167_130, s_167_131, s_167_132, s_167_135, s_167_136, s_167_139, s_167_140, s_167_141, s_167_142, s_167_145, s_167_148, s_167_149, s_167_150, s_167_153, s_167_154, s_167_157, s_167_158, s_167_159, s_167_160, s_167_163, s_167_166, s_167_167, s_167_168, s_167_171, s_167_172, s_167_175, s_167_176, s_167_177, s_167_178, s_167_181, s_167_184, s_167_185, s_167_186, x_get_i, List.getElem?_cons_succ, List.getElem?_cons_zero, x_cv_j, cs_n, cs_i, cs_r, cs_l, Nat.reduceAdd, Nat.reduceLeDiff, true_and, Option.toList_some, Option.toList_none, List.cons_append, List.nil_append, if_true, if_false, nb0, nb1, x_setJ, x_setZ0, x_setZ1, x_setA, x_setO, List.length_cons, List.length_nil, Nat.reduceLT, List.set_cons_succ, List.set_cons_zero, wrl_0, wrl_1, wrl_2, wrl_3, wrl_4, wrl_5, wrl_p0, wrl_p1, wrl_p2, wrl_p3, wrl_p4]
      exact h2 _ _ ha rfl (WFX_nXT hX) (by decide) sA kA hWa
    rw [if_neg c78] at h1 h2
    by_cases c83 : F a = 83
    · have h5 : shp (F a) = 3 := by rw [c83]; decide
      rw [h5] at hall
      obtain ⟨l1, d1⟩ := hall 0 115 rfl
      obtain ⟨l2, d2⟩ := hall 1 100 rfl
      obtain ⟨l3, d3⟩ := hall 2 108 rfl
      rw [if_pos c83] at hg h1 h2
      obtain ⟨b1, b2⟩ := bhl_all hg
      have b3 := (bhl_le (F := F) (a := a) (e := c) (j := c - (a + 4) + 1) (p := a + 4) (by omega)).2 q hg
      have hl : lrd F (a + 3) (q - (a + 3)) (a + 3) = none := lrd_ok (fun k a1 a2 => by
        by_cases e : k = a + 3
        · rw [e]; exact d3
        · exact b1 k (by omega) (by omega)) (by have := b2 (by omega); omega) (by omega)
      obtain ⟨N, P, z, p, ce⟩ := w_e
      have ee := cel_0 ce
      simp only [c83, show ¬ (83 : Int32) = 67 by decide, show ¬ (83 : Int32) = 70 by decide, show ¬ (83 : Int32) = 77 by decide, show ¬ (83 : Int32) = 78 by decide, if_true, if_false, s_167_0, s_167_1, s_167_4, s_167_5, s_167_8, s_167_60, s_167_61, s_167_64, s_167_65, s_167_68, s_167_69, s_167_72, s_167_73, s_167_74, s_167_75, s_167_78, s_167_79, s_167_82, s_167_85, s_167_88, s_167_89, s_167_90, s_167_91, s_167_94, s_167_95, s_167_98, s_167_99, s_167_100, s_167_101, s_167_102, s_167_105, s_167_106, s_167_107, s_167_108, s_167_111, s_167_112, s_167_113, s_167_114, s_167_117, s_167_120, s_167_121, s_167_122, s_167_125, s_167_126, s_167_129, s_167_130, s_167_131, s_167_132, s_167_135, s_167_136, s_167_139, s_167_140, s_167_141, s_167_142, s_167_145, s_167_148, s_167_149, s_167_150, s_167_153, s_167_154, s_167_157, s_167_158, s_167_159, s_167_160, s_167_163, s_167_166, s_167_167, s_167_168, s_167_171, s_167_172, s_167_175, s_167_176, s_167_177, s_167_178, s_167_181, s_167_184, s_167_185, s_167_186, x_get_i, List.getElem?_cons_succ, List.getElem?_cons_zero, x_cv_j, cs_n, cs_i, cs_r, cs_l, Nat.reduceAdd, Nat.reduceLeDiff, true_and, Option.toList_some, Option.toList_none, List.cons_append, List.nil_append, if_true, if_false, nb0, nb1, x_setJ, x_setZ0, x_setZ1, x_setA, x_setO, List.length_cons, List.length_nil, Nat.reduceLT, List.set_cons_succ, List.set_cons_zero, wrl_0, wrl_1, wrl_2, wrl_3, wrl_4, wrl_5, wrl_p0, wrl_p1, wrl_p2, wrl_p3, wrl_p4, o_0, a_0, c_0, n_0, p_0, q_0, m_0, g_0, ee, e3]
      refine cel_call (n := 3) (cs' := lec (b + 143) (LN N F (a + 3) (q - (a + 3))) P (nI (q - (a + 3))) p) (r := some (.int (-1))) ce rfl (fun Q => ?_) (fun ha sA cA => ?_)
      · have er := le_read (sa := sa) (sc := sc) (xt := xt) (d := d + 2) (h := h) (Q := Q) (N := N) (P := P) (z := z) (p := p) (q := b + 143) (f := a + 3) (e := q) hx hc80 (by omega) (by omega) (by omega)
        rw [hl] at er
        exact er
      · have hWa := CW_e hW sA ⟨_, _, _, _, cA⟩
        have o_a := hWa.1
        have a_a : ha.2.2 (b + 1) = .inr (8, _) := hWa.2.1.1.1
        have c_a : ha.2.2 (b + 3) = .inr (5, _) := cel_0 hWa.2.2.1.1
        have n_a : ha.2.2 (b + 5) = .inr (9, _) := hWa.2.2.2.1.1.1
        have p_a : ha.2.2 (b + 33) = .inr (6, _) := hWa.2.2.2.2.2.2.2.1.1.1
        have q_a : ha.2.2 (b + 152) = .inr (2, _) := cel_0 hWa.2.2.2.2.2.2.2.2.2.2.2.2.2.2.1.1
        obtain ⟨_, mm_a⟩ := hWa.2.2.2.2.2.2.2.2.2.2.2.2.2.2.2.1.1
        have m_a : ha.2.2 (b + 154) = .inr (4, _) := cel_0 mm_a
        have g_a : ha.2.2 (b + 159) = .inr (1, _) := cel_0 hWa.2.2.2.2.2.2.2.2.2.2.2.2.2.2.2.2.1.1
        have hxa : tx_in ha (b + 1) c F := hWa.2.1.1
        simp only [s_167_0, s_167_1, s_167_4, s_167_5, s_167_8, s_167_60, s_167_61, s_167_64, s_167_65, s_167_68, s_167_69, s_167_72, s_167_73, s_167_74, s_167_75, s_167_78, s_167_79, s_167_82, s_167_85, s_167_88, s_167_89, s_167_90, s_167_91, s_167_94, s_167_95, s_167_98, s_167_99, s_167_100, s_167_101, s_167_102, s_167_105, s_167_106, s_167_107, s_167_108, s_167_111, s_167_112, s_167_113, s_167_114, s_167_117, s_167_120, s_167_121, s_167_122, s_167_125, s_167_126, s_167_129, s_167_130, s_167_131, s_167_132, s_167_135, s_167_136, s_167_139, s_167_140, s_167_141, s_167_142, s_167_145, s_167_148, s_167_149, s_167_150, s_167_153, s_167_154, s_167_157, s_167_158, s_167_159, s_167_160, s_167_163, s_167_166, s_167_167, s_167_168, s_167_171, s_167_172, s_167_175, s_167_176, s_167_177, s_167_178, s_167_181, s_167_184, s_167_185, s_167_186, x_get_i, List.getElem?_cons_succ, List.getElem?_cons_zero, x_cv_j, cs_n, cs_i, cs_r, cs_l, Nat.reduceAdd, Nat.reduceLeDiff, true_and, Option.toList_some, Option.toList_none, List.cons_append, List.nil_append, if_true, if_false, nb0, nb1, x_setJ, x_setZ0, x_setZ1, x_setA, x_setO, List.length_cons, List.length_nil, Nat.reduceLT, List.set_cons_succ, List.set_cons_zero, wrl_0, wrl_1, wrl_2, wrl_3, wrl_4, wrl_5, wrl_p0, wrl_p1, wrl_p2, wrl_p3, wrl_p4, o_a, a_a, c_a, n_a, p_a, q_a, m_a, g_a, tx_signedDigitAt' hxa hc80, e1, e2, txa_n (show a + 1 < c by omega) hc80, txa_n (show a + 2 < c by omega) hc80]
        refine c_setL (f := a + 3) (k := q - (a + 3)) hWa cA (by omega) (fun ht => ?_) (fun t hb ht hpos sB hWb => ?_)
        · simp only [s_167_0, s_167_1, s_167_4, s_167_5, s_167_8, s_167_60, s_167_61, s_167_64, s_167_65, s_167_68, s_167_69, s_167_72, s_167_73, s_167_74, s_167_75, s_167_78, s_167_79, s_167_82, s_167_85, s_167_88, s_167_89, s_167_90, s_167_91, s_167_94, s_167_95, s_167_98, s_167_99, s_167_100, s_167_101, s_167_102, s_167_105, s_167_106, s_167_107, s_167_108, s_167_111, s_167_112, s_167_113, s_167_114, s_167_117, s_167_120, s_167_121, s_167_122, s_167_125, s_167_126, s_167_129, s_167_130, s_167_131, s_167_132, s_167_135, s_167_136, s_167_139, s_167_140, s_167_141, s_167_142, s_167_145, s_167_148, s_167_149, s_167_150, s_167_153, s_167_154, s_167_157, s_167_158, s_167_159, s_167_160, s_167_163, s_167_166, s_167_167, s_167_168, s_167_171, s_167_172, s_167_175, s_167_176, s_167_177, s_167_178, s_167_181, s_167_184, s_167_185, s_167_186, x_get_i, List.getElem?_cons_succ, List.getElem?_cons_zero, x_cv_j, cs_n, cs_i, cs_r, cs_l, Nat.reduceAdd, Nat.reduceLeDiff, true_and, Option.toList_some, Option.toList_none, List.cons_append, List.nil_append, if_true, if_false, nb0, nb1, x_setJ, x_setZ0, x_setZ1, x_setA, x_setO, List.length_cons, List.length_nil, Nat.reduceLT, List.set_cons_succ, List.set_cons_zero, wrl_0, wrl_1, wrl_2, wrl_3, wrl_4, wrl_5, wrl_p0, wrl_p1, wrl_p2, wrl_p3, wrl_p4]
          rw [ht] at h1
          exact h1 _ ha rfl (by decide) (sA.mono (by omega) (by omega)) (fun T hT => tca_sm sA (by omega) hT) hWa
        · simp only [s_167_0, s_167_1, s_167_4, s_167_5, s_167_8, s_167_60, s_167_61, s_167_64, s_167_65, s_167_68, s_167_69, s_167_72, s_167_73, s_167_74, s_167_75, s_167_78, s_167_79, s_167_82, s_167_85, s_167_88, s_167_89, s_167_90, s_167_91, s_167_94, s_167_95, s_167_98, s_167_99, s_167_100, s_167_101, s_167_102, s_167_105, s_167_106, s_167_107, s_167_108, s_167_111, s_167_112, s_167_113, s_167_114, s_167_117, s_167_120, s_167_121, s_167_122, s_167_125, s_167_126, s_167_129, s_167_130, s_167_131, s_167_132, s_167_135, s_167_136, s_167_139, s_167_140, s_167_141, s_167_142, s_167_145, s_167_148, s_167_149, s_167_150, s_167_153, s_167_154, s_167_157, s_167_158, s_167_159, s_167_160, s_167_163, s_167_166, s_167_167, s_167_168, s_167_171, s_167_172, s_167_175, s_167_176, s_167_177, s_167_178, s_167_181, s_167_184, s_167_185, s_167_186, x_get_i, List.getElem?_cons_succ, List.getElem?_cons_zero, x_cv_j, cs_n, cs_i, cs_r, cs_l, Nat.reduceAdd, Nat.reduceLeDiff, true_and, Option.toList_some, Option.toList_none, List.cons_append, List.nil_append, if_true, if_false, nb0, nb1, x_setJ, x_setZ0, x_setZ1, x_setA, x_setO, List.length_cons, List.length_nil, Nat.reduceLT, List.set_cons_succ, List.set_cons_zero, wrl_0, wrl_1, wrl_2, wrl_3, wrl_4, wrl_5, wrl_p0, wrl_p1, wrl_p2, wrl_p3, wrl_p4]
          rw [ht] at h2
          exact h2 _ _ hb rfl ⟨w_n.2, sM_b hX.2.1 n, sW_b hX.2.2 n (Nat.le_refl _)⟩ hpos ((sA.mono (by omega) (by omega)).trans (sB.mono (by omega) (by omega))) (fun T hT => tca_sm sB (by omega) (tca_sm sA (by omega) hT)) hWb
    · exfalso
      apply k6
      unfold shp
      rw [if_neg c67, if_neg c70, if_neg c77, if_neg c78, if_neg c83]
end
