/-! the law's relation: class and reference side by side -/
def SBA (nw : TN) (pa : PA) : Prop := SB nw ∧ (∀ x, x < 12 → SB (pa.2.2.1 x)) ∧ ∀ i, i < 2 → SB (pa.2.2.2.1 i)
theorem SBA.nw {nw nw' : TN} {pa : PA} (h : SBA nw pa) (hn : SB nw') : SBA nw' pa := ⟨hn, h.2⟩
theorem SBA.push {nw nw' : TN} {pa : PA} (h : SBA nw pa) (hn : SB nw') : SBA nw' (pap1 pa nw) := by
  refine ⟨hn, fun x hx => ?_, h.2.2⟩
  show SB (if x = pa.2.1 then nw else pa.2.2.1 x)
  split
  · exact h.1
  · exact h.2.1 x hx
theorem CW_out {sa : g_SA} {h h' : tm_H} {b lo hi : Nat} {tx : Nat × (Nat → Int32)} {rw : Nat × (Nat → Int64)} {nw : TN} {pa : PA} {ru : Nat × Nat × List Int32} {he : Nat × (Nat → Int32)} {mi : Nat × (Nat → Int32) × (Nat → Int32) × (Nat → Int32)} {ga : Nat} (hW : CW sa h b tx rw nw pa ru he mi ga) (hs : sm lo hi h h') (hb : b + 162 ≤ lo) : CW sa h' b tx rw nw pa ru he mi ga := by
  obtain ⟨w_o, w_t, w_r, w_n, w_h, w_l, w_b, w_p, w_u, w_v, w_a, w_e, w_w, w_x, w_q, w_m, w_g, w_d, w_s⟩ := hW
  exact ⟨(hs.2.2 b (by omega)).trans w_o, ⟨tx_sm hs (by omega) w_t.1, w_t.2⟩, ⟨cel_sm hs (by simp only [List.length_cons, List.length_nil]; omega) w_r.1, w_r.2⟩, ⟨tca_sm hs (by omega) w_n.1, w_n.2⟩, (let ⟨T, q⟩ := w_h; ⟨T, tca_sm hs (by omega) q⟩), (let ⟨T, q⟩ := w_l; ⟨T, tca_sm hs (by omega) q⟩), (let ⟨T, q⟩ := w_b; ⟨T, tca_sm hs (by omega) q⟩), ⟨pa_in_sm hs (by omega) w_p.1, w_p.2⟩, RUc_sm hs (by omega) w_u, RUs_sm hs (by omega) w_v, w_a, (let ⟨N, P, z, p, q⟩ := w_e; ⟨N, P, z, p, cel_sm hs (by simp only [List.length_cons, List.length_nil]; omega) q⟩), (let ⟨N, T, z, q⟩ := w_w; ⟨N, T, z, cel_sm hs (by simp only [List.length_cons, List.length_nil]; omega) q⟩), (let ⟨P, A, q⟩ := w_x; ⟨P, A, cel_sm hs (by simp only [List.length_cons, List.length_nil]; omega) q⟩), ⟨cel_sm hs (by simp only [List.length_cons, List.length_nil]; omega) w_q.1, w_q.2⟩, ⟨(let ⟨A, q⟩ := w_m.1; ⟨A, cel_sm hs (by simp only [List.length_cons, List.length_nil]; omega) q⟩), w_m.2⟩, ⟨cel_sm hs (by simp only [List.length_cons, List.length_nil]; omega) w_g.1, w_g.2⟩, (let ⟨f, q⟩ := w_d; ⟨f, (hs.2.2 _ (by omega)).trans q⟩), ⟨SH_sm w_s.2 (by omega) hs w_s.1, w_s.2⟩⟩
/-- the law's own row -/
def OUT (zk : Nat × Nat) (hh : tm_H) (b : Nat) : Prop := (∃ f, hh.2.2 (b + 192) = .inl (3, 1, .inr (.inl f))) ∧ hh.1 = zk.1 ∧ hh.2.1 = zk.2 ∧ b + 193 ≤ zk.1
def RSd (sa : g_SA) (b : Nat) (zk : Nat × Nat) (hh : tm_H) (tx : Nat × (Nat → Int32)) (rw : Nat × (Nat → Int64)) (nw : TN) (pa : PA) (ru : Nat × Nat × List Int32) (he : Nat × (Nat → Int32)) (mi : Nat × (Nat → Int32) × (Nat → Int32) × (Nat → Int32)) (ga : Nat) : Prop := ∃ h0 I rd C, hh = mh h0 (b + 162) I rd (b + 162 + 6) C ∧ CW sa hh b tx rw nw pa ru he mi ga ∧ MV I C tx rw nw pa ru.2.2 he mi ∧ SBA nw pa ∧ OUT zk hh b
def RLX (sa : g_SA) (b : Nat) (zk : Nat × Nat) (hh : tm_H) : Prop := ∃ tx rw nw pa ru he mi ga, RSd sa b zk hh tx rw nw pa ru he mi ga
/-- both answer the same, and stay side by side -/
def PQ (sa : g_SA) (b : Nat) (zk : Nat × Nat) (r r' : Option Value) (hh : tm_H) : Prop := r' = r ∧ (∃ x, r = some (.int x)) ∧ RLX sa b zk hh
theorem mh_mid {h0 hh h' : tm_H} {b ru : Nat} {I : Nat → Int32} {rd : Value} {C : Nat → tm_E} (e : hh = mh h0 (b + 162) I rd ru C) (hs : sm b (b + 162) hh h') : h' = mh h' (b + 162) I rd ru C := by
  refine tcp_ext rfl rfl (fun q => ?_)
  show h'.2.2 q = (if q = b + 162 then mo (b + 162) I rd ru else if q < b + 162 then h'.2.2 q else if q < b + 162 + 30 then C (q - (b + 162)) else h'.2.2 q)
  by_cases c1 : q = b + 162
  · rw [if_pos c1, hs.2.2 q (by omega), e, c1]
    exact mh_o
  · rw [if_neg c1]
    by_cases c2 : q < b + 162
    · rw [if_pos c2]
    · rw [if_neg c2]
      by_cases c3 : q < b + 162 + 30
      · rw [if_pos c3, hs.2.2 q (by omega), e]
        have := mh_c (h := h0) (m := b + 162) (I := I) (rd := rd) (ru := ru) (C := C) (i := q - (b + 162)) (by omega) (by omega)
        rwa [show b + 162 + (q - (b + 162)) = q by omega] at this
      · rw [if_neg c3]
theorem mh_sm {h : tm_H} {m ru ru' : Nat} {I I' : Nat → Int32} {rd rd' : Value} {C C' : Nat → tm_E} : sm m (m + 30) (mh h m I rd ru C) (mh h m I' rd' ru' C') := ⟨rfl, rfl, fun q hq => (mh_out (by omega)).trans (mh_out (by omega)).symm⟩
theorem RL_mk {sa : g_SA} {b : Nat} {zk : Nat × Nat} {h0 hh h' : tm_H} {I I' : Nat → Int32} {rd rd' : Value} {C C' : Nat → tm_E} {tx : Nat × (Nat → Int32)} {rw : Nat × (Nat → Int64)} {nw : TN} {pa : PA} {ru : Nat × Nat × List Int32} {he : Nat × (Nat → Int32)} {mi : Nat × (Nat → Int32) × (Nat → Int32) × (Nat → Int32)} {ga : Nat} (e : hh = mh h0 (b + 162) I rd (b + 162 + 6) C) (ho : OUT zk hh b) (hs : sm b (b + 162) hh h') (hW : CW sa h' b tx rw nw pa ru he mi ga) (hM : MV I' C' tx rw nw pa ru.2.2 he mi) (hS : SBA nw pa) {x : Int32} : PQ sa b zk (some (.int x)) (some (.int x)) (mh h' (b + 162) I' rd' (b + 162 + 6) C') := by
  have hmid := mh_mid e hs
  refine ⟨rfl, ⟨x, rfl⟩, tx, rw, nw, pa, ru, he, mi, ga, h', I', rd', C', rfl, ?_, hM, hS, ?_⟩
  · have hs2 : sm (b + 162) (b + 162 + 30) h' (mh h' (b + 162) I' rd' (b + 162 + 6) C') := by
      refine ⟨rfl, rfl, fun q hq => mh_out (by omega)⟩
    exact CW_out hW hs2 (Nat.le_refl _)
  · obtain ⟨⟨f, hf⟩, z1, z2, z3⟩ := ho
    exact ⟨⟨f, (mh_out (by omega)).trans ((hs.2.2 _ (by omega)).trans hf)⟩, hs.1.trans z1, hs.2.1.trans z2, z3⟩
section
variable {sa : g_SA} {sc : Nat × Nat × (Nat → Int32)} {xt : Nat → Nat → List Value → tm_H → Option (Option Value × tm_H)} {d b : Nat} {zk : Nat × Nat} {hh : tm_H} {v w : Int32}
theorem p_sign (hR : RLX sa b zk hh) : tm_D (g_G sa sc xt) (d + 300) 110 [.ref b, .int v] hh (fun r h1 => (∃ q, h1.2.2 (b + 162) = .inr (12, q)) ∧ tm_D (g_G sa sc xt) (d + 300) 185 [.ref (b + 162), .int v] h1 (PQ sa b zk r)) := by
  obtain ⟨⟨c, F⟩, rw, nw, pa, ru, he, mi, ga, h0, I, rd, C, e, hW, hM, hS, ho⟩ := hR
  refine c_sign hW v (fun z h' hs hW' => ?_) (fun z => ?_)
  · rw [mh_mid e hs]; refine ⟨⟨_, mh_o⟩, ?_⟩
    exact m_sign hM v (fun _ I' C' hM' => RL_mk e ho hs hW' hM' hS) (fun z' => absurd z z')
  · rw [mh_mid e sm.rfl]; refine ⟨⟨_, mh_o⟩, ?_⟩
    exact m_sign hM v (fun z' => absurd z' z) (fun _ I' hM' => RL_mk e ho sm.rfl hW hM' hS)
theorem p_end (hR : RLX sa b zk hh) : tm_D (g_G sa sc xt) (d + 300) 111 [.ref b, .int v] hh (fun r h1 => (∃ q, h1.2.2 (b + 162) = .inr (12, q)) ∧ tm_D (g_G sa sc xt) (d + 300) 186 [.ref (b + 162), .int v] h1 (PQ sa b zk r)) := by
  obtain ⟨⟨c, F⟩, rw, nw, pa, ru, he, mi, ga, h0, I, rd, C, e, hW, hM, hS, ho⟩ := hR
  have hc : c ≤ 80 := hM.1.2.1
  refine c_end hW v (fun j h' hj ej hs hW' => ?_) (fun z => ?_)
  · subst ej
    rw [mh_mid e hs]; refine ⟨⟨_, mh_o⟩, ?_⟩
    refine m_end hM (nI j) (fun j' I' hj' ej' hM' => ?_) (fun I' z => ?_)
    · have : j = j' := (nI_eq (by omega) (by omega)).mp ej'
      subst this
      exact RL_mk e ho hs hW' hM' hS
    · exfalso
      rcases z with z | z
      · exact nI_pos (by omega) z
      · exact nI_nlt hj (by omega) z
  · rw [mh_mid e sm.rfl]; refine ⟨⟨_, mh_o⟩, ?_⟩
    refine m_end hM v (fun j' I' hj' ej' hM' => ?_) (fun I' z' hM' => RL_mk e ho sm.rfl hW hM' hS)
    exfalso
    subst ej'
    rcases z with z | z
    · exact nI_pos (by omega) z
    · exact nI_nlt hj' (by omega) z
end
