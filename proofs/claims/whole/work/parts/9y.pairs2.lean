/-! pairs: the other calls -/
theorem t1_n {own W : Nat → Int32} {n : Nat} {s x : Int32} (hn : n ≤ 12) : ∀ {m : Nat} {t t' : Int32}, (∀ i, n ≤ i → i < 32 → bt t i = false) → tc_t1 own W n s x m t = some t' → ∀ i, n ≤ i → i < 32 → bt t' i = false
  | 0, t, t', h, e => by cases e; exact h
  | m + 1, t, t', h, e => by
    unfold tc_t1 at e
    split at e
    · cases e
    · rename_i j hj
      refine t1_n hn (fun i h1 h2 => ?_) e
      have hj := tc_lw_lt hj
      rw [bt_or, h i h1 h2, bt_one (by omega) h2, decide_eq_false (by omega)]; rfl
theorem t2_n {L W : Nat → Int32} {n : Nat} {s : Int32} {c : Nat → Nat} (hn : n ≤ 12) : ∀ {m l : Nat} {t t' : Int32}, (∀ i, n ≤ i → i < 32 → bt t i = false) → tc_t2 L W n s c m l t = some t' → ∀ i, n ≤ i → i < 32 → bt t' i = false
  | 0, l, t, t', h, e => by cases e; exact h
  | m + 1, l, t, t', h, e => by
    unfold tc_t2 at e
    split at e
    · cases e
    · rename_i t1 ht
      exact t2_n hn (t1_n hn h ht) e
theorem SB_set {L W M B L' W' M' B' : Nat → Int32} {n : Nat} {s g g' t : Int32} {c : Nat → Nat} (hn : n ≤ 12) (h : SB (L, W, M, B, n, s, g)) (ht : tc_t2 L W n s c 8 0 0 = some t) : SB (L', W', M', B', n, s ||| t, g') := by
  intro i h1 h2
  show bt (s ||| t) i = false
  rw [bt_or, show bt s i = false from h i h1 h2, t2_n hn (fun i _ _ => bt_0) ht i h1 h2]; rfl
theorem wact_sb {cd : List Int32} {F : Nat → Int32} {X X' : TN} {a q : Nat} (hn : X.2.2.2.2.1 ≤ 12) (hS : SB X) (h : wact cd F X a q = some X') : SB X' := by
  obtain ⟨L, W, M, B, n, s, g⟩ := X
  unfold wact at h
  dsimp only at h
  split at h
  · split at h
    · cases h
    · split at h
      · cases h
      · cases h; exact hS
  split at h
  · split at h
    · cases h
    · split at h
      · cases h
      · cases h; exact hS
  split at h
  · split at h
    · cases h
    · split at h
      · cases h
      · split at h
        · cases h
        · cases h; exact hS
  split at h
  · cases h
    exact SB_nXT hn hS _
  split at h
  · split at h
    · cases h
    · rename_i t ht
      cases h
      exact SB_set hn hS ht
  · cases h
theorem wks_sb {cd : List Int32} {F : Nat → Int32} {c : Nat} : ∀ {j a k : Nat} {X : TN}, X.2.2.2.2.1 ≤ 12 → SB X → SB (wks cd F c j a X k).2.2
  | 0, a, k, X, hn, hS => hS
  | j + 1, a, k, X, hn, hS => by
    rw [wks_s]
    split
    · exact hS
    · split
      · exact hS
      · split
        · exact hS
        · rename_i X' hw
          exact wks_sb (by rw [(wact_lk hw).1]; exact hn) (wact_sb hn hS hw)
theorem fwk_le {F : Nat → Int32} {c e : Nat} : ∀ {j a p : Nat}, fwk F c e j a = some p → p ≤ e + 7
  | 0, a, p, h => by
    unfold fwk at h
    split at h
    · cases h; omega
    · cases h
  | j + 1, a, p, h => by
    rw [fwk_s] at h
    split at h
    · split at h
      · cases h; omega
      · cases h
    · split at h
      · rename_i q hq
        cases h
        exact (bha_le (by omega)).1 _ hq
      · exact fwk_le h
theorem lfl_le {F : Nat → Int32} {c e : Nat} : ∀ {j p q : Nat}, lfl F c e j p = some q → q ≤ p + 5 * j + e + 5
  | 0, p, q, h => by cases h; omega
  | j + 1, p, q, h => by
    unfold lfl at h
    split at h
    · rename_i q' hq
      cases h
      have := (mfn_lt hq).2
      have h4 : (g_sb 0).length = 4 := rfl
      omega
    · split at h
      · split at h
        · cases h; omega
        · cases h
      · split at h
        · have := lfl_le h; omega
        · cases h; omega
theorem lfv_le {F : Nat → Int32} {c n p : Nat} (h : lfv F c n = some p) : p < 2 ^ 31 := by
  unfold lfv at h
  split at h
  · cases h
  · have := lfl_le h
    omega
theorem SB_ad {F : Nat → Int32} {X : TN} (h : SB X) (k : Nat) : SB (adX F X k) := by
  intro i h1 h2
  rw [adX_n] at h1
  rw [adX_s]
  exact h i (by omega) h2
section
variable {sa : g_SA} {sc : Nat × Nat × (Nat → Int32)} {xt : Nat → Nat → List Value → tm_H → Option (Option Value × tm_H)} {d b : Nat} {zk : Nat × Nat} {hh : tm_H} {v w x y : Int32}
theorem p_sorts (hR : RLX sa b zk hh) : tm_D (g_G sa sc xt) (d + 300) 112 [.ref b] hh (fun r h1 => (∃ q, h1.2.2 (b + 162) = .inr (12, q)) ∧ tm_D (g_G sa sc xt) (d + 300) 198 [.ref (b + 162)] h1 (PQ sa b zk r)) := by
  obtain ⟨⟨c, F⟩, ⟨rc, R⟩, ⟨L, W, M, B, n, s, g⟩, pa, ru, ⟨hc, H⟩, ⟨mc, Ms, Bs, Os⟩, ga, h0, I, rd, C, e, hW, hM, hS, ho⟩ := hR
  refine c_sorts hW (fun p h' z hs hW' => ?_) (fun k h' z hk hnk hl hs hW' => ?_) (fun p z => lfv_le z)
  · rw [mh_mid e hs]; refine ⟨⟨_, mh_o⟩, ?_⟩
    refine m_sorts hM hS.1 (fun p' I' rd' C' z' _ hM' => ?_) (fun k' I' rd' C' z' => by cases z.symm.trans z')
    cases z.symm.trans z'
    exact RL_mk e ho hs hW' hM' hS
  · rw [mh_mid e hs]; refine ⟨⟨_, mh_o⟩, ?_⟩
    refine m_sorts hM hS.1 (fun p' I' rd' C' z' => by cases z.symm.trans z') (fun k' I' rd' C' z' hk' hM' => ?_)
    have : k = k' := by omega
    subst this
    refine RL_mk e ho hs hW' hM' ?_
    split
    · exact hS.nw (SB_ad hS.1 k)
    · exact ⟨SB_ad hS.1 k, hS.2⟩
theorem p_sheet (hR : RLX sa b zk hh) : tm_D (g_G sa sc xt) (d + 300) 116 [.ref b, .int v, .int w, .int x, .int y] hh (fun r h1 => (∃ q, h1.2.2 (b + 162) = .inr (12, q)) ∧ tm_D (g_G sa sc xt) (d + 300) 212 [.ref (b + 162), .int v, .int w, .int x, .int y] h1 (PQ sa b zk r)) := by
  obtain ⟨⟨c, F⟩, ⟨rc, R⟩, ⟨L, W, M, B, n, s, g⟩, pa, ru, ⟨hc, H⟩, ⟨mc, Ms, Bs, Os⟩, ga, h0, I, rd, C, e, hW, hM, hS, ho⟩ := hR
  refine c_sheet hW v w x y (fun z => ?_) (fun z z2 h' hs hW' => ?_) (fun z z2 z3 => ?_) (fun z z2 z3 h' hs hW' => ?_)
  · rw [mh_mid e sm.rfl]; refine ⟨⟨_, mh_o⟩, ?_⟩
    exact m_sheet hM v w x y (fun I' _ hM' => RL_mk e ho sm.rfl hW hM' hS) (fun z' => absurd z z') (fun z' => absurd z z') (fun z' => absurd z z')
  · rw [mh_mid e hs]; refine ⟨⟨_, mh_o⟩, ?_⟩
    exact m_sheet hM v w x y (fun I' z' => absurd z' z) (fun _ _ I' C' hM' => RL_mk e ho hs hW' hM' (hS.nw hS.1)) (fun _ z' => absurd z2 z') (fun _ z' => absurd z2 z')
  · rw [mh_mid e sm.rfl]; refine ⟨⟨_, mh_o⟩, ?_⟩
    exact m_sheet hM v w x y (fun I' z' => absurd z' z) (fun _ z' => absurd z' z2) (fun _ _ _ I' hM' => RL_mk e ho sm.rfl hW hM' hS) (fun _ _ z' => absurd z3 z')
  · rw [mh_mid e hs]; refine ⟨⟨_, mh_o⟩, ?_⟩
    exact m_sheet hM v w x y (fun I' z' => absurd z' z) (fun _ z' => absurd z' z2) (fun _ _ z' => absurd z' z3) (fun _ _ _ I' C' hM' => RL_mk e ho hs hW' hM' (hS.nw hS.1))
theorem p_sets (hR : RLX sa b zk hh) : tm_D (g_G sa sc xt) (d + 300) 117 [.ref b, .int v] hh (fun r h1 => (∃ q, h1.2.2 (b + 162) = .inr (12, q)) ∧ tm_D (g_G sa sc xt) (d + 300) 220 [.ref (b + 162), .int v] h1 (PQ sa b zk r)) := by
  obtain ⟨⟨c, F⟩, ⟨rc, R⟩, ⟨L, W, M, B, n, s, g⟩, pa, ru, ⟨hc, H⟩, ⟨mc, Ms, Bs, Os⟩, ga, h0, I, rd, C, e, hW, hM, hS, ho⟩ := hR
  refine c_sets hW v (fun p h' z hs hW' => ?_) (fun h' z z2 hs hW' => ?_) (fun h' z z2 z3 hs hW' => ?_) (fun t h' z z2 z3 hs hW' => ?_)
  · rw [mh_mid e hs]; refine ⟨⟨_, mh_o⟩, ?_⟩
    refine m_sets hM v (fun p' I' rd' C' z' hM' => ?_) (fun I' rd' C' z' => by cases z.symm.trans z') (fun I' rd' C' z' => by cases z.symm.trans z') (fun t I' rd' C' z' => by cases z.symm.trans z')
    cases z.symm.trans z'
    exact RL_mk e ho hs hW' hM' hS
  · rw [mh_mid e hs]; refine ⟨⟨_, mh_o⟩, ?_⟩
    exact m_sets hM v (fun p' I' rd' C' z' => by cases z.symm.trans z') (fun I' rd' C' _ _ hM' => RL_mk e ho hs hW' hM' hS) (fun I' rd' C' _ z' => absurd z2 z') (fun t I' rd' C' _ z' => absurd z2 z')
  · rw [mh_mid e hs]; refine ⟨⟨_, mh_o⟩, ?_⟩
    exact m_sets hM v (fun p' I' rd' C' z' => by cases z.symm.trans z') (fun I' rd' C' _ z' => absurd z' z2) (fun I' rd' C' _ _ _ hM' => RL_mk e ho hs hW' hM' hS) (fun t I' rd' C' _ _ z' => by cases z3.symm.trans z')
  · rw [mh_mid e hs]; refine ⟨⟨_, mh_o⟩, ?_⟩
    refine m_sets hM v (fun p' I' rd' C' z' => by cases z.symm.trans z') (fun I' rd' C' _ z' => absurd z' z2) (fun I' rd' C' _ _ z' => by cases z3.symm.trans z') (fun t' I' rd' C' _ _ z' hM' => ?_)
    cases z3.symm.trans z'
    exact RL_mk e ho hs hW' hM' (SBA.push hS (SB_set hM.2.2.1.2.1.1.1 hS.1 z3))
theorem p_reads (hR : RLX sa b zk hh) : tm_D (g_G sa sc xt) (d + 300) 147 [.ref b, .int v] hh (fun r h1 => (∃ q, h1.2.2 (b + 162) = .inr (12, q)) ∧ tm_D (g_G sa sc xt) (d + 300) 275 [.ref (b + 162), .int v] h1 (PQ sa b zk r)) := by
  obtain ⟨⟨c, F⟩, ⟨rc, R⟩, ⟨L, W, M, B, n, s, g⟩, pa, ru, ⟨hc, H⟩, ⟨mc, Ms, Bs, Os⟩, ga, h0, I, rd, C, e, hW, hM, hS, ho⟩ := hR
  refine c_reads hW v (fun p h' z hs hW' => ?_) (fun h' z z2 hs hW' => ?_) (fun h' z z2 z3 hs hW' => ?_) (fun t h' z z2 z3 hs hW' => ?_)
  · rw [mh_mid e hs]; refine ⟨⟨_, mh_o⟩, ?_⟩
    refine m_reads hM v (fun p' I' rd' C' z' hM' => ?_) (fun I' rd' C' z' => by cases z.symm.trans z') (fun I' rd' C' z' => by cases z.symm.trans z') (fun t I' rd' C' z' => by cases z.symm.trans z')
    cases z.symm.trans z'
    exact RL_mk e ho hs hW' hM' hS
  · rw [mh_mid e hs]; refine ⟨⟨_, mh_o⟩, ?_⟩
    exact m_reads hM v (fun p' I' rd' C' z' => by cases z.symm.trans z') (fun I' rd' C' _ _ hM' => RL_mk e ho hs hW' hM' hS) (fun I' rd' C' _ z' => absurd z2 z') (fun t I' rd' C' _ z' => absurd z2 z')
  · rw [mh_mid e hs]; refine ⟨⟨_, mh_o⟩, ?_⟩
    exact m_reads hM v (fun p' I' rd' C' z' => by cases z.symm.trans z') (fun I' rd' C' _ z' => absurd z' z2) (fun I' rd' C' _ _ _ hM' => RL_mk e ho hs hW' hM' hS) (fun t I' rd' C' _ _ z' => by cases z3.symm.trans z')
  · rw [mh_mid e hs]; refine ⟨⟨_, mh_o⟩, ?_⟩
    refine m_reads hM v (fun p' I' rd' C' z' => by cases z.symm.trans z') (fun I' rd' C' _ z' => absurd z' z2) (fun I' rd' C' _ _ z' => by cases z3.symm.trans z') (fun t' I' rd' C' _ _ z' hM' => ?_)
    cases z3.symm.trans z'
    exact RL_mk e ho hs hW' hM' hS
theorem p_moves (hR : RLX sa b zk hh) : tm_D (g_G sa sc xt) (d + 300) 119 [.ref b, .int v, .int w] hh (fun r h1 => (∃ q, h1.2.2 (b + 162) = .inr (12, q)) ∧ tm_D (g_G sa sc xt) (d + 300) 226 [.ref (b + 162), .int v, .int w] h1 (PQ sa b zk r)) := by
  obtain ⟨⟨c, F⟩, ⟨rc, R⟩, ⟨L, W, M, B, n, s, g⟩, pa, ru, ⟨hc, H⟩, ⟨mc, Ms, Bs, Os⟩, ga, h0, I, rd, C, e, hW, hM, hS, ho⟩ := hR
  have hn : n ≤ 12 := hM.2.2.1.2.1.1.1
  have nob : ∀ {j k : Nat}, j < n → v = nI j → k < 8 → w = nI k → ¬ (¬ (∃ j, j < n ∧ v = nI j) ∨ ¬ ∃ x, x < 8 ∧ w = nI x) := fun {j k} hj ej hk ek q => (by rcases q with q | q; exact q ⟨j, hj, ej⟩; exact q ⟨k, hk, ek⟩)
  refine c_moves hW v w (fun h' z hs hW' => ?_) (fun j k h' hj ej hk ek z hs hW' => ?_) (fun j k h' hj ej hk ek z z2 hs hW' => ?_) (fun j k h' hj ej hk ek z z2 hs hW' => ?_)
  · rw [mh_mid e hs]; refine ⟨⟨_, mh_o⟩, ?_⟩
    exact m_moves hM v w (fun I' _ hM' => RL_mk e ho hs hW' hM' hS) (fun j k I' hj ej hk ek => absurd z (nob hj ej hk ek)) (fun j k I' hj ej hk ek => absurd z (nob hj ej hk ek)) (fun j k I' C' hj ej hk ek => absurd z (nob hj ej hk ek))
  · rw [mh_mid e hs]; refine ⟨⟨_, mh_o⟩, ?_⟩
    refine m_moves hM v w (fun I' z' => absurd z' (nob hj ej hk ek)) (fun j' k' I' hj' ej' hk' ek' _ hM' => RL_mk e ho hs hW' hM' hS) (fun j' k' I' hj' ej' hk' ek' z' => ?_) (fun j' k' I' C' hj' ej' hk' ek' z' => ?_)
    · have := nII (by omega) (by omega) (ej.symm.trans ej')
      subst this
      exact absurd z z'
    · have := nII (by omega) (by omega) (ej.symm.trans ej')
      subst this
      exact absurd z z'
  · rw [mh_mid e hs]; refine ⟨⟨_, mh_o⟩, ?_⟩
    refine m_moves hM v w (fun I' z' => absurd z' (nob hj ej hk ek)) (fun j' k' I' hj' ej' hk' ek' z' => ?_) (fun j' k' I' hj' ej' hk' ek' _ _ hM' => RL_mk e ho hs hW' hM' hS) (fun j' k' I' C' hj' ej' hk' ek' _ z' => ?_)
    · have := nII (by omega) (by omega) (ej.symm.trans ej')
      subst this
      exact absurd z' z
    · have := nII (by omega) (by omega) (ej.symm.trans ej')
      subst this
      have := nII (by omega) (by omega) (ek.symm.trans ek')
      subst this
      exact absurd z2 z'
  · rw [mh_mid e hs]; refine ⟨⟨_, mh_o⟩, ?_⟩
    refine m_moves hM v w (fun I' z' => absurd z' (nob hj ej hk ek)) (fun j' k' I' hj' ej' hk' ek' z' => ?_) (fun j' k' I' hj' ej' hk' ek' _ z' => ?_) (fun j' k' I' C' hj' ej' hk' ek' _ _ hM' => ?_)
    · have := nII (by omega) (by omega) (ej.symm.trans ej')
      subst this
      exact absurd z' z
    · have := nII (by omega) (by omega) (ej.symm.trans ej')
      subst this
      have := nII (by omega) (by omega) (ek.symm.trans ek')
      subst this
      exact absurd z' z2
    · have := nII (by omega) (by omega) (ej.symm.trans ej')
      subst this
      have := nII (by omega) (by omega) (ek.symm.trans ek')
      subst this
      exact RL_mk e ho hs hW' hM' (hS.push hS.1)
theorem p_week (hR : RLX sa b zk hh) : tm_D (g_G sa sc xt) (d + 300) 122 [.ref b] hh (fun r h1 => (∃ q, h1.2.2 (b + 162) = .inr (12, q)) ∧ tm_D (g_G sa sc xt) (d + 300) 231 [.ref (b + 162)] h1 (PQ sa b zk r)) := by
  obtain ⟨⟨c, F⟩, ⟨rc, R⟩, ⟨L, W, M, B, n, s, g⟩, pa, ru, ⟨hc, H⟩, ⟨mc, Ms, Bs, Os⟩, ga, h0, I, rd, C, e, hW, hM, hS, ho⟩ := hR
  have hwf := hM.2.2.1.2.1
  refine c_week hW hwf (fun p h' z hs hW' => ?_) (fun h' z hs hX hW' => ?_) (fun p z => by have := fwk_le z; omega)
  · rw [mh_mid e hs]; refine ⟨⟨_, mh_o⟩, ?_⟩
    refine m_week hM (fun p' I' rd' C' z' _ hM' => ?_) (fun I' rd' C' z' => by cases z.symm.trans z')
    cases z.symm.trans z'
    exact RL_mk e ho hs hW' hM' hS
  · rw [mh_mid e hs]; refine ⟨⟨_, mh_o⟩, ?_⟩
    refine m_week hM (fun p' I' rd' C' z' => by cases z.symm.trans z') (fun I' rd' C' _ hM' => ?_)
    refine RL_mk e ho hs hW' hM' ?_
    split
    · exact hS.nw (wks_sb hwf.1.1 hS.1)
    · exact hS.push (wks_sb hwf.1.1 hS.1)
theorem p_undo (hR : RLX sa b zk hh) : tm_D (g_G sa sc xt) (d + 300) 123 [.ref b] hh (fun r h1 => (∃ q, h1.2.2 (b + 162) = .inr (12, q)) ∧ tm_D (g_G sa sc xt) (d + 300) 234 [.ref (b + 162)] h1 (PQ sa b zk r)) := by
  obtain ⟨⟨c, F⟩, ⟨rc, R⟩, ⟨L, W, M, B, n, s, g⟩, pa, ru, ⟨hc, H⟩, ⟨mc, Ms, Bs, Os⟩, ga, h0, I, rd, C, e, hW, hM, hS, ho⟩ := hR
  obtain ⟨u, pq⟩ := pa
  cases u with
  | zero =>
    refine (c_undo0 hW rfl).mpr ?_
    rw [mh_mid e sm.rfl]; refine ⟨⟨_, mh_o⟩, ?_⟩
    exact m_undo0 hM rfl (fun I' hM' => RL_mk e ho sm.rfl hW hM' hS)
  | succ u =>
    refine c_undo (pa := (0, pq)) hW (fun h' hs hW' => ?_)
    rw [mh_mid e hs]; refine ⟨⟨_, mh_o⟩, ?_⟩
    exact m_undo hM (fun I' C' hM' => RL_mk e ho hs hW' hM' ⟨hS.2.1 _ (Nat.mod_lt _ (by decide)), hS.2⟩)
theorem p_bears (hR : RLX sa b zk hh) : tm_D (g_G sa sc xt) (d + 300) 127 [.ref b, .int v] hh (fun r h1 => (∃ q, h1.2.2 (b + 162) = .inr (12, q)) ∧ tm_D (g_G sa sc xt) (d + 300) 240 [.ref (b + 162), .int v] h1 (PQ sa b zk r)) := by
  obtain ⟨⟨c, F⟩, ⟨rc, R⟩, ⟨L, W, M, B, n, s, g⟩, pa, ru, ⟨hc, H⟩, ⟨mc, Ms, Bs, Os⟩, ga, h0, I, rd, C, e, hW, hM, hS, ho⟩ := hR
  have hwf := hM.2.2.1.2.1
  have hc : c ≤ 80 := hM.1.2.1
  refine c_bears hW v (fun p h' z hs hW' => ?_) (fun h' z z2 hs hW' => ?_) (fun h' N q z z2 hN hq hq12 hs hW' => ?_)
  · rw [mh_mid e hs]; refine ⟨⟨_, mh_o⟩, ?_⟩
    refine m_bears hM v (fun p' I' rd' C' z' hM' => ?_) (fun I' rd' C' z' => by cases z.symm.trans z') (fun I' rd' C' z' => by cases z.symm.trans z')
    cases z.symm.trans z'
    exact RL_mk e ho hs hW' hM' hS
  · rw [mh_mid e hs]; refine ⟨⟨_, mh_o⟩, ?_⟩
    exact m_bears hM v (fun p' I' rd' C' z' => by cases z.symm.trans z') (fun I' rd' C' _ _ hM' => RL_mk e ho hs hW' hM' hS) (fun I' rd' C' _ z' => absurd z2 z')
  · have e2 : bea (fun i => sui N L n s (nI c) (nI i)) (fun i => tc_mo M (nI i) n) v R (q + 1) = bea (rsu (fun l => nI (lcn F 0 c l)) L n s (nI c)) (fun i => tc_mo M (nI i) n) v R (2 ^ n) := by
      rw [bea_e hwf.1.1 hwf.1.2.1 (fun l hl => ⟨lcn F 0 c l, lcn_100 hc, hN l hl⟩) hq hq12, rsu_cg hN]
    rw [e2] at hW' ⊢
    rw [mh_mid e hs]; refine ⟨⟨_, mh_o⟩, ?_⟩
    exact m_bears hM v (fun p' I' rd' C' z' => by cases z.symm.trans z') (fun I' rd' C' _ z' => absurd z' z2) (fun I' rd' C' _ _ _ hM' => RL_mk e ho hs hW' hM' hS)
theorem p_spans (hR : RLX sa b zk hh) : tm_D (g_G sa sc xt) (d + 300) 128 [.ref b] hh (fun r h1 => (∃ q, h1.2.2 (b + 162) = .inr (12, q)) ∧ tm_D (g_G sa sc xt) (d + 300) 241 [.ref (b + 162)] h1 (PQ sa b zk r)) := by
  obtain ⟨⟨c, F⟩, ⟨rc, R⟩, ⟨L, W, M, B, n, s, g⟩, pa, ru, ⟨hc, H⟩, ⟨mc, Ms, Bs, Os⟩, ga, h0, I, rd, C, e, hW, hM, hS, ho⟩ := hR
  have hwf := hM.2.2.1.2.1
  have hc : c ≤ 80 := hM.1.2.1
  have e2 : ∀ (N : Nat → Int32) (q : Nat), (∀ l, l < 8 → N l = nI (lcn F 0 c l)) → le_pl N L n s 8 = nI q → q < 4096 → spa (fun i => sui N L n s (nI c) (nI i)) (fun x => tc_mo M x n) (q + 1) = spa (rsu (fun l => nI (lcn F 0 c l)) L n s (nI c)) (fun x => tc_mo M x n) (2 ^ n) := by
    intro N q hN hq hq12
    rw [spa_e hwf.1.1 hwf.1.2.1 (fun l hl => ⟨lcn F 0 c l, lcn_100 hc, hN l hl⟩) hq hq12, rsu_cg hN]
  refine c_spans hW (fun p h' z hs hW' => ?_) (fun h' N q z hN hq hq12 z2 hs hW' => ?_) (fun h' N q z hN hq hq12 z2 hs hW' => ?_)
  · rw [mh_mid e hs]; refine ⟨⟨_, mh_o⟩, ?_⟩
    refine m_spans hM (fun p' I' rd' C' z' hM' => ?_) (fun I' rd' C' z' => by cases z.symm.trans z') (fun I' rd' C' z' => by cases z.symm.trans z')
    cases z.symm.trans z'
    exact RL_mk e ho hs hW' hM' hS
  · rw [e2 N q hN hq hq12] at z2
    rw [mh_mid e hs]; refine ⟨⟨_, mh_o⟩, ?_⟩
    exact m_spans hM (fun p' I' rd' C' z' => by cases z.symm.trans z') (fun I' rd' C' _ _ hM' => RL_mk e ho hs hW' hM' hS) (fun I' rd' C' _ z' => absurd z2 z')
  · rw [e2 N q hN hq hq12] at z2 hW' ⊢
    rw [mh_mid e hs]; refine ⟨⟨_, mh_o⟩, ?_⟩
    exact m_spans hM (fun p' I' rd' C' z' => by cases z.symm.trans z') (fun I' rd' C' _ z' => absurd z' z2) (fun I' rd' C' _ _ hM' => RL_mk e ho hs hW' hM' hS)
theorem p_packs (hR : RLX sa b zk hh) : tm_D (g_G sa sc xt) (d + 300) 129 [.ref b] hh (fun r h1 => (∃ q, h1.2.2 (b + 162) = .inr (12, q)) ∧ tm_D (g_G sa sc xt) (d + 300) 243 [.ref (b + 162)] h1 (PQ sa b zk r)) := by
  obtain ⟨⟨c, F⟩, ⟨rc, R⟩, ⟨L, W, M, B, n, s, g⟩, pa, ru, ⟨hc, H⟩, ⟨mc, Ms, Bs, Os⟩, ga, h0, I, rd, C, e, hW, hM, hS, ho⟩ := hR
  refine c_packs hW (fun p h' N z hs hW' => ?_) (fun h' N T z hs hW' => ?_) (fun N p z => wread_le.2 p z) (fun N => wread_le.1)
  · rw [mh_mid e hs]; refine ⟨⟨_, mh_o⟩, ?_⟩
    refine m_packs hM N N (fun p' I' rd' C' z' hM' => ?_) (fun I' rd' C' z' => by cases z.symm.trans z')
    cases z.symm.trans z'
    exact RL_mk e ho hs hW' hM' hS
  · rw [mh_mid e hs]; refine ⟨⟨_, mh_o⟩, ?_⟩
    exact m_packs hM N T (fun p' I' rd' C' z' => by cases z.symm.trans z') (fun I' rd' C' _ hM' => RL_mk e ho hs hW' hM' hS)
theorem p_parts (hR : RLX sa b zk hh) : tm_D (g_G sa sc xt) (d + 300) 135 [.ref b] hh (fun r h1 => (∃ q, h1.2.2 (b + 162) = .inr (12, q)) ∧ tm_D (g_G sa sc xt) (d + 300) 254 [.ref (b + 162)] h1 (PQ sa b zk r)) := by
  obtain ⟨⟨c, F⟩, ⟨rc, R⟩, ⟨L, W, M, B, n, s, g⟩, pa, ru, ⟨hc, H⟩, ⟨mc, Ms, Bs, Os⟩, ga, h0, I, rd, C, e, hW, hM, hS, ho⟩ := hR
  refine c_parts hW (fun h' A z hs hW' => ?_) (fun h' A Pl z hs hW' => ?_)
  · rw [mh_mid e hs]; refine ⟨⟨_, mh_o⟩, ?_⟩
    exact m_parts hM A A (fun I' rd' C' _ hM' => RL_mk e ho hs hW' hM' hS) (fun I' rd' C' z' => absurd z' z)
  · rw [mh_mid e hs]; refine ⟨⟨_, mh_o⟩, ?_⟩
    exact m_parts hM A Pl (fun I' rd' C' z' => absurd z z') (fun I' rd' C' _ hM' => RL_mk e ho hs hW' hM' hS)
theorem p_later (hR : RLX sa b zk hh) : tm_D (g_G sa sc xt) (d + 300) 130 [.ref b, .int v, .int w] hh (fun r h1 => (∃ q, h1.2.2 (b + 162) = .inr (12, q)) ∧ tm_D (g_G sa sc xt) (d + 300) 245 [.ref (b + 162), .int v, .int w] h1 (PQ sa b zk r)) := by
  obtain ⟨⟨c, F⟩, ⟨rc, R⟩, ⟨L, W, M, B, n, s, g⟩, pa, ru, ⟨hc, H⟩, ⟨mc, Ms, Bs, Os⟩, ga, h0, I, rd, C, e, hW, hM, hS, ho⟩ := hR
  have hn : n ≤ 12 := hM.2.2.1.2.1.1.1
  refine c_later hW v w (fun z => ?_) (fun j t h' hj ej ht et hs hW' => ?_)
  · rw [mh_mid e sm.rfl]; refine ⟨⟨_, mh_o⟩, ?_⟩
    refine m_later hM v w (fun I' _ hM' => RL_mk e ho sm.rfl hW hM' hS) (fun j t I' rd' C' hj ej ht et => ?_)
    exfalso
    rcases z with z | z
    · exact z ⟨j, hj, ej⟩
    · exact nb (j := 99) ht (by decide) et z
  · rw [mh_mid e hs]; refine ⟨⟨_, mh_o⟩, ?_⟩
    refine m_later hM v w (fun I' z => ?_) (fun j' t' I' rd' C' hj' ej' ht' et' hM' => ?_)
    · exfalso
      rcases z with z | z
      · exact z ⟨j, hj, ej⟩
      · exact nb (j := 99) ht (by decide) et z
    · have hj : j < n := hj
      have hj' : j' < n := hj'
      have := nII (by omega) (by omega) (ej.symm.trans ej')
      subst this
      have := nII (by omega) (by omega) (et.symm.trans et')
      subst this
      exact RL_mk e ho hs hW' hM' hS
theorem p_gravest (hR : RLX sa b zk hh) : tm_D (g_G sa sc xt) (d + 300) 133 [.ref b, .int v] hh (fun r h1 => (∃ q, h1.2.2 (b + 162) = .inr (12, q)) ∧ tm_D (g_G sa sc xt) (d + 300) 250 [.ref (b + 162), .int v] h1 (PQ sa b zk r)) := by
  obtain ⟨⟨c, F⟩, ⟨rc, R⟩, ⟨L, W, M, B, n, s, g⟩, pa, ru, ⟨hc, H⟩, ⟨mc, Ms, Bs, Os⟩, ga, h0, I, rd, C, e, hW, hM, hS, ho⟩ := hR
  refine c_gravest hW v (fun z => ?_) (fun z z2 => ?_) (fun t h' ht et z2 hs hW' => ?_)
  · rw [mh_mid e sm.rfl]; refine ⟨⟨_, mh_o⟩, ?_⟩
    exact m_gravest hM v (fun I' _ hM' => RL_mk e ho sm.rfl hW hM' hS) (fun I' z' => absurd z z') (fun t I' rd' C' ht et => (nb (j := 99) ht (by decide) et z).elim)
  · rw [mh_mid e sm.rfl]; refine ⟨⟨_, mh_o⟩, ?_⟩
    exact m_gravest hM v (fun I' z' => absurd z' z) (fun I' _ _ hM' => RL_mk e ho sm.rfl hW hM' hS) (fun t I' rd' C' ht et z' => absurd z2 z')
  · rw [mh_mid e hs]; refine ⟨⟨_, mh_o⟩, ?_⟩
    refine m_gravest hM v (fun I' z => (nb (j := 99) ht (by decide) et z).elim) (fun I' _ z' => absurd z' z2) (fun t' I' rd' C' ht' et' _ hM' => ?_)
    have := nII (by omega) (by omega) (et.symm.trans et')
    subst this
    exact RL_mk e ho hs hW' hM' hS
theorem p_blows (hR : RLX sa b zk hh) : tm_D (g_G sa sc xt) (d + 300) 134 [.ref b, .int v, .int w] hh (fun r h1 => (∃ q, h1.2.2 (b + 162) = .inr (12, q)) ∧ tm_D (g_G sa sc xt) (d + 300) 252 [.ref (b + 162), .int v, .int w] h1 (PQ sa b zk r)) := by
  obtain ⟨⟨c, F⟩, ⟨rc, R⟩, ⟨L, W, M, B, n, s, g⟩, pa, ru, ⟨hc, H⟩, ⟨mc, Ms, Bs, Os⟩, ga, h0, I, rd, C, e, hW, hM, hS, ho⟩ := hR
  have nob : ∀ {t : Nat}, t ≤ 20 → v = nI t → ¬ (w < 0 ∨ 9 < w) → ¬ (v < 0 ∨ 20 < v ∨ w < 0 ∨ 9 < w) := by
    intro t ht et z q
    rcases q with q | q | q
    · exact nb (j := 20) ht (by decide) et (Or.inl q)
    · exact nb (j := 20) ht (by decide) et (Or.inr q)
    · exact z q
  refine c_blows hW v w (fun z => ?_) (fun t h' ht et z z2 hs hW' => ?_) (fun t U h' ht et z z2 hs hW' => ?_)
  · rw [mh_mid e sm.rfl]; refine ⟨⟨_, mh_o⟩, ?_⟩
    exact m_blows hM v w (fun I' rd' C' _ hM' => RL_mk e ho sm.rfl hW hM' hS) (fun t I' rd' C' ht et z' => absurd z (nob ht et z')) (fun t U I' rd' C' ht et z' => absurd z (nob ht et z'))
  · rw [mh_mid e hs]; refine ⟨⟨_, mh_o⟩, ?_⟩
    refine m_blows hM v w (fun I' rd' C' z' => absurd z' (nob ht et z)) (fun t' I' rd' C' _ _ _ _ hM' => RL_mk e ho hs hW' hM' hS) (fun t' U I' rd' C' ht' et' _ z' => ?_)
    have := nII (by omega) (by omega) (et.symm.trans et')
    subst this
    cases z2.symm.trans z'
  · rw [mh_mid e hs]; refine ⟨⟨_, mh_o⟩, ?_⟩
    refine m_blows hM v w (fun I' rd' C' z' => absurd z' (nob ht et z)) (fun t' I' rd' C' ht' et' _ z' => ?_) (fun t' U' I' rd' C' ht' et' _ z' hM' => ?_)
    · have := nII (by omega) (by omega) (et.symm.trans et')
      subst this
      cases z2.symm.trans z'
    · have := nII (by omega) (by omega) (et.symm.trans et')
      subst this
      cases z2.symm.trans z'
      exact RL_mk e ho hs hW' hM' hS
theorem p_chord (hR : RLX sa b zk hh) : tm_D (g_G sa sc xt) (d + 300) 138 [.ref b, .int v] hh (fun r h1 => (∃ q, h1.2.2 (b + 162) = .inr (12, q)) ∧ tm_D (g_G sa sc xt) (d + 300) 258 [.ref (b + 162), .int v] h1 (PQ sa b zk r)) := by
  obtain ⟨⟨c, F⟩, ⟨rc, R⟩, ⟨L, W, M, B, n, s, g⟩, pa, ru, ⟨hc, H⟩, ⟨mc, Ms, Bs, Os⟩, ga, h0, I, rd, C, e, hW, hM, hS, ho⟩ := hR
  have hwf := hM.2.2.1.2.1
  have e2 : ∀ q, tc_allv (nI n) &&& (s ^^^ (-1)) = nI q → q < 4096 → cho L M n (tc_allv (nI n) &&& (s ^^^ (-1))) v (q + 1) = (rch L M n s v (2 ^ n), if rch L M n s v (2 ^ n) = -1 then -1 else ibc (rch L M n s v (2 ^ n))) := fun q hq hq12 => (cho_up hwf.1.1 hq hq12).trans (cho_e hwf.1.1 hwf.1.2.1 (2 ^ n) (Nat.le_refl _)).1
  refine c_chord hW v (fun z => ?_) (fun q z hq hq12 z2 => ?_) (fun q h' z hq hq12 z2 hs hW' => ?_)
  · rw [mh_mid e sm.rfl]; refine ⟨⟨_, mh_o⟩, ?_⟩
    exact m_chord hM v (fun I' _ hM' => RL_mk e ho sm.rfl hW hM' hS) (fun I' z' => absurd z z') (fun I' C' z' => absurd z z')
  · rw [e2 q hq hq12] at z2
    rw [mh_mid e sm.rfl]; refine ⟨⟨_, mh_o⟩, ?_⟩
    exact m_chord hM v (fun I' z' => absurd z' z) (fun I' _ _ hM' => RL_mk e ho sm.rfl hW hM' hS) (fun I' C' _ z' => absurd z2 z')
  · rw [e2 q hq hq12] at z2 hW' ⊢
    dsimp only at z2 hW' ⊢
    rw [if_neg z2]
    rw [mh_mid e hs]; refine ⟨⟨_, mh_o⟩, ?_⟩
    exact m_chord hM v (fun I' z' => absurd z' z) (fun I' _ z' => absurd z' z2) (fun I' C' _ _ hM' => RL_mk e ho hs hW' hM' hS)
theorem p_keep (hR : RLX sa b zk hh) : tm_D (g_G sa sc xt) (d + 300) 152 [.ref b, .int v] hh (fun r h1 => (∃ q, h1.2.2 (b + 162) = .inr (12, q)) ∧ tm_D (g_G sa sc xt) (d + 300) 284 [.ref (b + 162), .int v] h1 (PQ sa b zk r)) := by
  obtain ⟨⟨c, F⟩, ⟨rc, R⟩, ⟨L, W, M, B, n, s, g⟩, pa, ru, ⟨hc, H⟩, ⟨mc, Ms, Bs, Os⟩, ga, h0, I, rd, C, e, hW, hM, hS, ho⟩ := hR
  have b1 : (v < 0 ∨ 1 < v) ↔ ¬ ∃ j, j ≤ 1 ∧ v = nI j := in0' (k := 1) (by decide)
  by_cases z : v < 0 ∨ 1 < v
  · have z2 : v < 0 ∨ ¬ v < 2 := by
      rcases z with q | q
      · exact Or.inl q
      · refine Or.inr (fun q2 => ?_)
        rw [Int32.lt_iff_toInt_lt] at q q2
        have e1 : (1 : Int32).toInt = 1 := by decide
        have e2 : (2 : Int32).toInt = 2 := by decide
        omega
    refine (c_keep0 hW z2).mpr ?_
    rw [mh_mid e sm.rfl]; refine ⟨⟨_, mh_o⟩, ?_⟩
    exact m_keep hM v (fun I' _ hM' => RL_mk e ho sm.rfl hW hM' hS) (fun i I' C' hi ei => absurd z (fun q => b1.mp q ⟨i, by omega, ei⟩))
  · obtain ⟨i, hi, ei⟩ := Classical.not_not.mp (fun q => z (b1.mpr q))
    subst ei
    refine c_keep (by omega) hW (fun h' hs hW' => ?_)
    rw [mh_mid e hs]; refine ⟨⟨_, mh_o⟩, ?_⟩
    refine m_keep hM (nI i) (fun I' z' => absurd z' z) (fun i' I' C' hi' ei' hM' => ?_)
    have := nII (by omega) (by omega) ei'
    subst this
    refine RL_mk e ho hs hW' hM' ⟨hS.1, hS.2.1, fun j hj => ?_⟩
    show SB (if j = i then _ else pa.2.2.2.1 j)
    split
    · exact hS.1
    · exact hS.2.2 j hj
theorem p_again (hR : RLX sa b zk hh) : tm_D (g_G sa sc xt) (d + 300) 153 [.ref b, .int v] hh (fun r h1 => (∃ q, h1.2.2 (b + 162) = .inr (12, q)) ∧ tm_D (g_G sa sc xt) (d + 300) 285 [.ref (b + 162), .int v] h1 (PQ sa b zk r)) := by
  obtain ⟨⟨c, F⟩, ⟨rc, R⟩, ⟨L, W, M, B, n, s, g⟩, pa, ru, ⟨hc, H⟩, ⟨mc, Ms, Bs, Os⟩, ga, h0, I, rd, C, e, hW, hM, hS, ho⟩ := hR
  have b1 : (v < 0 ∨ 1 < v) ↔ ¬ ∃ j, j ≤ 1 ∧ v = nI j := in0' (k := 1) (by decide)
  by_cases z : v < 0 ∨ 1 < v
  · have z2 : v < 0 ∨ 2 ≤ v := by
      rcases z with q | q
      · exact Or.inl q
      · refine Or.inr ?_
        rw [Int32.lt_iff_toInt_lt] at q
        rw [Int32.le_iff_toInt_le]
        have e1 : (1 : Int32).toInt = 1 := by decide
        have e2 : (2 : Int32).toInt = 2 := by decide
        omega
    refine (c_again0 hW z2).mpr ?_
    rw [mh_mid e sm.rfl]; refine ⟨⟨_, mh_o⟩, ?_⟩
    exact m_again hM v (fun I' _ hM' => RL_mk e ho sm.rfl hW hM' hS) (fun i I' hi ei => absurd z (fun q => b1.mp q ⟨i, by omega, ei⟩)) (fun i I' C' hi ei => absurd z (fun q => b1.mp q ⟨i, by omega, ei⟩))
  · obtain ⟨i, hi, ei⟩ := Classical.not_not.mp (fun q => z (b1.mpr q))
    subst ei
    by_cases q : pa.2.2.2.2 i = 0 ∨ (pa.2.2.2.1 i).2.2.2.2.1 ≠ n
    · refine (c_again1 (by omega) hW q).mpr ?_
      rw [mh_mid e sm.rfl]; refine ⟨⟨_, mh_o⟩, ?_⟩
      refine m_again hM (nI i) (fun I' z' => absurd z' z) (fun i' I' hi' ei' _ hM' => RL_mk e ho sm.rfl hW hM' hS) (fun i' I' C' hi' ei' q1 q2 => ?_)
      have := nII (by omega) (by omega) ei'
      subst this
      exfalso
      rcases q with q | q
      · exact q1 q
      · exact q q2
    · have q1 : pa.2.2.2.2 i ≠ 0 := fun z => q (Or.inl z)
      have q2 : (pa.2.2.2.1 i).2.2.2.2.1 = n := Classical.not_not.mp (fun z => q (Or.inr z))
      refine c_again2 (by omega) hW q1 q2 (fun h' hs hW' => ?_)
      rw [mh_mid e hs]; refine ⟨⟨_, mh_o⟩, ?_⟩
      refine m_again hM (nI i) (fun I' z' => absurd z' z) (fun i' I' hi' ei' q' => ?_) (fun i' I' C' hi' ei' _ _ hM' => ?_)
      · have := nII (by omega) (by omega) ei'
        subst this
        exact absurd q' q
      · have := nII (by omega) (by omega) ei'
        subst this
        exact RL_mk e ho hs hW' hM' ⟨hS.2.2 i (by omega), hS.2⟩
end
