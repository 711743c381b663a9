/-! pairs: calls of class and reference -/
theorem nb {v : Int32} {k j : Nat} (hk : k ≤ j) (hj : j < 2 ^ 30) (e : v = nI k) (z : v < 0 ∨ nI j < v) : False := by
  subst e
  rcases z with z | z
  · exact nI_pos (by omega) z
  · exact nI_nlt hk (by omega) z
theorem nII {a b : Nat} (ha : a < 1000) (hb : b < 1000) (h : nI a = nI b) : a = b := (nI_eq (by omega) (by omega)).mp h
theorem SB_nXT {cd : List Int32} {mem : Int32} {X : TN} (hn : X.2.2.2.2.1 ≤ 12) (h : SB X) : ∀ k, SB (nXT cd mem k X)
  | 0 => h
  | k + 1 => fun i h1 h2 => by
    rw [(nXT_B (cd := cd) (mem := mem) hn k).1]
    exact bt_0
section
variable {sa : g_SA} {sc : Nat × Nat × (Nat → Int32)} {xt : Nat → Nat → List Value → tm_H → Option (Option Value × tm_H)} {d b : Nat} {zk : Nat × Nat} {hh : tm_H} {v w x y : Int32}
theorem p_shortest (hR : RLX sa b zk hh) : tm_D (g_G sa sc xt) (d + 300) 126 [.ref b] hh (fun r h1 => (∃ q, h1.2.2 (b + 162) = .inr (12, q)) ∧ tm_D (g_G sa sc xt) (d + 300) 238 [.ref (b + 162)] h1 (PQ sa b zk r)) := by
  obtain ⟨⟨c, F⟩, ⟨rc, R⟩, ⟨L, W, M, B, n, s, g⟩, pa, ru, ⟨hc, H⟩, ⟨mc, Ms, Bs, Os⟩, ga, h0, I, rd, C, e, hW, hM, hS, ho⟩ := hR
  refine c_shortest hW (fun h' hs hW' => ?_)
  rw [mh_mid e hs]; refine ⟨⟨_, mh_o⟩, ?_⟩
  exact m_shortest hM (fun I' C' hM' => RL_mk e ho hs hW' hM' hS)
theorem p_fits (hR : RLX sa b zk hh) : tm_D (g_G sa sc xt) (d + 300) 141 [.ref b] hh (fun r h1 => (∃ q, h1.2.2 (b + 162) = .inr (12, q)) ∧ tm_D (g_G sa sc xt) (d + 300) 264 [.ref (b + 162)] h1 (PQ sa b zk r)) := by
  obtain ⟨⟨c, F⟩, ⟨rc, R⟩, ⟨L, W, M, B, n, s, g⟩, pa, ru, ⟨hc, H⟩, ⟨mc, Ms, Bs, Os⟩, ga, h0, I, rd, C, e, hW, hM, hS, ho⟩ := hR
  refine c_fits hW (fun h' hs hW' => ?_)
  rw [mh_mid e hs]; refine ⟨⟨_, mh_o⟩, ?_⟩
  exact m_fits hM (fun I' C' hM' => RL_mk e ho hs hW' hM' hS)
theorem p_mixed (hR : RLX sa b zk hh) : tm_D (g_G sa sc xt) (d + 300) 136 [.ref b] hh (fun r h1 => (∃ q, h1.2.2 (b + 162) = .inr (12, q)) ∧ tm_D (g_G sa sc xt) (d + 300) 255 [.ref (b + 162)] h1 (PQ sa b zk r)) := by
  obtain ⟨⟨c, F⟩, ⟨rc, R⟩, ⟨L, W, M, B, n, s, g⟩, pa, ru, ⟨hc, H⟩, ⟨mc, Ms, Bs, Os⟩, ga, h0, I, rd, C, e, hW, hM, hS, ho⟩ := hR
  refine c_mixed hW (fun h' hs hW' => ?_)
  rw [mh_mid e hs]; refine ⟨⟨_, mh_o⟩, ?_⟩
  exact m_mixed hM (fun I' C' hM' => RL_mk e ho hs hW' hM' hS)
theorem p_rubs (hR : RLX sa b zk hh) : tm_D (g_G sa sc xt) (d + 300) 137 [.ref b] hh (fun r h1 => (∃ q, h1.2.2 (b + 162) = .inr (12, q)) ∧ tm_D (g_G sa sc xt) (d + 300) 256 [.ref (b + 162)] h1 (PQ sa b zk r)) := by
  obtain ⟨⟨c, F⟩, ⟨rc, R⟩, ⟨L, W, M, B, n, s, g⟩, pa, ru, ⟨hc, H⟩, ⟨mc, Ms, Bs, Os⟩, ga, h0, I, rd, C, e, hW, hM, hS, ho⟩ := hR
  refine c_rubs hW (fun h' hs hW' => ?_)
  rw [mh_mid e hs]; refine ⟨⟨_, mh_o⟩, ?_⟩
  exact m_rubs hM (fun I' C' hM' => RL_mk e ho hs hW' hM' hS)
theorem p_forget (hR : RLX sa b zk hh) : tm_D (g_G sa sc xt) (d + 300) 140 [.ref b] hh (fun r h1 => (∃ q, h1.2.2 (b + 162) = .inr (12, q)) ∧ tm_D (g_G sa sc xt) (d + 300) 261 [.ref (b + 162)] h1 (PQ sa b zk r)) := by
  obtain ⟨⟨c, F⟩, ⟨rc, R⟩, ⟨L, W, M, B, n, s, g⟩, pa, ru, ⟨hc, H⟩, ⟨mc, Ms, Bs, Os⟩, ga, h0, I, rd, C, e, hW, hM, hS, ho⟩ := hR
  refine c_forget hW (fun h' hs hW' => ?_)
  rw [mh_mid e hs]; refine ⟨⟨_, mh_o⟩, ?_⟩
  exact m_forget hM (fun I' hM' => RL_mk e ho hs hW' hM' hS)
theorem p_denies (hR : RLX sa b zk hh) : tm_D (g_G sa sc xt) (d + 300) 144 [.ref b] hh (fun r h1 => (∃ q, h1.2.2 (b + 162) = .inr (12, q)) ∧ tm_D (g_G sa sc xt) (d + 300) 268 [.ref (b + 162)] h1 (PQ sa b zk r)) := by
  obtain ⟨⟨c, F⟩, ⟨rc, R⟩, ⟨L, W, M, B, n, s, g⟩, pa, ru, ⟨hc, H⟩, ⟨mc, Ms, Bs, Os⟩, ga, h0, I, rd, C, e, hW, hM, hS, ho⟩ := hR
  refine c_denies hW (fun h' hs hW' => ?_)
  rw [mh_mid e hs]; refine ⟨⟨_, mh_o⟩, ?_⟩
  exact m_denies hM (fun I' hM' => RL_mk e ho hs hW' hM' hS)
theorem p_count (hR : RLX sa b zk hh) : tm_D (g_G sa sc xt) (d + 300) 154 [.ref b, .int v] hh (fun r h1 => (∃ q, h1.2.2 (b + 162) = .inr (12, q)) ∧ tm_D (g_G sa sc xt) (d + 300) 286 [.ref (b + 162), .int v] h1 (PQ sa b zk r)) := by
  obtain ⟨⟨c, F⟩, ⟨rc, R⟩, ⟨L, W, M, B, n, s, g⟩, pa, ru, ⟨hc, H⟩, ⟨mc, Ms, Bs, Os⟩, ga, h0, I, rd, C, e, hW, hM, hS, ho⟩ := hR
  refine (c_count hW v).mpr ?_
  rw [mh_mid e sm.rfl]; refine ⟨⟨_, mh_o⟩, ?_⟩
  exact m_count hM v (fun I' hM' => RL_mk e ho sm.rfl hW hM' hS)
theorem p_heard (hR : RLX sa b zk hh) : tm_D (g_G sa sc xt) (d + 300) 139 [.ref b, .int v, .int w] hh (fun r h1 => (∃ q, h1.2.2 (b + 162) = .inr (12, q)) ∧ tm_D (g_G sa sc xt) (d + 300) 260 [.ref (b + 162), .int v, .int w] h1 (PQ sa b zk r)) := by
  obtain ⟨⟨c, F⟩, ⟨rc, R⟩, ⟨L, W, M, B, n, s, g⟩, pa, ru, ⟨hc, H⟩, ⟨mc, Ms, Bs, Os⟩, ga, h0, I, rd, C, e, hW, hM, hS, ho⟩ := hR
  refine c_heard hW v w (fun z h' hs hW' => ?_) (fun z h' hs hW' => ?_)
  · rw [mh_mid e hs]; refine ⟨⟨_, mh_o⟩, ?_⟩
    exact m_heard hM v w (fun _ I' hM' => RL_mk e ho hs hW' hM' hS) (fun z' => absurd z z')
  · rw [mh_mid e hs]; refine ⟨⟨_, mh_o⟩, ?_⟩
    exact m_heard hM v w (fun z' => absurd z' z) (fun _ I' C' hM' => RL_mk e ho hs hW' hM' hS)
theorem p_asks (hR : RLX sa b zk hh) : tm_D (g_G sa sc xt) (d + 300) 142 [.ref b] hh (fun r h1 => (∃ q, h1.2.2 (b + 162) = .inr (12, q)) ∧ tm_D (g_G sa sc xt) (d + 300) 265 [.ref (b + 162)] h1 (PQ sa b zk r)) := by
  obtain ⟨⟨c, F⟩, ⟨rc, R⟩, ⟨L, W, M, B, n, s, g⟩, pa, ru, ⟨hc, H⟩, ⟨mc, Ms, Bs, Os⟩, ga, h0, I, rd, C, e, hW, hM, hS, ho⟩ := hR
  refine c_asks hW (fun z => ?_) (fun z h' hs hW' => ?_)
  · rw [mh_mid e sm.rfl]; refine ⟨⟨_, mh_o⟩, ?_⟩
    exact m_asks hM (fun _ I' hM' => RL_mk e ho sm.rfl hW hM' hS) (fun z' => absurd z z')
  · rw [mh_mid e hs]; refine ⟨⟨_, mh_o⟩, ?_⟩
    exact m_asks hM (fun z' => absurd z' z) (fun _ I' C' hM' => RL_mk e ho hs hW' hM' hS)
theorem p_saw (hR : RLX sa b zk hh) : tm_D (g_G sa sc xt) (d + 300) 143 [.ref b, .int v, .int w, .int x] hh (fun r h1 => (∃ q, h1.2.2 (b + 162) = .inr (12, q)) ∧ tm_D (g_G sa sc xt) (d + 300) 267 [.ref (b + 162), .int v, .int w, .int x] h1 (PQ sa b zk r)) := by
  obtain ⟨⟨c, F⟩, ⟨rc, R⟩, ⟨L, W, M, B, n, s, g⟩, pa, ru, ⟨hc, H⟩, ⟨mc, Ms, Bs, Os⟩, ga, h0, I, rd, C, e, hW, hM, hS, ho⟩ := hR
  refine c_saw hW v w x (fun z h' hs hW' => ?_) (fun z h' hs hW' => ?_)
  · rw [mh_mid e hs]; refine ⟨⟨_, mh_o⟩, ?_⟩
    exact m_saw hM v w x (fun _ I' hM' => RL_mk e ho hs hW' hM' hS) (fun z' => absurd z' z)
  · rw [mh_mid e hs]; refine ⟨⟨_, mh_o⟩, ?_⟩
    exact m_saw hM v w x (fun z' => absurd z z') (fun _ I' C' hM' => RL_mk e ho hs hW' hM' hS)
theorem p_laws (hR : RLX sa b zk hh) : tm_D (g_G sa sc xt) (d + 300) 145 [.ref b] hh (fun r h1 => (∃ q, h1.2.2 (b + 162) = .inr (12, q)) ∧ tm_D (g_G sa sc xt) (d + 300) 271 [.ref (b + 162)] h1 (PQ sa b zk r)) := by
  obtain ⟨⟨c, F⟩, ⟨rc, R⟩, ⟨L, W, M, B, n, s, g⟩, pa, ru, ⟨hc, H⟩, ⟨mc, Ms, Bs, Os⟩, ga, h0, I, rd, C, e, hW, hM, hS, ho⟩ := hR
  refine c_laws hW (fun z h' hs hW' => ?_) (fun z h' hs hW' => ?_)
  · rw [mh_mid e hs]; refine ⟨⟨_, mh_o⟩, ?_⟩
    exact m_laws hM (fun _ I' C' hM' => RL_mk e ho hs hW' hM' hS) (fun z' => absurd z z')
  · rw [mh_mid e hs]; refine ⟨⟨_, mh_o⟩, ?_⟩
    exact m_laws hM (fun z' => absurd z' z) (fun _ I' C' hM' => RL_mk e ho hs hW' hM' hS)
theorem p_looks (hR : RLX sa b zk hh) : tm_D (g_G sa sc xt) (d + 300) 146 [.ref b] hh (fun r h1 => (∃ q, h1.2.2 (b + 162) = .inr (12, q)) ∧ tm_D (g_G sa sc xt) (d + 300) 272 [.ref (b + 162)] h1 (PQ sa b zk r)) := by
  obtain ⟨⟨c, F⟩, ⟨rc, R⟩, ⟨L, W, M, B, n, s, g⟩, pa, ru, ⟨hc, H⟩, ⟨mc, Ms, Bs, Os⟩, ga, h0, I, rd, C, e, hW, hM, hS, ho⟩ := hR
  refine c_looks hW (fun z => ?_) (fun z h' hs hW' => ?_)
  · rw [mh_mid e sm.rfl]; refine ⟨⟨_, mh_o⟩, ?_⟩
    exact m_looks hM (fun _ I' C' hM' => RL_mk e ho sm.rfl hW hM' hS) (fun z' => absurd z z')
  · rw [mh_mid e hs]; refine ⟨⟨_, mh_o⟩, ?_⟩
    exact m_looks hM (fun z' => absurd z' z) (fun _ I' C' hM' => RL_mk e ho hs hW' hM' hS)
theorem p_rests (hR : RLX sa b zk hh) : tm_D (g_G sa sc xt) (d + 300) 149 [.ref b, .int v] hh (fun r h1 => (∃ q, h1.2.2 (b + 162) = .inr (12, q)) ∧ tm_D (g_G sa sc xt) (d + 300) 279 [.ref (b + 162), .int v] h1 (PQ sa b zk r)) := by
  obtain ⟨⟨c, F⟩, ⟨rc, R⟩, ⟨L, W, M, B, n, s, g⟩, pa, ru, ⟨hc, H⟩, ⟨mc, Ms, Bs, Os⟩, ga, h0, I, rd, C, e, hW, hM, hS, ho⟩ := hR
  refine c_rests hW v (fun z => ?_) (fun z h' hs hW' => ?_)
  · rw [mh_mid e sm.rfl]; refine ⟨⟨_, mh_o⟩, ?_⟩
    exact m_rests hM v (fun I' _ hM' => RL_mk e ho sm.rfl hW hM' hS) (fun I' C' z' => absurd z z')
  · rw [mh_mid e hs]; refine ⟨⟨_, mh_o⟩, ?_⟩
    exact m_rests hM v (fun I' z' => absurd z' z) (fun I' C' _ hM' => RL_mk e ho hs hW' hM' hS)
theorem p_galley (hR : RLX sa b zk hh) : tm_D (g_G sa sc xt) (d + 300) 148 [.ref b, .int v] hh (fun r h1 => (∃ q, h1.2.2 (b + 162) = .inr (12, q)) ∧ tm_D (g_G sa sc xt) (d + 300) 276 [.ref (b + 162), .int v] h1 (PQ sa b zk r)) := by
  obtain ⟨⟨c, F⟩, ⟨rc, R⟩, ⟨L, W, M, B, n, s, g⟩, pa, ru, ⟨hc, H⟩, ⟨mc, Ms, Bs, Os⟩, ga, h0, I, rd, C, e, hW, hM, hS, ho⟩ := hR
  refine c_galley hW v (fun z => ?_) (fun k h' hk ek hs hW' => ?_)
  · rw [mh_mid e sm.rfl]; refine ⟨⟨_, mh_o⟩, ?_⟩
    exact m_galley hM v (fun I' _ hM' => RL_mk e ho sm.rfl hW hM' hS) (fun k I' C' hk ek => (nb (j := 60) hk (by decide) ek z).elim)
  · rw [mh_mid e hs]; refine ⟨⟨_, mh_o⟩, ?_⟩
    refine m_galley hM v (fun I' z => (nb (j := 60) hk (by decide) ek z).elim) (fun k' I' C' hk' ek' hM' => ?_)
    have := nII (by omega) (by omega) (ek.symm.trans ek')
    subst this
    exact RL_mk e ho hs hW' hM' hS
theorem p_years (hR : RLX sa b zk hh) : tm_D (g_G sa sc xt) (d + 300) 151 [.ref b, .int v, .int w] hh (fun r h1 => (∃ q, h1.2.2 (b + 162) = .inr (12, q)) ∧ tm_D (g_G sa sc xt) (d + 300) 283 [.ref (b + 162), .int v, .int w] h1 (PQ sa b zk r)) := by
  obtain ⟨⟨c, F⟩, ⟨rc, R⟩, ⟨L, W, M, B, n, s, g⟩, pa, ru, ⟨hc, H⟩, ⟨mc, Ms, Bs, Os⟩, ga, h0, I, rd, C, e, hW, hM, hS, ho⟩ := hR
  refine c_years hW v w (fun z => ?_) (fun k h' k1 hk ek hs hW' => ?_)
  · rw [mh_mid e sm.rfl]; refine ⟨⟨_, mh_o⟩, ?_⟩
    refine m_years hM v w (fun I' _ hM' => RL_mk e ho sm.rfl hW hM' hS) (fun k I' rd' C' k1 hk ek => ?_)
    exfalso
    subst ek
    rcases z with z | z
    · exact nI_nlt (b := 1) k1 (by omega) z
    · exact nI_nlt (a := 60) (b := k) hk (by decide) z
  · rw [mh_mid e hs]; refine ⟨⟨_, mh_o⟩, ?_⟩
    refine m_years hM v w (fun I' z => ?_) (fun k' I' rd' C' k1' hk' ek' hM' => ?_)
    · exfalso
      subst ek
      rcases z with z | z
      · exact nI_nlt (b := 1) k1 (by omega) z
      · exact nI_nlt (a := 60) (b := k) hk (by decide) z
    · have := nII (by omega) (by omega) (ek.symm.trans ek')
      subst this
      exact RL_mk e ho hs hW' hM' hS
theorem p_settles (hR : RLX sa b zk hh) : tm_D (g_G sa sc xt) (d + 300) 131 [.ref b] hh (fun r h1 => (∃ q, h1.2.2 (b + 162) = .inr (12, q)) ∧ tm_D (g_G sa sc xt) (d + 300) 248 [.ref (b + 162)] h1 (PQ sa b zk r)) := by
  obtain ⟨⟨c, F⟩, ⟨rc, R⟩, ⟨L, W, M, B, n, s, g⟩, pa, ru, ⟨hc, H⟩, ⟨mc, Ms, Bs, Os⟩, ga, h0, I, rd, C, e, hW, hM, hS, ho⟩ := hR
  refine c_settles hW (fun z h' hs hW' => ?_) (fun i h' z hs hW' => ?_)
  · rw [mh_mid e hs]; refine ⟨⟨_, mh_o⟩, ?_⟩
    exact m_settles hM (fun _ I' rd' C' hM' => RL_mk e ho hs hW' hM' hS) (fun i' I' rd' C' z' => by cases z.symm.trans z')
  · rw [mh_mid e hs]; refine ⟨⟨_, mh_o⟩, ?_⟩
    refine m_settles hM (fun z' => by cases z.symm.trans z') (fun i' I' rd' C' z' hM' => ?_)
    cases z.symm.trans z'
    exact RL_mk e ho hs hW' hM' hS
theorem p_round (hR : RLX sa b zk hh) : tm_D (g_G sa sc xt) (d + 300) 132 [.ref b] hh (fun r h1 => (∃ q, h1.2.2 (b + 162) = .inr (12, q)) ∧ tm_D (g_G sa sc xt) (d + 300) 249 [.ref (b + 162)] h1 (PQ sa b zk r)) := by
  obtain ⟨⟨c, F⟩, ⟨rc, R⟩, ⟨L, W, M, B, n, s, g⟩, pa, ru, ⟨hc, H⟩, ⟨mc, Ms, Bs, Os⟩, ga, h0, I, rd, C, e, hW, hM, hS, ho⟩ := hR
  refine c_round hW (fun z h' hs hW' => ?_) (fun i f h' z hs hW' => ?_)
  · rw [mh_mid e hs]; refine ⟨⟨_, mh_o⟩, ?_⟩
    exact m_round hM (fun _ I' rd' C' hM' => RL_mk e ho hs hW' hM' hS) (fun i' f' I' rd' C' z' => by cases z.symm.trans z')
  · rw [mh_mid e hs]; refine ⟨⟨_, mh_o⟩, ?_⟩
    refine m_round hM (fun z' => by cases z.symm.trans z') (fun i' f' I' rd' C' z' hM' => ?_)
    cases z.symm.trans z'
    exact RL_mk e ho hs hW' hM' hS
theorem p_tells (hR : RLX sa b zk hh) : tm_D (g_G sa sc xt) (d + 300) 124 [.ref b] hh (fun r h1 => (∃ q, h1.2.2 (b + 162) = .inr (12, q)) ∧ tm_D (g_G sa sc xt) (d + 300) 235 [.ref (b + 162)] h1 (PQ sa b zk r)) := by
  obtain ⟨⟨c, F⟩, ⟨rc, R⟩, ⟨L, W, M, B, n, s, g⟩, pa, ru, ⟨hc, H⟩, ⟨mc, Ms, Bs, Os⟩, ga, h0, I, rd, C, e, hW, hM, hS, ho⟩ := hR
  refine c_tells hW (fun p h' z hs hW' => ?_) (fun h' z z2 hs hW' => ?_) (fun t h' z z2 hs hW' => ?_)
  · rw [mh_mid e hs]; refine ⟨⟨_, mh_o⟩, ?_⟩
    refine m_tells hM (fun p' I' rd' C' z' hM' => ?_) (fun I' rd' C' z' => by cases z.symm.trans z') (fun t I' rd' C' z' => by cases z.symm.trans z')
    cases z.symm.trans z'
    exact RL_mk e ho hs hW' hM' hS
  · rw [mh_mid e hs]; refine ⟨⟨_, mh_o⟩, ?_⟩
    exact m_tells hM (fun p' I' rd' C' z' => by cases z.symm.trans z') (fun I' rd' C' _ _ hM' => RL_mk e ho hs hW' hM' hS) (fun t I' rd' C' _ z' => by cases z2.symm.trans z')
  · rw [mh_mid e hs]; refine ⟨⟨_, mh_o⟩, ?_⟩
    refine m_tells hM (fun p' I' rd' C' z' => by cases z.symm.trans z') (fun I' rd' C' _ z' => by cases z2.symm.trans z') (fun t' I' rd' C' _ z' hM' => ?_)
    cases z2.symm.trans z'
    exact RL_mk e ho hs hW' hM' hS
theorem p_often (hR : RLX sa b zk hh) : tm_D (g_G sa sc xt) (d + 300) 125 [.ref b] hh (fun r h1 => (∃ q, h1.2.2 (b + 162) = .inr (12, q)) ∧ tm_D (g_G sa sc xt) (d + 300) 237 [.ref (b + 162)] h1 (PQ sa b zk r)) := by
  obtain ⟨⟨c, F⟩, ⟨rc, R⟩, ⟨L, W, M, B, n, s, g⟩, pa, ru, ⟨hc, H⟩, ⟨mc, Ms, Bs, Os⟩, ga, h0, I, rd, C, e, hW, hM, hS, ho⟩ := hR
  refine c_often hW (fun p h' z hs hW' => ?_) (fun h' z hs hW' => ?_)
  · rw [mh_mid e hs]; refine ⟨⟨_, mh_o⟩, ?_⟩
    refine m_often hM (fun p' I' rd' C' z' hM' => ?_) (fun I' rd' C' z' => by cases z.symm.trans z')
    cases z.symm.trans z'
    exact RL_mk e ho hs hW' hM' hS
  · rw [mh_mid e hs]; refine ⟨⟨_, mh_o⟩, ?_⟩
    exact m_often hM (fun p' I' rd' C' z' => by cases z.symm.trans z') (fun I' rd' C' _ hM' => RL_mk e ho hs hW' hM' hS)
theorem p_rule (hR : RLX sa b zk hh) : tm_D (g_G sa sc xt) (d + 300) 113 [.ref b] hh (fun r h1 => (∃ q, h1.2.2 (b + 162) = .inr (12, q)) ∧ tm_D (g_G sa sc xt) (d + 300) 205 [.ref (b + 162)] h1 (PQ sa b zk r)) := by
  obtain ⟨⟨c, F⟩, ⟨rc, R⟩, ⟨L, W, M, B, n, s, g⟩, pa, ⟨r1, r2, cd⟩, ⟨hc, H⟩, ⟨mc, Ms, Bs, Os⟩, ga, h0, I, rd, C, e, hW, hM, hS, ho⟩ := hR
  refine c_rule hW (fun q h' z hs hW' => ?_) (fun cd' h' z hs hW' => ?_)
  · rw [mh_mid e hs]; refine ⟨⟨_, mh_o⟩, ?_⟩
    refine m_rule_ hM (fun q' I' rd' z' hM' => ?_) (fun cd' I' rd' C' z' => by cases z.symm.trans z')
    cases z.symm.trans z'
    exact RL_mk e ho hs hW' hM' hS
  · rw [mh_mid e hs]; refine ⟨⟨_, mh_o⟩, ?_⟩
    refine m_rule_ hM (fun q' I' rd' z' => by cases z.symm.trans z') (fun cd2 I' rd' C' z' hM' => ?_)
    cases z.symm.trans z'
    exact RL_mk e ho hs hW' hM' hS
theorem p_law (hR : RLX sa b zk hh) : tm_D (g_G sa sc xt) (d + 300) 150 [.ref b] hh (fun r h1 => (∃ q, h1.2.2 (b + 162) = .inr (12, q)) ∧ tm_D (g_G sa sc xt) (d + 300) 281 [.ref (b + 162)] h1 (PQ sa b zk r)) := by
  obtain ⟨⟨c, F⟩, ⟨rc, R⟩, ⟨L, W, M, B, n, s, g⟩, pa, ⟨r1, r2, cd⟩, ⟨hc, H⟩, ⟨mc, Ms, Bs, Os⟩, ga, h0, I, rd, C, e, hW, hM, hS, ho⟩ := hR
  refine c_law hW (fun q h' z hs hW' => ?_) (fun cd' h' z hs hW' => ?_)
  · rw [mh_mid e hs]; refine ⟨⟨_, mh_o⟩, ?_⟩
    refine m_law hM (fun q' I' rd' z' hM' => ?_) (fun cd' I' rd' C' z' => by cases z.symm.trans z')
    cases z.symm.trans z'
    exact RL_mk e ho hs hW' hM' hS
  · rw [mh_mid e hs]; refine ⟨⟨_, mh_o⟩, ?_⟩
    refine m_law hM (fun q' I' rd' z' => by cases z.symm.trans z') (fun cd2 I' rd' C' z' hM' => ?_)
    cases z.symm.trans z'
    exact RL_mk e ho hs hW' hM' hS
theorem p_cleans (hR : RLX sa b zk hh) : tm_D (g_G sa sc xt) (d + 300) 120 [.ref b, .int v] hh (fun r h1 => (∃ q, h1.2.2 (b + 162) = .inr (12, q)) ∧ tm_D (g_G sa sc xt) (d + 300) 228 [.ref (b + 162), .int v] h1 (PQ sa b zk r)) := by
  obtain ⟨⟨c, F⟩, ⟨rc, R⟩, ⟨L, W, M, B, n, s, g⟩, pa, ru, ⟨hc, H⟩, ⟨mc, Ms, Bs, Os⟩, ga, h0, I, rd, C, e, hW, hM, hS, ho⟩ := hR
  have hm := hM.2.2.1.2.1
  refine c_cleans hW v (fun j hj => MWB_m hm.2 hj) (fun h' z hs hW' => ?_) (fun j h' hj ej z hs hW' => ?_) (fun j h' hj ej z hs hW' => ?_)
  · rw [mh_mid e hs]; refine ⟨⟨_, mh_o⟩, ?_⟩
    exact m_cleans hM v (fun I' _ hM' => RL_mk e ho hs hW' hM' hS) (fun j I' hj ej => absurd ⟨j, hj, ej⟩ z) (fun j I' C' hj ej => absurd ⟨j, hj, ej⟩ z)
  · rw [mh_mid e hs]; refine ⟨⟨_, mh_o⟩, ?_⟩
    have hn : n ≤ 12 := hm.1.1
    refine m_cleans hM v (fun I' z' => absurd ⟨j, hj, ej⟩ z') (fun j' I' hj' ej' _ hM' => RL_mk e ho hs hW' hM' hS) (fun j' I' C' hj' ej' z' => ?_)
    have := nII (by omega) (by omega) (ej.symm.trans ej')
    subst this
    exact absurd z z'
  · rw [mh_mid e hs]; refine ⟨⟨_, mh_o⟩, ?_⟩
    have hn : n ≤ 12 := hm.1.1
    refine m_cleans hM v (fun I' z' => absurd ⟨j, hj, ej⟩ z') (fun j' I' hj' ej' z' => ?_) (fun j' I' C' hj' ej' z' hM' => ?_)
    · have := nII (by omega) (by omega) (ej.symm.trans ej')
      subst this
      exact absurd z' z
    · have := nII (by omega) (by omega) (ej.symm.trans ej')
      subst this
      exact RL_mk e ho hs hW' hM' (hS.push hS.1)
theorem p_casts (hR : RLX sa b zk hh) : tm_D (g_G sa sc xt) (d + 300) 121 [.ref b, .int v] hh (fun r h1 => (∃ q, h1.2.2 (b + 162) = .inr (12, q)) ∧ tm_D (g_G sa sc xt) (d + 300) 230 [.ref (b + 162), .int v] h1 (PQ sa b zk r)) := by
  obtain ⟨⟨c, F⟩, ⟨rc, R⟩, ⟨L, W, M, B, n, s, g⟩, pa, ru, ⟨hc, H⟩, ⟨mc, Ms, Bs, Os⟩, ga, h0, I, rd, C, e, hW, hM, hS, ho⟩ := hR
  have hm := hM.2.2.1.2.1
  refine c_casts hW v (fun j hj => MWB_w hm.2 hj) (fun h' z hs hW' => ?_) (fun j h' hj ej z hs hW' => ?_) (fun j h' hj ej z hs hW' => ?_)
  · rw [mh_mid e hs]; refine ⟨⟨_, mh_o⟩, ?_⟩
    exact m_casts hM v (fun I' _ hM' => RL_mk e ho hs hW' hM' hS) (fun j I' hj ej => absurd ⟨j, hj, ej⟩ z) (fun j I' C' hj ej => absurd ⟨j, hj, ej⟩ z)
  · rw [mh_mid e hs]; refine ⟨⟨_, mh_o⟩, ?_⟩
    have hn : n ≤ 12 := hm.1.1
    refine m_casts hM v (fun I' z' => absurd ⟨j, hj, ej⟩ z') (fun j' I' hj' ej' _ hM' => RL_mk e ho hs hW' hM' hS) (fun j' I' C' hj' ej' z' => ?_)
    have := nII (by omega) (by omega) (ej.symm.trans ej')
    subst this
    exact absurd z z'
  · rw [mh_mid e hs]; refine ⟨⟨_, mh_o⟩, ?_⟩
    have hn : n ≤ 12 := hm.1.1
    refine m_casts hM v (fun I' z' => absurd ⟨j, hj, ej⟩ z') (fun j' I' hj' ej' z' => ?_) (fun j' I' C' hj' ej' z' hM' => ?_)
    · have := nII (by omega) (by omega) (ej.symm.trans ej')
      subst this
      exact absurd z' z
    · have := nII (by omega) (by omega) (ej.symm.trans ej')
      subst this
      exact RL_mk e ho hs hW' hM' (hS.push hS.1)
theorem p_nights (hR : RLX sa b zk hh) : tm_D (g_G sa sc xt) (d + 300) 118 [.ref b, .int v] hh (fun r h1 => (∃ q, h1.2.2 (b + 162) = .inr (12, q)) ∧ tm_D (g_G sa sc xt) (d + 300) 224 [.ref (b + 162), .int v] h1 (PQ sa b zk r)) := by
  obtain ⟨⟨c, F⟩, ⟨rc, R⟩, ⟨L, W, M, B, n, s, g⟩, pa, ru, ⟨hc, H⟩, ⟨mc, Ms, Bs, Os⟩, ga, h0, I, rd, C, e, hW, hM, hS, ho⟩ := hR
  have hn : n ≤ 12 := hM.2.2.1.2.1.1.1
  refine c_nights hW v (fun z => ?_) (fun k h' hk ek hs hW' => ?_)
  · rw [mh_mid e sm.rfl]; refine ⟨⟨_, mh_o⟩, ?_⟩
    exact m_nights hM v (fun I' _ hM' => RL_mk e ho sm.rfl hW hM' hS) (fun k I' rd' C' hk ek => (nb (j := 60) hk (by decide) ek z).elim)
  · rw [mh_mid e hs]; refine ⟨⟨_, mh_o⟩, ?_⟩
    refine m_nights hM v (fun I' z => (nb (j := 60) hk (by decide) ek z).elim) (fun k' I' rd' C' hk' ek' hM' => ?_)
    have := nII (by omega) (by omega) (ek.symm.trans ek')
    subst this
    refine RL_mk e ho hs hW' hM' ?_
    split
    · exact hS.nw (SB_nXT hn hS.1 k)
    · exact hS.push (SB_nXT hn hS.1 k)
end
