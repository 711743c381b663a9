/-! the reference's object: numbers I, what is read rd, the rule's row ru; its rows C -/
def iu (I : Nat → Int32) (k : Nat) (v : Int32) (j : Nat) : Int32 := if j = k then v else I j
def cup (C : Nat → tm_E) (k : Nat) (e : tm_E) (j : Nat) : tm_E := if j = k then e else C j
def mo (m : Nat) (I : Nat → Int32) (rd : Value) (ru : Nat) : tm_E := .inr (12, [.ref (m + 1), .int (I 1), .ref (m + 2), .ref (m + 3), .int (I 4), .ref (m + 4), .int (I 6), .int (I 7), rd, .int (I 9), .int (I 10), .int (I 11), .int (I 12), .ref (m + 5), .ref ru, .ref (m + 7), .int (I 16), .int (I 17), .ref (m + 8), .ref (m + 9), .int (I 20), .ref (m + 10), .ref (m + 11), .ref (m + 12), .int (I 24), .ref (m + 13), .ref (m + 14), .ref (m + 15), .int (I 28), .ref (m + 16), .ref (m + 17), .ref (m + 18), .ref (m + 19), .ref (m + 20), .ref (m + 21), .int (I 35), .ref (m + 22), .ref (m + 23), .ref (m + 24), .int (I 39), .ref (m + 25), .ref (m + 26), .int (I 42), .int (I 43), .ref (m + 27), .ref (m + 28), .ref (m + 29)])
def mh (h : tm_H) (m : Nat) (I : Nat → Int32) (rd : Value) (ru : Nat) (C : Nat → tm_E) : tm_H := (h.1, h.2.1, fun q => if q = m then mo m I rd ru else if q < m then h.2.2 q else if q < m + 30 then C (q - m) else h.2.2 q)
section
variable {h : tm_H} {m ru : Nat} {I : Nat → Int32} {rd : Value} {C : Nat → tm_E} {φ : Value → Prop} {ψ : tm_E → Prop}
theorem mh_o : (mh h m I rd ru C).2.2 m = mo m I rd ru := if_pos rfl
theorem mh_c {i : Nat} (h1 : 0 < i) (h2 : i < 30) : (mh h m I rd ru C).2.2 (m + i) = C i := by
  show (if m + i = m then _ else if m + i < m then _ else if m + i < m + 30 then C (m + i - m) else _) = _
  rw [if_neg (by omega), if_neg (by omega), if_pos (by omega), Nat.add_sub_cancel_left]
theorem mh_out {q : Nat} (hq : q < m ∨ m + 30 ≤ q) : (mh h m I rd ru C).2.2 q = h.2.2 q := by
  show (if q = m then _ else if q < m then _ else if q < m + 30 then C (q - m) else _) = _
  by_cases c : q < m
  · rw [if_neg (by omega), if_pos c]
  · rw [if_neg (by omega), if_neg c, if_neg (by omega)]
theorem mh_po {I' : Nat → Int32} {rd' : Value} {ru' : Nat} : tm_put (mh h m I rd ru C) m (mo m I' rd' ru') = mh h m I' rd' ru' C := by
  refine tcp_ext rfl rfl (fun q => ?_)
  by_cases e : q = m
  · subst e
    rw [pa_s, mh_o]
  · rw [pa_n e]
    show (if q = m then _ else _) = (if q = m then _ else _)
    rw [if_neg e, if_neg e]
theorem mh_pc {i : Nat} {e : tm_E} (h1 : 0 < i) (h2 : i < 30) : tm_put (mh h m I rd ru C) (m + i) e = mh h m I rd ru (cup C i e) := by
  refine tcp_ext rfl rfl (fun q => ?_)
  by_cases c : q = m + i
  · subst c
    rw [pa_s, mh_c h1 h2]
    exact (if_pos rfl).symm
  · rw [pa_n c]
    show (if q = m then _ else if q < m then _ else if q < m + 30 then C (q - m) else _) = (if q = m then _ else if q < m then _ else if q < m + 30 then (if q - m = i then e else C (q - m)) else _)
    by_cases c1 : q = m
    · rw [if_pos c1, if_pos c1]
    · rw [if_neg c1, if_neg c1]
      by_cases c2 : q < m
      · rw [if_pos c2, if_pos c2]
      · rw [if_neg c2, if_neg c2]
        by_cases c3 : q < m + 30
        · rw [if_pos c3, if_pos c3, if_neg (by omega)]
        · rw [if_neg c3, if_neg c3]
theorem iu_iu {k : Nat} {v w : Int32} : iu (iu I k v) k w = iu I k w := by
  funext j
  unfold iu
  split <;> rfl
theorem iu_eta {k : Nat} {v : Int32} (hv : I k = v) : iu I k v = I := by
  funext j
  unfold iu
  split
  · rename_i e; rw [e, hv]
  · rfl
theorem cup_cup {k : Nat} {v w : tm_E} : cup (cup C k v) k w = cup C k w := by
  funext j
  unfold cup
  split <;> rfl
theorem cup_eta {k : Nat} {v : tm_E} (hv : C k = v) : cup C k v = C := by
  funext j
  unfold cup
  split
  · rename_i e; rw [e, hv]
  · rfl
theorem mcv {n : Nat} {P : Prop} : x_cv (mo m I rd ru) 12 n P ↔ n ≤ 8 ∧ P := ⟨fun q => q.2, fun q => ⟨rfl, q⟩⟩
theorem mg_0 : x_get (mo m I rd ru) 12 0 φ ↔ φ (.ref (m + 1)) := ⟨fun q => q.2, fun q => ⟨rfl, q⟩⟩
theorem mg_1 : x_get (mo m I rd ru) 12 1 φ ↔ φ (.int (I 1)) := ⟨fun q => q.2, fun q => ⟨rfl, q⟩⟩
theorem mg_2 : x_get (mo m I rd ru) 12 2 φ ↔ φ (.ref (m + 2)) := ⟨fun q => q.2, fun q => ⟨rfl, q⟩⟩
theorem mg_3 : x_get (mo m I rd ru) 12 3 φ ↔ φ (.ref (m + 3)) := ⟨fun q => q.2, fun q => ⟨rfl, q⟩⟩
theorem mg_4 : x_get (mo m I rd ru) 12 4 φ ↔ φ (.int (I 4)) := ⟨fun q => q.2, fun q => ⟨rfl, q⟩⟩
theorem mg_5 : x_get (mo m I rd ru) 12 5 φ ↔ φ (.ref (m + 4)) := ⟨fun q => q.2, fun q => ⟨rfl, q⟩⟩
theorem mg_6 : x_get (mo m I rd ru) 12 6 φ ↔ φ (.int (I 6)) := ⟨fun q => q.2, fun q => ⟨rfl, q⟩⟩
theorem mg_7 : x_get (mo m I rd ru) 12 7 φ ↔ φ (.int (I 7)) := ⟨fun q => q.2, fun q => ⟨rfl, q⟩⟩
theorem mg_8 : x_get (mo m I rd ru) 12 8 φ ↔ φ (rd) := ⟨fun q => q.2, fun q => ⟨rfl, q⟩⟩
theorem mg_9 : x_get (mo m I rd ru) 12 9 φ ↔ φ (.int (I 9)) := ⟨fun q => q.2, fun q => ⟨rfl, q⟩⟩
theorem mg_10 : x_get (mo m I rd ru) 12 10 φ ↔ φ (.int (I 10)) := ⟨fun q => q.2, fun q => ⟨rfl, q⟩⟩
theorem mg_11 : x_get (mo m I rd ru) 12 11 φ ↔ φ (.int (I 11)) := ⟨fun q => q.2, fun q => ⟨rfl, q⟩⟩
theorem mg_12 : x_get (mo m I rd ru) 12 12 φ ↔ φ (.int (I 12)) := ⟨fun q => q.2, fun q => ⟨rfl, q⟩⟩
theorem mg_13 : x_get (mo m I rd ru) 12 13 φ ↔ φ (.ref (m + 5)) := ⟨fun q => q.2, fun q => ⟨rfl, q⟩⟩
theorem mg_14 : x_get (mo m I rd ru) 12 14 φ ↔ φ (.ref ru) := ⟨fun q => q.2, fun q => ⟨rfl, q⟩⟩
theorem mg_15 : x_get (mo m I rd ru) 12 15 φ ↔ φ (.ref (m + 7)) := ⟨fun q => q.2, fun q => ⟨rfl, q⟩⟩
theorem mg_16 : x_get (mo m I rd ru) 12 16 φ ↔ φ (.int (I 16)) := ⟨fun q => q.2, fun q => ⟨rfl, q⟩⟩
theorem mg_17 : x_get (mo m I rd ru) 12 17 φ ↔ φ (.int (I 17)) := ⟨fun q => q.2, fun q => ⟨rfl, q⟩⟩
theorem mg_18 : x_get (mo m I rd ru) 12 18 φ ↔ φ (.ref (m + 8)) := ⟨fun q => q.2, fun q => ⟨rfl, q⟩⟩
theorem mg_19 : x_get (mo m I rd ru) 12 19 φ ↔ φ (.ref (m + 9)) := ⟨fun q => q.2, fun q => ⟨rfl, q⟩⟩
theorem mg_20 : x_get (mo m I rd ru) 12 20 φ ↔ φ (.int (I 20)) := ⟨fun q => q.2, fun q => ⟨rfl, q⟩⟩
theorem mg_21 : x_get (mo m I rd ru) 12 21 φ ↔ φ (.ref (m + 10)) := ⟨fun q => q.2, fun q => ⟨rfl, q⟩⟩
theorem mg_22 : x_get (mo m I rd ru) 12 22 φ ↔ φ (.ref (m + 11)) := ⟨fun q => q.2, fun q => ⟨rfl, q⟩⟩
theorem mg_23 : x_get (mo m I rd ru) 12 23 φ ↔ φ (.ref (m + 12)) := ⟨fun q => q.2, fun q => ⟨rfl, q⟩⟩
theorem mg_24 : x_get (mo m I rd ru) 12 24 φ ↔ φ (.int (I 24)) := ⟨fun q => q.2, fun q => ⟨rfl, q⟩⟩
theorem mg_25 : x_get (mo m I rd ru) 12 25 φ ↔ φ (.ref (m + 13)) := ⟨fun q => q.2, fun q => ⟨rfl, q⟩⟩
theorem mg_26 : x_get (mo m I rd ru) 12 26 φ ↔ φ (.ref (m + 14)) := ⟨fun q => q.2, fun q => ⟨rfl, q⟩⟩
theorem mg_27 : x_get (mo m I rd ru) 12 27 φ ↔ φ (.ref (m + 15)) := ⟨fun q => q.2, fun q => ⟨rfl, q⟩⟩
theorem mg_28 : x_get (mo m I rd ru) 12 28 φ ↔ φ (.int (I 28)) := ⟨fun q => q.2, fun q => ⟨rfl, q⟩⟩
theorem mg_29 : x_get (mo m I rd ru) 12 29 φ ↔ φ (.ref (m + 16)) := ⟨fun q => q.2, fun q => ⟨rfl, q⟩⟩
theorem mg_30 : x_get (mo m I rd ru) 12 30 φ ↔ φ (.ref (m + 17)) := ⟨fun q => q.2, fun q => ⟨rfl, q⟩⟩
theorem mg_31 : x_get (mo m I rd ru) 12 31 φ ↔ φ (.ref (m + 18)) := ⟨fun q => q.2, fun q => ⟨rfl, q⟩⟩
theorem mg_32 : x_get (mo m I rd ru) 12 32 φ ↔ φ (.ref (m + 19)) := ⟨fun q => q.2, fun q => ⟨rfl, q⟩⟩
theorem mg_33 : x_get (mo m I rd ru) 12 33 φ ↔ φ (.ref (m + 20)) := ⟨fun q => q.2, fun q => ⟨rfl, q⟩⟩
theorem mg_34 : x_get (mo m I rd ru) 12 34 φ ↔ φ (.ref (m + 21)) := ⟨fun q => q.2, fun q => ⟨rfl, q⟩⟩
theorem mg_35 : x_get (mo m I rd ru) 12 35 φ ↔ φ (.int (I 35)) := ⟨fun q => q.2, fun q => ⟨rfl, q⟩⟩
theorem mg_36 : x_get (mo m I rd ru) 12 36 φ ↔ φ (.ref (m + 22)) := ⟨fun q => q.2, fun q => ⟨rfl, q⟩⟩
theorem mg_37 : x_get (mo m I rd ru) 12 37 φ ↔ φ (.ref (m + 23)) := ⟨fun q => q.2, fun q => ⟨rfl, q⟩⟩
theorem mg_38 : x_get (mo m I rd ru) 12 38 φ ↔ φ (.ref (m + 24)) := ⟨fun q => q.2, fun q => ⟨rfl, q⟩⟩
theorem mg_39 : x_get (mo m I rd ru) 12 39 φ ↔ φ (.int (I 39)) := ⟨fun q => q.2, fun q => ⟨rfl, q⟩⟩
theorem mg_40 : x_get (mo m I rd ru) 12 40 φ ↔ φ (.ref (m + 25)) := ⟨fun q => q.2, fun q => ⟨rfl, q⟩⟩
theorem mg_41 : x_get (mo m I rd ru) 12 41 φ ↔ φ (.ref (m + 26)) := ⟨fun q => q.2, fun q => ⟨rfl, q⟩⟩
theorem mg_42 : x_get (mo m I rd ru) 12 42 φ ↔ φ (.int (I 42)) := ⟨fun q => q.2, fun q => ⟨rfl, q⟩⟩
theorem mg_43 : x_get (mo m I rd ru) 12 43 φ ↔ φ (.int (I 43)) := ⟨fun q => q.2, fun q => ⟨rfl, q⟩⟩
theorem mg_44 : x_get (mo m I rd ru) 12 44 φ ↔ φ (.ref (m + 27)) := ⟨fun q => q.2, fun q => ⟨rfl, q⟩⟩
theorem mg_45 : x_get (mo m I rd ru) 12 45 φ ↔ φ (.ref (m + 28)) := ⟨fun q => q.2, fun q => ⟨rfl, q⟩⟩
theorem mg_46 : x_get (mo m I rd ru) 12 46 φ ↔ φ (.ref (m + 29)) := ⟨fun q => q.2, fun q => ⟨rfl, q⟩⟩
theorem ms_1 {v : Int32} : x_set (mo m I rd ru) 12 1 .int (.int v) ψ ↔ ψ (mo m (iu I 1 v) rd ru) := ⟨fun q => q.2, fun q => ⟨⟨rfl, Nat.le_of_ble_eq_true rfl, rfl, rfl⟩, q⟩⟩
theorem ms_4 {v : Int32} : x_set (mo m I rd ru) 12 4 .int (.int v) ψ ↔ ψ (mo m (iu I 4 v) rd ru) := ⟨fun q => q.2, fun q => ⟨⟨rfl, Nat.le_of_ble_eq_true rfl, rfl, rfl⟩, q⟩⟩
theorem ms_6 {v : Int32} : x_set (mo m I rd ru) 12 6 .int (.int v) ψ ↔ ψ (mo m (iu I 6 v) rd ru) := ⟨fun q => q.2, fun q => ⟨⟨rfl, Nat.le_of_ble_eq_true rfl, rfl, rfl⟩, q⟩⟩
theorem ms_7 {v : Int32} : x_set (mo m I rd ru) 12 7 .int (.int v) ψ ↔ ψ (mo m (iu I 7 v) rd ru) := ⟨fun q => q.2, fun q => ⟨⟨rfl, Nat.le_of_ble_eq_true rfl, rfl, rfl⟩, q⟩⟩
theorem ms_9 {v : Int32} : x_set (mo m I rd ru) 12 9 .int (.int v) ψ ↔ ψ (mo m (iu I 9 v) rd ru) := ⟨fun q => q.2, fun q => ⟨⟨rfl, Nat.le_of_ble_eq_true rfl, rfl, rfl⟩, q⟩⟩
theorem ms_10 {v : Int32} : x_set (mo m I rd ru) 12 10 .int (.int v) ψ ↔ ψ (mo m (iu I 10 v) rd ru) := ⟨fun q => q.2, fun q => ⟨⟨rfl, Nat.le_of_ble_eq_true rfl, rfl, rfl⟩, q⟩⟩
theorem ms_11 {v : Int32} : x_set (mo m I rd ru) 12 11 .int (.int v) ψ ↔ ψ (mo m (iu I 11 v) rd ru) := ⟨fun q => q.2, fun q => ⟨⟨rfl, Nat.le_of_ble_eq_true rfl, rfl, rfl⟩, q⟩⟩
theorem ms_12 {v : Int32} : x_set (mo m I rd ru) 12 12 .int (.int v) ψ ↔ ψ (mo m (iu I 12 v) rd ru) := ⟨fun q => q.2, fun q => ⟨⟨rfl, Nat.le_of_ble_eq_true rfl, rfl, rfl⟩, q⟩⟩
theorem ms_16 {v : Int32} : x_set (mo m I rd ru) 12 16 .int (.int v) ψ ↔ ψ (mo m (iu I 16 v) rd ru) := ⟨fun q => q.2, fun q => ⟨⟨rfl, Nat.le_of_ble_eq_true rfl, rfl, rfl⟩, q⟩⟩
theorem ms_20 {v : Int32} : x_set (mo m I rd ru) 12 20 .int (.int v) ψ ↔ ψ (mo m (iu I 20 v) rd ru) := ⟨fun q => q.2, fun q => ⟨⟨rfl, Nat.le_of_ble_eq_true rfl, rfl, rfl⟩, q⟩⟩
theorem ms_24 {v : Int32} : x_set (mo m I rd ru) 12 24 .int (.int v) ψ ↔ ψ (mo m (iu I 24 v) rd ru) := ⟨fun q => q.2, fun q => ⟨⟨rfl, Nat.le_of_ble_eq_true rfl, rfl, rfl⟩, q⟩⟩
theorem ms_28 {v : Int32} : x_set (mo m I rd ru) 12 28 .int (.int v) ψ ↔ ψ (mo m (iu I 28 v) rd ru) := ⟨fun q => q.2, fun q => ⟨⟨rfl, Nat.le_of_ble_eq_true rfl, rfl, rfl⟩, q⟩⟩
theorem ms_35 {v : Int32} : x_set (mo m I rd ru) 12 35 .int (.int v) ψ ↔ ψ (mo m (iu I 35 v) rd ru) := ⟨fun q => q.2, fun q => ⟨⟨rfl, Nat.le_of_ble_eq_true rfl, rfl, rfl⟩, q⟩⟩
theorem ms_39 {v : Int32} : x_set (mo m I rd ru) 12 39 .int (.int v) ψ ↔ ψ (mo m (iu I 39 v) rd ru) := ⟨fun q => q.2, fun q => ⟨⟨rfl, Nat.le_of_ble_eq_true rfl, rfl, rfl⟩, q⟩⟩
theorem ms_42 {v : Int32} : x_set (mo m I rd ru) 12 42 .int (.int v) ψ ↔ ψ (mo m (iu I 42 v) rd ru) := ⟨fun q => q.2, fun q => ⟨⟨rfl, Nat.le_of_ble_eq_true rfl, rfl, rfl⟩, q⟩⟩
theorem ms_43 {v : Int32} : x_set (mo m I rd ru) 12 43 .int (.int v) ψ ↔ ψ (mo m (iu I 43 v) rd ru) := ⟨fun q => q.2, fun q => ⟨⟨rfl, Nat.le_of_ble_eq_true rfl, rfl, rfl⟩, q⟩⟩
theorem ms_17 {v : Bool} : x_set (mo m I rd ru) 12 17 .boolean (.int (bI v)) ψ ↔ ψ (mo m (iu I 17 (bI v)) rd ru) := ⟨fun q => q.2, fun q => ⟨⟨rfl, Nat.le_of_ble_eq_true rfl, bI_n, by cases v <;> rfl⟩, q⟩⟩
theorem ms_17t : x_set (mo m I rd ru) 12 17 .boolean (.int 1) ψ ↔ ψ (mo m (iu I 17 1) rd ru) := ms_17 (v := true)
theorem ms_17f : x_set (mo m I rd ru) 12 17 .boolean (.int 0) ψ ↔ ψ (mo m (iu I 17 0) rd ru) := ms_17 (v := false)
theorem ms_8 {a : Nat} {t : FieldType} : x_set (mo m I rd ru) 12 8 (.array t) (.ref a) ψ ↔ ψ (mo m I (.ref a) ru) := ⟨fun q => q.2, fun q => ⟨⟨rfl, Nat.le_of_ble_eq_true rfl, rfl, rfl⟩, q⟩⟩
theorem ms_14 {a : Nat} {t : FieldType} : x_set (mo m I rd ru) 12 14 (.array t) (.ref a) ψ ↔ ψ (mo m I rd a) := ⟨fun q => q.2, fun q => ⟨⟨rfl, Nat.le_of_ble_eq_true rfl, rfl, rfl⟩, q⟩⟩
theorem mc_1 : (mh h m I rd ru C).2.2 (m + 1) = C 1 := mh_c (by decide) (by decide)
theorem mp_1 {e : tm_E} : tm_put (mh h m I rd ru C) (m + 1) e = mh h m I rd ru (cup C 1 e) := mh_pc (by decide) (by decide)
theorem mc_2 : (mh h m I rd ru C).2.2 (m + 2) = C 2 := mh_c (by decide) (by decide)
theorem mp_2 {e : tm_E} : tm_put (mh h m I rd ru C) (m + 2) e = mh h m I rd ru (cup C 2 e) := mh_pc (by decide) (by decide)
theorem mc_3 : (mh h m I rd ru C).2.2 (m + 3) = C 3 := mh_c (by decide) (by decide)
theorem mp_3 {e : tm_E} : tm_put (mh h m I rd ru C) (m + 3) e = mh h m I rd ru (cup C 3 e) := mh_pc (by decide) (by decide)
theorem mc_4 : (mh h m I rd ru C).2.2 (m + 4) = C 4 := mh_c (by decide) (by decide)
theorem mp_4 {e : tm_E} : tm_put (mh h m I rd ru C) (m + 4) e = mh h m I rd ru (cup C 4 e) := mh_pc (by decide) (by decide)
theorem mc_5 : (mh h m I rd ru C).2.2 (m + 5) = C 5 := mh_c (by decide) (by decide)
theorem mp_5 {e : tm_E} : tm_put (mh h m I rd ru C) (m + 5) e = mh h m I rd ru (cup C 5 e) := mh_pc (by decide) (by decide)
theorem mc_6 : (mh h m I rd ru C).2.2 (m + 6) = C 6 := mh_c (by decide) (by decide)
theorem mp_6 {e : tm_E} : tm_put (mh h m I rd ru C) (m + 6) e = mh h m I rd ru (cup C 6 e) := mh_pc (by decide) (by decide)
theorem mc_7 : (mh h m I rd ru C).2.2 (m + 7) = C 7 := mh_c (by decide) (by decide)
theorem mp_7 {e : tm_E} : tm_put (mh h m I rd ru C) (m + 7) e = mh h m I rd ru (cup C 7 e) := mh_pc (by decide) (by decide)
theorem mc_8 : (mh h m I rd ru C).2.2 (m + 8) = C 8 := mh_c (by decide) (by decide)
theorem mp_8 {e : tm_E} : tm_put (mh h m I rd ru C) (m + 8) e = mh h m I rd ru (cup C 8 e) := mh_pc (by decide) (by decide)
theorem mc_9 : (mh h m I rd ru C).2.2 (m + 9) = C 9 := mh_c (by decide) (by decide)
theorem mp_9 {e : tm_E} : tm_put (mh h m I rd ru C) (m + 9) e = mh h m I rd ru (cup C 9 e) := mh_pc (by decide) (by decide)
theorem mc_10 : (mh h m I rd ru C).2.2 (m + 10) = C 10 := mh_c (by decide) (by decide)
theorem mp_10 {e : tm_E} : tm_put (mh h m I rd ru C) (m + 10) e = mh h m I rd ru (cup C 10 e) := mh_pc (by decide) (by decide)
theorem mc_11 : (mh h m I rd ru C).2.2 (m + 11) = C 11 := mh_c (by decide) (by decide)
theorem mp_11 {e : tm_E} : tm_put (mh h m I rd ru C) (m + 11) e = mh h m I rd ru (cup C 11 e) := mh_pc (by decide) (by decide)
theorem mc_12 : (mh h m I rd ru C).2.2 (m + 12) = C 12 := mh_c (by decide) (by decide)
theorem mp_12 {e : tm_E} : tm_put (mh h m I rd ru C) (m + 12) e = mh h m I rd ru (cup C 12 e) := mh_pc (by decide) (by decide)
theorem mc_13 : (mh h m I rd ru C).2.2 (m + 13) = C 13 := mh_c (by decide) (by decide)
theorem mp_13 {e : tm_E} : tm_put (mh h m I rd ru C) (m + 13) e = mh h m I rd ru (cup C 13 e) := mh_pc (by decide) (by decide)
theorem mc_14 : (mh h m I rd ru C).2.2 (m + 14) = C 14 := mh_c (by decide) (by decide)
theorem mp_14 {e : tm_E} : tm_put (mh h m I rd ru C) (m + 14) e = mh h m I rd ru (cup C 14 e) := mh_pc (by decide) (by decide)
theorem mc_15 : (mh h m I rd ru C).2.2 (m + 15) = C 15 := mh_c (by decide) (by decide)
theorem mp_15 {e : tm_E} : tm_put (mh h m I rd ru C) (m + 15) e = mh h m I rd ru (cup C 15 e) := mh_pc (by decide) (by decide)
theorem mc_16 : (mh h m I rd ru C).2.2 (m + 16) = C 16 := mh_c (by decide) (by decide)
theorem mp_16 {e : tm_E} : tm_put (mh h m I rd ru C) (m + 16) e = mh h m I rd ru (cup C 16 e) := mh_pc (by decide) (by decide)
theorem mc_17 : (mh h m I rd ru C).2.2 (m + 17) = C 17 := mh_c (by decide) (by decide)
theorem mp_17 {e : tm_E} : tm_put (mh h m I rd ru C) (m + 17) e = mh h m I rd ru (cup C 17 e) := mh_pc (by decide) (by decide)
theorem mc_18 : (mh h m I rd ru C).2.2 (m + 18) = C 18 := mh_c (by decide) (by decide)
theorem mp_18 {e : tm_E} : tm_put (mh h m I rd ru C) (m + 18) e = mh h m I rd ru (cup C 18 e) := mh_pc (by decide) (by decide)
theorem mc_19 : (mh h m I rd ru C).2.2 (m + 19) = C 19 := mh_c (by decide) (by decide)
theorem mp_19 {e : tm_E} : tm_put (mh h m I rd ru C) (m + 19) e = mh h m I rd ru (cup C 19 e) := mh_pc (by decide) (by decide)
theorem mc_20 : (mh h m I rd ru C).2.2 (m + 20) = C 20 := mh_c (by decide) (by decide)
theorem mp_20 {e : tm_E} : tm_put (mh h m I rd ru C) (m + 20) e = mh h m I rd ru (cup C 20 e) := mh_pc (by decide) (by decide)
theorem mc_21 : (mh h m I rd ru C).2.2 (m + 21) = C 21 := mh_c (by decide) (by decide)
theorem mp_21 {e : tm_E} : tm_put (mh h m I rd ru C) (m + 21) e = mh h m I rd ru (cup C 21 e) := mh_pc (by decide) (by decide)
theorem mc_22 : (mh h m I rd ru C).2.2 (m + 22) = C 22 := mh_c (by decide) (by decide)
theorem mp_22 {e : tm_E} : tm_put (mh h m I rd ru C) (m + 22) e = mh h m I rd ru (cup C 22 e) := mh_pc (by decide) (by decide)
theorem mc_23 : (mh h m I rd ru C).2.2 (m + 23) = C 23 := mh_c (by decide) (by decide)
theorem mp_23 {e : tm_E} : tm_put (mh h m I rd ru C) (m + 23) e = mh h m I rd ru (cup C 23 e) := mh_pc (by decide) (by decide)
theorem mc_24 : (mh h m I rd ru C).2.2 (m + 24) = C 24 := mh_c (by decide) (by decide)
theorem mp_24 {e : tm_E} : tm_put (mh h m I rd ru C) (m + 24) e = mh h m I rd ru (cup C 24 e) := mh_pc (by decide) (by decide)
theorem mc_25 : (mh h m I rd ru C).2.2 (m + 25) = C 25 := mh_c (by decide) (by decide)
theorem mp_25 {e : tm_E} : tm_put (mh h m I rd ru C) (m + 25) e = mh h m I rd ru (cup C 25 e) := mh_pc (by decide) (by decide)
theorem mc_26 : (mh h m I rd ru C).2.2 (m + 26) = C 26 := mh_c (by decide) (by decide)
theorem mp_26 {e : tm_E} : tm_put (mh h m I rd ru C) (m + 26) e = mh h m I rd ru (cup C 26 e) := mh_pc (by decide) (by decide)
theorem mc_27 : (mh h m I rd ru C).2.2 (m + 27) = C 27 := mh_c (by decide) (by decide)
theorem mp_27 {e : tm_E} : tm_put (mh h m I rd ru C) (m + 27) e = mh h m I rd ru (cup C 27 e) := mh_pc (by decide) (by decide)
theorem mc_28 : (mh h m I rd ru C).2.2 (m + 28) = C 28 := mh_c (by decide) (by decide)
theorem mp_28 {e : tm_E} : tm_put (mh h m I rd ru C) (m + 28) e = mh h m I rd ru (cup C 28 e) := mh_pc (by decide) (by decide)
theorem mc_29 : (mh h m I rd ru C).2.2 (m + 29) = C 29 := mh_c (by decide) (by decide)
theorem mp_29 {e : tm_E} : tm_put (mh h m I rd ru C) (m + 29) e = mh h m I rd ru (cup C 29 e) := mh_pc (by decide) (by decide)
end
