/-! THE CHECKER 0b: what stands in places that are no cells: functions of the cells (84 .. 199), functions of numbers alone (200 ..) -/
noncomputable def cb (P : Prop) : Int := @ite Int P (Classical.propDecidable P) 1 0
theorem cb_t {P : Prop} (h : P) : cb P = 1 := by unfold cb; rw [if_pos h]
theorem cb_f {P : Prop} (h : ¬ P) : cb P = 0 := by unfold cb; rw [if_neg h]
theorem cb_1 {P : Prop} (h : cb P = 1) : P := Classical.byContradiction fun q => by rw [cb_f q] at h; cases h
theorem cb_le (P : Prop) : 0 ≤ cb P ∧ cb P ≤ 1 := by
  by_cases h : P
  · rw [cb_t h]; decide
  · rw [cb_f h]; decide
def vf_h (E : Nat → jv_E) (r t : Int) : Int := ck_loc (E 68) (8 * r + t % ck_loc (E 67) r)
def vf_g (E : Nat → jv_E) (r t : Int) : Int := ck_loc (E 69) (8 * r + t % ck_loc (E 67) r)
def vf_lc (E : Nat → jv_E) : Nat → Nat
  | 0 => 1
  | m + 1 => Nat.lcm (vf_lc E m) (ck_loc (E 67) (m : Int)).toNat
def vf_rf (E : Nat → jv_E) : Int := ck_loc (E 65) 0
def vf_b (E : Nat → jv_E) (t r q h : Int) : Int := if vf_h E q (t - h) = h ∧ vf_g E q (t - h) = r then 1 else 0
def vf_cs (E : Nat → jv_E) (t r q : Int) : Nat → Int
  | 0 => 0
  | h + 1 => vf_cs E t r q h + vf_b E t r q ((h : Int) + 1)
def vf_cq (E : Nat → jv_E) (t r : Int) : Nat → Int
  | 0 => 0
  | q + 1 => vf_cq E t r q + vf_cs E t r (q : Int) 9
def vf_cd (E : Nat → jv_E) (t r q h : Int) : Int := vf_cq E t r q.toNat + vf_cs E t r q (h - 1).toNat
/-- what is thrown there at that beat comes from somewhere -/
def vf_from (E : Nat → jv_E) (r t : Int) : Prop := 1 ≤ vf_h E r t → ∃ q h : Int, 0 ≤ q ∧ q < vf_rf E ∧ 1 ≤ h ∧ h ≤ 9 ∧ vf_h E q (t - h) = h ∧ vf_g E q (t - h) = r
def vf_it (E : Nat → jv_E) : Nat → Int × Int → Int × Int
  | 0, a => a
  | k + 1, a => vf_it E k (vf_g E a.1 a.2, a.2 + vf_h E a.1 a.2)
noncomputable def vf_lst (Q : Nat → Prop) : Nat → Nat → Nat
  | 0, _ => 0
  | f + 1, k => @ite Nat (Q k) (Classical.propDecidable (Q k)) k (vf_lst Q f (k + 1))
def vf_sum (g : Int → Int) : Nat → Int
  | 0 => 0
  | n + 1 => vf_sum g n + g (n : Int)
/-- a state behind a throw, in the machine's own numbers -/
def vf_bI (s h : Int32) : Int32 := if s &&& 1 = 0 then (if h = 0 then s >>> (1 &&& 31) else -1) else (if h = 0 then -1 else if (s >>> (h &&& 31)) &&& 1 = 1 then -1 else (s >>> (1 &&& 31)) ||| ((1 : Int32) <<< ((h - 1) &&& 31)))
def vf_bh (s h : Int) : Int := (vf_bI (Int32.ofInt s) (Int32.ofInt h)).toInt
def vf_t (E : Nat → jv_E) (s : Int) : Int := ck_loc (E 81) s
def vf_few (E : Nat → jv_E) (i r : Int) : Int := ck_loc (E 79) (6 * i + r)
/-- what the table of fewest throws says at a place, letters from beat t on, to be there at sb -/
def vf_fe (E : Nat → jv_E) (t sb i r : Int) : Prop :=
  (vf_few E i r = vf_few E (i + 1) r ∧ (1 ≤ vf_h E r (t + i) → i + vf_h E r (t + i) ≤ sb → vf_few E i r ≤ 1 + vf_few E (i + vf_h E r (t + i)) (vf_g E r (t + i)))) ∨
  (1 ≤ vf_h E r (t + i) ∧ i + vf_h E r (t + i) ≤ sb ∧ vf_few E i r = 1 + vf_few E (i + vf_h E r (t + i)) (vf_g E r (t + i)) ∧ vf_few E i r ≤ vf_few E (i + 1) r)
def vf_cnt (f : Int → Int) (v : Int) : Nat → Int
  | 0 => 0
  | n + 1 => vf_cnt f v n + (if f (n : Int) < v then 1 else 0)
def vf_or (a b : Int) : Int := (Int32.ofInt a ||| Int32.ofInt b).toInt
def vf_sh (a b : Int) : Int := (Int32.ofInt a <<< (Int32.ofInt b &&& 31)).toInt
/-- a row's state ahead of throw i, out of its first k beats -/
def vf_so (E : Nat → jv_E) (r i : Int) : Nat → Int
  | 0 => 0
  | k + 1 => if 1 ≤ vf_h E r (i - 9 + (k : Int)) ∧ i ≤ i - 9 + (k : Int) + vf_h E r (i - 9 + (k : Int)) then vf_or (vf_so E r i k) (vf_sh 1 (i - 9 + (k : Int) + vf_h E r (i - 9 + (k : Int)) - i)) else vf_so E r i k
/-- a city's goals and letters go to roofs that it has: rows but x, letters -/
def vf_wx (E : Nat → jv_E) (c x : Int) : Prop := (∀ r i : Int, 0 ≤ r → r < ck_loc (E 65) c → r ≠ x → 0 ≤ i → i < ck_loc (E 67) (6 * c + r) → ck_loc (E 69) (48 * c + 8 * r + i) < ck_loc (E 65) c) ∧ (∀ k : Int, 0 ≤ k → k < ck_loc (E 70) (2 * c + 1) → ck_loc (E 72) (24 * c + 3 * k) < ck_loc (E 65) c ∧ ck_loc (E 72) (24 * c + 3 * k + 2) < ck_loc (E 65) c)
def vf_wr (E : Nat → jv_E) (c r n : Int) : Prop := ∀ i : Int, 0 ≤ i → i < n → ck_loc (E 69) (48 * c + 8 * r + i) < ck_loc (E 65) c
/-- which cells such a place looks at -/
def ck_vd (k j : Nat) : Bool := match j with
  | 65 => (Nat.ble 84 k && Nat.ble k 95) || (Nat.beq k 104 || (Nat.beq k 105 || (Nat.ble 107 k && Nat.ble k 113)))
  | 67 => (Nat.ble 84 k && Nat.ble k 95) || (Nat.beq k 104 || (Nat.beq k 105 || (Nat.ble 107 k && Nat.ble k 112)))
  | 68 => (Nat.ble 84 k && Nat.ble k 95) || (Nat.beq k 104 || (Nat.beq k 105 || Nat.beq k 107))
  | 69 => (Nat.ble 84 k && Nat.ble k 95) || (Nat.beq k 104 || (Nat.beq k 105 || ((Nat.ble 107 k && Nat.ble k 112) || Nat.beq k 114)))
  | 70 => Nat.ble 108 k && Nat.ble k 112
  | 72 => (Nat.ble 108 k && Nat.ble k 112) || Nat.beq k 115
  | 76 => Nat.beq k 113
  | 77 => Nat.beq k 96
  | 81 => Nat.ble 97 k && Nat.ble k 102
  | 79 => Nat.beq k 104 || Nat.beq k 105
  | 61 => Nat.beq k 106
  | 300 => Nat.beq k 300
  | _ => false
noncomputable def ck_vl (k : Nat) (E : Nat → jv_E) (p : Int) : Int := match k with
  | 84 => vf_h E (p / 1000000) (p % 1000000 - 100000)
  | 85 => vf_g E (p / 1000000) (p % 1000000 - 100000)
  | 86 => 8 * (p / 1000000) + (p % 1000000 - 100000) % ck_loc (E 67) (p / 1000000)
  | 87 => (vf_lc E (vf_rf E).toNat : Int)
  | 88 => (vf_lc E p.toNat : Int)
  | 90 => vf_cd E (p / 770 - 1000) (p / 77 % 10) (p % 77 / 11) (p % 11)
  | 91 => cb (vf_from E (p / 1000000) (p % 1000000 - 100000))
  | 92 => cb (∀ t r : Int, 0 ≤ t → 0 ≤ r → r < vf_rf E → 10 * t + r < p → vf_from E r t)
  | 93 => cb (∀ t r : Int, 0 ≤ r → r < vf_rf E → vf_from E r t)
  | 94 => (vf_lst (fun j => (vf_it E j (p / 1000000000000 % 6, p / 1000000 % 1000000 - 100000)).1 = p / 6000000000000 ∧ (vf_lc E (vf_rf E).toNat : Int) ∣ ((vf_it E j (p / 1000000000000 % 6, p / 1000000 % 1000000 - 100000)).2 - (p % 1000000 - 100000))) 6000 1 : Int)
  | 95 => cb (∀ j : Nat, 1 ≤ vf_h E (vf_it E j (p / 1000000, p % 1000000 - 100000)).1 (vf_it E j (p / 1000000, p % 1000000 - 100000)).2 ∧ 1 ≤ ck_loc (E 67) (vf_it E j (p / 1000000, p % 1000000 - 100000)).1)
  | 96 => vf_sum (ck_loc (E 77)) 5040
  | 97 => vf_sum (ck_loc (E 81)) 512
  | 98 => cb (∀ s : Int, 0 ≤ s → s < 512 → vf_t E s = 0 ∨ 1000000 ≤ vf_t E s ∨ ∃ h : Int, 0 ≤ h ∧ h ≤ 9 ∧ 0 ≤ vf_bh s h ∧ vf_t E (vf_bh s h) = vf_t E s - 1)
  | 99 => cb (∀ s h : Int, 0 ≤ s → s < 512 → 0 ≤ h → h ≤ 9 → 10 * s + h < p → 0 ≤ vf_bh s h → vf_t E s ≤ vf_t E (vf_bh s h) + 1)
  | 100 => cb (∀ s : Int, 0 ≤ s → s < 512 → vf_t E s = 0 ∨ 1000000 ≤ vf_t E s ∨ ∃ h : Int, 0 ≤ h ∧ h ≤ 9 ∧ 0 ≤ vf_bh s h ∧ vf_t E (vf_bh s h) + 1 ≤ vf_t E s)
  | 101 => cb (∀ s : Int, 0 ≤ s → s < p → vf_t E s = 0 ∨ 1000000 ≤ vf_t E s)
  | 102 => (vf_lst (fun h => 0 ≤ vf_bh p ((h : Int) - 1) ∧ vf_t E (vf_bh p ((h : Int) - 1)) = vf_t E p - 1) 10 1 : Int) - 1
  | 104 => vf_cnt (fun r => vf_few E (p / 6) r) (vf_few E (p / 6) (p % 6)) (vf_rf E).toNat
  | 105 => cb (∀ i r : Int, 0 ≤ r → r < vf_rf E → 0 ≤ i → i < p / 20000 % 10000 → (p / 1400000000 - 1 < i ∨ (p / 1400000000 - 1 = i ∧ r < p / 200000000 % 7)) → vf_fe E (p % 20000) (p / 20000 % 10000) i r)
  | 106 => cb (∀ i : Int, 0 ≤ i → i < p / 10 % 100 → 0 ≤ ck_loc (E 61) (60 * (p / 1000) + i) ∧ ck_loc (E 61) (60 * (p / 1000) + i) ≤ 99 ∧ ck_loc (E 61) (60 * (p / 1000) + i) % 10 < p % 10)
  | 107 => vf_so E (p / 1000) (p % 1000 / 10) (p % 10).toNat
  | 108 => cb (vf_wx E p (-1))
  | 109 => cb (vf_wr E (p / 1000) (p % 1000 / 10) (p % 10))
  | 110 => cb ((∀ r : Int, 0 ≤ r → r < 6 → ck_loc (E 67) (24 + r) = 1 ∧ ck_loc (E 69) (192 + 8 * r) = r) ∧ ck_loc (E 70) 9 = 0)
  | 112 => cb (vf_wx E (p / 10) (p % 10))
  | 113 => cb (∀ i : Int, 0 ≤ i → i < p → ck_loc (E 76) i < ck_loc (E 65) 0)
  | 114 => cb (∀ i : Int, 0 ≤ i → i < p % 1000 → ck_loc (E 69) (48 * (p / 1000 % 10) + i) = ck_loc (E 69) (48 * (p / 10000) + i))
  | 115 => cb (∀ i : Int, 0 ≤ i → i < p % 1000 → ck_loc (E 72) (24 * (p / 1000 % 10) + i) = ck_loc (E 72) (24 * (p / 10000) + i))
  | 201 => (p / 4294967296 - 2147483648).tmod (p % 4294967296)
  | 202 => cb (p % 1000000 ∣ p / 1000000)
  | 203 => vf_bh (p / 10) (p % 10)
  | 205 => vf_or (p / 4294967296 - 2147483648) (p % 4294967296 - 2147483648)
  | 206 => vf_sh (p / 4294967296 - 2147483648) (p % 4294967296 - 2147483648)
  | 207 => (p / 18446744073709551616 - 9223372036854775808).tmod (p % 18446744073709551616)
  | 300 => ck_loc (E 300) p
  | _ => 0
noncomputable def ck_lk (E : Nat → jv_E) (k : Nat) (p : Int) : Int := if k < 84 then ck_loc (E k) p else ck_vl k E p
/-- a place of k2 may change when the cell k does -/
def ck_hit (k k2 : Nat) : Bool := k2 == k || ck_vd k2 k
theorem ck_lk_c {E : Nat → jv_E} {k : Nat} (h : k < 84) (p : Int) : ck_lk E k p = ck_loc (E k) p := if_pos h
theorem ck_lk_v {E : Nat → jv_E} {k : Nat} (h : 84 ≤ k) (p : Int) : ck_lk E k p = ck_vl k E p := if_neg (Nat.not_lt.mpr h)
theorem vf_lc_eq {E E' : Nat → jv_E} (h : E' 67 = E 67) : ∀ m, vf_lc E' m = vf_lc E m
  | 0 => rfl
  | m + 1 => by show Nat.lcm (vf_lc E' m) _ = Nat.lcm (vf_lc E m) _; rw [vf_lc_eq h m, h]
theorem vf_h_eq {E E' : Nat → jv_E} (h : E' 67 = E 67) (h2 : E' 68 = E 68) : vf_h E' = vf_h E := by
  funext r t; unfold vf_h; rw [h, h2]
theorem vf_g_eq {E E' : Nat → jv_E} (h : E' 67 = E 67) (h2 : E' 69 = E 69) : vf_g E' = vf_g E := by
  funext r t; unfold vf_g; rw [h, h2]
theorem vf_it_eq {E E' : Nat → jv_E} (h : vf_h E' = vf_h E) (h2 : vf_g E' = vf_g E) : ∀ k a, vf_it E' k a = vf_it E k a
  | 0, _ => rfl
  | k + 1, a => by show vf_it E' k _ = vf_it E k _; rw [h, h2, vf_it_eq h h2 k]
theorem vf_cs_eq {E E' : Nat → jv_E} (h : vf_h E' = vf_h E) (h2 : vf_g E' = vf_g E) (t r q : Int) : ∀ n, vf_cs E' t r q n = vf_cs E t r q n
  | 0 => rfl
  | n + 1 => by show vf_cs E' t r q n + _ = vf_cs E t r q n + _; rw [vf_cs_eq h h2 t r q n]; unfold vf_b; rw [h, h2]
theorem vf_cq_eq {E E' : Nat → jv_E} (h : vf_h E' = vf_h E) (h2 : vf_g E' = vf_g E) (t r : Int) : ∀ n, vf_cq E' t r n = vf_cq E t r n
  | 0 => rfl
  | n + 1 => by show vf_cq E' t r n + _ = vf_cq E t r n + _; rw [vf_cq_eq h h2 t r n, vf_cs_eq h h2]
theorem vf_so_eq {E E' : Nat → jv_E} (h : vf_h E' = vf_h E) (r i : Int) : ∀ n, vf_so E' r i n = vf_so E r i n
  | 0 => rfl
  | n + 1 => by
    show (if 1 ≤ vf_h E' r (i - 9 + (n : Int)) ∧ _ then _ else _) = (if 1 ≤ vf_h E r (i - 9 + (n : Int)) ∧ _ then _ else _)
    rw [vf_so_eq h r i n, h]
theorem ck_lk_dep {E E' : Nat → jv_E} {k : Nat} (hd : ∀ j, ck_hit j k = true → E' j = E j) (p : Int) : ck_lk E' k p = ck_lk E k p := by
  by_cases hk : k < 84
  · rw [ck_lk_c hk, ck_lk_c hk, hd k (by unfold ck_hit; simp)]
  · have hk : 84 ≤ k := Nat.not_lt.mp hk
    rw [ck_lk_v hk, ck_lk_v hk]
    have dd : ∀ j, ck_vd k j = true → E' j = E j := fun j hj => hd j (by unfold ck_hit; rw [hj]; simp)
    have A : ck_vd k 65 = true → ck_vd k 67 = true → ck_vd k 68 = true → ck_vd k 69 = true → vf_h E' = vf_h E ∧ vf_g E' = vf_g E ∧ vf_rf E' = vf_rf E ∧ (∀ m, vf_lc E' m = vf_lc E m) ∧ (∀ r t, vf_from E' r t = vf_from E r t) ∧ (∀ j a, vf_it E' j a = vf_it E j a) ∧ E' 67 = E 67 := fun h1 h2 h3 h4 => by
      have e65 := dd 65 h1
      have e67 := dd 67 h2
      have e68 := dd 68 h3
      have e69 := dd 69 h4
      have eh := vf_h_eq e67 e68
      have eg := vf_g_eq e67 e69
      have er : vf_rf E' = vf_rf E := by unfold vf_rf; rw [e65]
      exact ⟨eh, eg, er, vf_lc_eq e67, fun r t => by unfold vf_from; rw [eh, eg, er], vf_it_eq eh eg, e67⟩
    have B : ck_vd k 81 = true → vf_t E' = vf_t E := fun h => by funext s; unfold vf_t; rw [dd 81 h]
    have W : ck_vd k 65 = true → ck_vd k 67 = true → ck_vd k 69 = true → ck_vd k 70 = true → ck_vd k 72 = true → vf_wx E' = vf_wx E := fun h1 h2 h3 h4 h5 => by
      funext c x9; unfold vf_wx; rw [dd 65 h1, dd 67 h2, dd 69 h3, dd 70 h4, dd 72 h5]
    unfold ck_vl
    split
    · obtain ⟨eh, eg, er, el, ef, ei, e67⟩ := A rfl rfl rfl rfl
      rw [eh]
    · obtain ⟨eh, eg, er, el, ef, ei, e67⟩ := A rfl rfl rfl rfl
      rw [eg]
    · obtain ⟨eh, eg, er, el, ef, ei, e67⟩ := A rfl rfl rfl rfl
      rw [e67]
    · obtain ⟨eh, eg, er, el, ef, ei, e67⟩ := A rfl rfl rfl rfl
      rw [er, el]
    · obtain ⟨eh, eg, er, el, ef, ei, e67⟩ := A rfl rfl rfl rfl
      rw [el]
    · obtain ⟨eh, eg, er, el, ef, ei, e67⟩ := A rfl rfl rfl rfl
      unfold vf_cd; rw [vf_cq_eq eh eg, vf_cs_eq eh eg]
    · obtain ⟨eh, eg, er, el, ef, ei, e67⟩ := A rfl rfl rfl rfl
      rw [ef]
    · obtain ⟨eh, eg, er, el, ef, ei, e67⟩ := A rfl rfl rfl rfl
      simp only [ef, er]
    · obtain ⟨eh, eg, er, el, ef, ei, e67⟩ := A rfl rfl rfl rfl
      simp only [ef, er]
    · obtain ⟨eh, eg, er, el, ef, ei, e67⟩ := A rfl rfl rfl rfl
      simp only [ei, er, el]
    · obtain ⟨eh, eg, er, el, ef, ei, e67⟩ := A rfl rfl rfl rfl
      simp only [ei, eh, e67]
    · rw [dd 77 rfl]
    · rw [dd 81 rfl]
    · rw [B rfl]
    · rw [B rfl]
    · rw [B rfl]
    · rw [B rfl]
    · rw [B rfl]
    · obtain ⟨eh, eg, er, el, ef, ei, e67⟩ := A rfl rfl rfl rfl
      have : vf_few E' = vf_few E := by funext i r; unfold vf_few; rw [dd 79 rfl]
      rw [this, er]
    · obtain ⟨eh, eg, er, el, ef, ei, e67⟩ := A rfl rfl rfl rfl
      have e9 : vf_few E' = vf_few E := by funext i r; unfold vf_few; rw [dd 79 rfl]
      have : vf_fe E' = vf_fe E := by funext t sb i r; unfold vf_fe; rw [e9, eh, eg]
      rw [this, er]
    · rw [dd 61 rfl]
    · obtain ⟨eh, eg, er, el, ef, ei, e67⟩ := A rfl rfl rfl rfl
      exact vf_so_eq eh _ _ _
    · rw [W rfl rfl rfl rfl rfl]
    · have : vf_wr E' = vf_wr E := by funext c r n; unfold vf_wr; rw [dd 65 rfl, dd 69 rfl]
      rw [this]
    · rw [dd 67 rfl, dd 69 rfl, dd 70 rfl]
    · rw [W rfl rfl rfl rfl rfl]
    · rw [dd 76 rfl, dd 65 rfl]
    · rw [dd 69 rfl]
    · rw [dd 72 rfl]
    · rfl
    · rfl
    · rfl
    · rfl
    · rfl
    · rfl
    · rw [dd 300 rfl]
    · rfl
theorem ck_lk_up {E : Nat → jv_E} {k k2 : Nat} {e : jv_E} (h : ck_hit k k2 = false) (p : Int) : ck_lk (va_up E k e) k2 p = ck_lk E k2 p :=
  ck_lk_dep (fun j hj => va_up_ne _ _ (fun q => by rw [q, h] at hj; cases hj)) p
