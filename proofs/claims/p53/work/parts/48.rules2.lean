/-! THE RULES, the soonest way -/
theorem k104 {E : Nat → jv_E} {p i r : Int} (h : p = 6 * i + r) (h1 : 0 ≤ r) (h2 : r ≤ 5) : ck_lk E 104 p = vf_cnt (fun r => vf_few E i r) (vf_few E i r) (vf_rf E).toNat := by
  rw [ck_lk_v (by decide)]
  show vf_cnt (fun r => vf_few E (p / 6) r) (vf_few E (p / 6) (p % 6)) (vf_rf E).toNat = _
  rw [show p / 6 = i by omega, show p % 6 = r by omega]
def vf_G (E : Nat → jv_E) (t sb i r : Int) : Prop := ∀ i' r' : Int, 0 ≤ r' → r' < vf_rf E → 0 ≤ i' → i' < sb → (i < i' ∨ (i = i' ∧ r' < r)) → vf_fe E t sb i' r'
theorem k105 {E : Nat → jv_E} {p i r sb t : Int} (h : p = 1400000000 * i + 200000000 * r + 20000 * sb + t + 1400000000) (h1 : 0 ≤ r) (h2 : r ≤ 6) (h3 : 0 ≤ sb) (h4 : sb ≤ 5390) (h5 : 0 ≤ t) (h6 : t ≤ 9999) : ck_lk E 105 p = cb (vf_G E t sb i r) := by
  rw [ck_lk_v (by decide)]
  show cb (∀ i' r' : Int, 0 ≤ r' → r' < vf_rf E → 0 ≤ i' → i' < p / 20000 % 10000 → (p / 1400000000 - 1 < i' ∨ (p / 1400000000 - 1 = i' ∧ r' < p / 200000000 % 7)) → vf_fe E (p % 20000) (p / 20000 % 10000) i' r') = _
  rw [show p / 20000 % 10000 = sb by omega, show p / 1400000000 - 1 = i by omega, show p / 200000000 % 7 = r by omega, show p % 20000 = t by omega]
  rfl
theorem vf_per1 {E : Nat → jv_E} (g0 : ck_FL 0 E) (h : 1 ≤ ck_loc (E 65) 0) : ∀ r : Int, 0 ≤ r → r ≤ 5 → 1 ≤ ck_loc (E 67) r := fun r r0 r5 => by
  unfold ck_FL at g0
  rw [if_pos (by decide)] at g0
  rcases g0 with ⟨a, -⟩ | h9
  · have a : ck_loc (E 65) 0 = 0 := a
    omega
  · have h9 : 1 ≤ ck_loc (E 67) (0 + r) := h9 r r0 (by omega)
    rw [Int.zero_add] at h9
    exact h9
theorem vf_G_st {E : Nat → jv_E} {e' : jv_E} {t sb i r : Int} (hgi : ck_gi E) (hper : ∀ r : Int, 0 ≤ r → r ≤ 5 → 1 ≤ ck_loc (E 67) r) (hi : 0 ≤ i) (hr : 0 ≤ r) (hr5 : r ≤ 5) (l2 : ∀ j, 0 ≤ j → ¬ j = 6 * i + r → ck_loc e' j = ck_loc (E 79) j) (hG : vf_G E t sb i r) (hn : vf_fe (va_up E 79 e') t sb i r) : vf_G (va_up E 79 e') t sb i (r + 1) := by
  intro i' r' a0 a1 b0 b1 hc
  have er : vf_rf (va_up E 79 e') = vf_rf E := by unfold vf_rf; rw [un (by decide)]
  rw [er] at a1
  have hb := vf_rfb hgi
  by_cases hx : i = i' ∧ r' = r
  · obtain ⟨rfl, rfl⟩ := hx
    exact hn
  · have hc2 : i < i' ∨ (i = i' ∧ r' < r) := by omega
    have hf := hG i' r' a0 a1 b0 b1 hc2
    have eh : vf_h (va_up E 79 e') = vf_h E := vf_h_eq (un (by decide)) (un (by decide))
    have eg : vf_g (va_up E 79 e') = vf_g E := vf_g_eq (un (by decide)) (un (by decide))
    have b4 := vf_gb hgi (r := r') (t := t + i') (by omega) (by omega) (hper _ (by omega) (by omega))
    have f1 : vf_few (va_up E 79 e') i' r' = vf_few E i' r' := by unfold vf_few; rw [va_up_self]; exact l2 _ (by omega) (by omega)
    have f2 : vf_few (va_up E 79 e') (i' + 1) r' = vf_few E (i' + 1) r' := by unfold vf_few; rw [va_up_self]; exact l2 _ (by omega) (by omega)
    have f3 : 1 ≤ vf_h E r' (t + i') → vf_few (va_up E 79 e') (i' + vf_h E r' (t + i')) (vf_g E r' (t + i')) = vf_few E (i' + vf_h E r' (t + i')) (vf_g E r' (t + i')) := fun h1 => by unfold vf_few; rw [va_up_self]; exact l2 _ (by omega) (by omega)
    unfold vf_fe at hf ⊢
    rw [eh, eg, f1, f2]
    rcases hf with ⟨p, q⟩ | ⟨p, q, s, u⟩
    · exact Or.inl ⟨p, fun h1 h2 => by rw [f3 h1]; exact q h1 h2⟩
    · exact Or.inr ⟨p, q, by rw [f3 p]; exact s, u⟩
theorem vf_fmono {E : Nat → jv_E} {t sb : Int} (hG : vf_G E t sb (-1) 0) : ∀ (i r : Int) (d : Nat), 0 ≤ i → i + d ≤ sb → 0 ≤ r → r < vf_rf E → vf_few E i r ≤ vf_few E (i + d) r := by
  intro i r d
  induction d with
  | zero => intro _ _ _ _; rw [show i + ((0 : Nat) : Int) = i by omega]; exact Int.le_refl _
  | succ d ih =>
    intro h0 h1 r0 r1
    have h2 := ih h0 (by omega) r0 r1
    have h3 := hG (i + d) r r0 r1 (by omega) (by omega) (Or.inl (by omega))
    have h4 : vf_few E (i + d) r ≤ vf_few E (i + d + 1) r := by
      rcases h3 with ⟨p, -⟩ | ⟨-, -, -, u⟩
      · omega
      · exact u
    rw [show i + ((d + 1 : Nat) : Int) = i + d + 1 by omega]
    omega
theorem vf_cnt_nn {f : Int → Int} {v : Int} : ∀ n : Nat, 0 ≤ vf_cnt f v n
  | 0 => Int.le_refl _
  | n + 1 => by
    have := vf_cnt_nn (f := f) (v := v) n
    show 0 ≤ vf_cnt f v n + (if f (n : Int) < v then 1 else 0)
    split <;> omega
theorem vf_cnt_le {f f' : Int → Int} {v v' : Int} : ∀ n : Nat, (∀ r : Int, 0 ≤ r → r < n → f' r < v' → f r < v) → vf_cnt f' v' n ≤ vf_cnt f v n
  | 0, _ => Int.le_refl _
  | n + 1, h => by
    have ih := vf_cnt_le (f := f) (f' := f') (v := v) (v' := v') n (fun r a b c => h r a (by omega) c)
    have h9 := h (n : Int) (by omega) (by omega)
    show vf_cnt f' v' n + (if f' (n : Int) < v' then 1 else 0) ≤ vf_cnt f v n + (if f (n : Int) < v then 1 else 0)
    by_cases c : f' (n : Int) < v'
    · rw [if_pos c, if_pos (h9 c)]; omega
    · rw [if_neg c]; split <;> omega
theorem vf_cnt_lt {f f' : Int → Int} {v v' r0 : Int} (h0 : 0 ≤ r0) (ha : f r0 < v) (hb : ¬ f' r0 < v') : ∀ n : Nat, r0 < n → (∀ r : Int, 0 ≤ r → r < n → f' r < v' → f r < v) → vf_cnt f' v' n + 1 ≤ vf_cnt f v n
  | 0, h1, _ => absurd h1 (by omega)
  | n + 1, h1, h => by
    show vf_cnt f' v' n + (if f' (n : Int) < v' then 1 else 0) + 1 ≤ vf_cnt f v n + (if f (n : Int) < v then 1 else 0)
    by_cases e : (n : Int) = r0
    · have ih := vf_cnt_le (f := f) (f' := f') (v := v) (v' := v') n (fun r a b c => h r a (by omega) c)
      rw [e, if_neg hb, if_pos ha]; omega
    · have ih := vf_cnt_lt (f := f) (f' := f') (v := v) (v' := v') h0 ha hb n (by omega) (fun r a b c => h r a (by omega) c)
      have h9 := h (n : Int) (by omega) (by omega)
      by_cases c : f' (n : Int) < v'
      · rw [if_pos c, if_pos (h9 c)]; omega
      · rw [if_neg c]; split <;> omega
theorem vf_cnt_bd {f : Int → Int} {v : Int} : ∀ n : Nat, vf_cnt f v n ≤ n
  | 0 => Int.le_refl _
  | n + 1 => by
    have := vf_cnt_bd (f := f) (v := v) n
    show vf_cnt f v n + (if f (n : Int) < v then 1 else 0) ≤ ((n + 1 : Nat) : Int)
    split <;> omega
def ceQ0 : ck_N := (9999, (2, [(0, [(0, 1)]), (5390, [(0, (-1))]), (0, [(1, 1)]), (9999, [(1, (-1))])], [], [], []), [(2, [], none, [(105, (1400000000, [(0, 1400020000), (1, 1)]), (1, []))], [])], [], 0, 0)
def ceQ1 : ck_N := (10079, (6, [(0, [(0, 1)]), (5, [(0, (-1))]), (0, [(2, 1)]), (5390, [(2, (-1))]), (0, [(3, 1)]), (9999, [(3, (-1))]), (0, [(0, (-1)), (2, (-6)), (4, 1)]), (0, [(0, 1), (2, 6), (4, (-1))]), ((-1), [(5, 1)])], [.inl (.inl (0, [(4, 1)])), .inl (.inl (0, [(1, 1)]))], [(105, (1400000000, [(0, 200000000), (2, 1400020000), (3, 1)]), (0, [(5, 1)]))], []), [(6, [], none, [(105, (1600000000, [(0, 200000000), (2, 1400020000), (3, 1)]), (1, []))], [])], [], 0, 0)
def ceQ2a : ck_N := (10079, (10, [(0, [(0, 1)]), ((-1), [(0, (-1)), (3, 1)]), (0, [(1, 1)]), (5, [(1, (-1))]), (0, [(3, 1)]), (5390, [(3, (-1))]), (0, [(4, 1)]), (9999, [(4, (-1))]), (0, [(0, (-6)), (1, (-1)), (5, 1)]), (0, [(0, 6), (1, 1), (5, (-1))]), ((-1), [(6, 1)]), ((-1), [(7, 1)]), (0, [(9, (-1))]), (0, [(2, 1), (8, (-1))]), (0, [(2, (-1)), (8, 1)])], [.inl (.inl (0, [(5, 1)])), .inl (.inl (0, [(2, 1)]))], [(65, (0, []), (0, [(6, 1)])), (105, (1400000000, [(0, 1400000000), (1, 200000000), (3, 20000), (4, 1)]), (0, [(7, 1)])), (79, (6, [(0, 6), (1, 1)]), (0, [(8, 1)])), (84, (100000, [(0, 1), (1, 1000000), (4, 1)]), (0, [(9, 1)]))], [0]), [(10, [], none, [(105, (1600000000, [(0, 1400000000), (1, 200000000), (3, 20000), (4, 1)]), (1, []))], [])], [], 0, 0)
def ceQ2d : ck_N := (10079, (10, [(0, [(0, 1)]), ((-1), [(0, (-1)), (3, 1)]), (0, [(1, 1)]), (5, [(1, (-1))]), (0, [(3, 1)]), (5390, [(3, (-1))]), (0, [(4, 1)]), (9999, [(4, (-1))]), (0, [(0, (-6)), (1, (-1)), (5, 1)]), (0, [(0, 6), (1, 1), (5, (-1))]), ((-1), [(6, 1)]), ((-1), [(7, 1)]), ((-1), [(0, 1), (3, (-1)), (9, 1)]), (0, [(2, 1), (8, (-1))]), (0, [(2, (-1)), (8, 1)])], [.inl (.inl (0, [(5, 1)])), .inl (.inl (0, [(2, 1)]))], [(65, (0, []), (0, [(6, 1)])), (105, (1400000000, [(0, 1400000000), (1, 200000000), (3, 20000), (4, 1)]), (0, [(7, 1)])), (79, (6, [(0, 6), (1, 1)]), (0, [(8, 1)])), (84, (100000, [(0, 1), (1, 1000000), (4, 1)]), (0, [(9, 1)]))], [0]), [(10, [], none, [(105, (1600000000, [(0, 1400000000), (1, 200000000), (3, 20000), (4, 1)]), (1, []))], [])], [], 0, 0)
def ceQ2b : ck_N := (10079, (12, [(0, [(0, 1)]), ((-1), [(0, (-1)), (3, 1)]), (0, [(1, 1)]), (5, [(1, (-1))]), (0, [(3, 1)]), (5390, [(3, (-1))]), (0, [(4, 1)]), (9999, [(4, (-1))]), (0, [(0, (-6)), (1, (-1)), (5, 1)]), (0, [(0, 6), (1, 1), (5, (-1))]), ((-1), [(6, 1)]), ((-1), [(7, 1)]), ((-1), [(9, 1)]), (0, [(0, (-1)), (3, 1), (9, (-1))]), (0, [(2, 1), (8, (-1))]), (0, [(2, (-1)), (8, 1)]), (1, [(8, (-1)), (11, 1)])], [.inl (.inl (0, [(5, 1)])), .inl (.inl (0, [(2, 1)]))], [(65, (0, []), (0, [(6, 1)])), (105, (1400000000, [(0, 1400000000), (1, 200000000), (3, 20000), (4, 1)]), (0, [(7, 1)])), (79, (6, [(0, 6), (1, 1)]), (0, [(8, 1)])), (84, (100000, [(0, 1), (1, 1000000), (4, 1)]), (0, [(9, 1)])), (85, (100000, [(0, 1), (1, 1000000), (4, 1)]), (0, [(10, 1)])), (79, (0, [(0, 6), (9, 6), (10, 1)]), (0, [(11, 1)]))], [0]), [(12, [], none, [(105, (1600000000, [(0, 1400000000), (1, 200000000), (3, 20000), (4, 1)]), (1, []))], [])], [], 0, 0)
def ceQ2c : ck_N := (10079, (12, [(0, [(0, 1)]), ((-1), [(0, (-1)), (3, 1)]), (0, [(1, 1)]), (5, [(1, (-1))]), (0, [(3, 1)]), (5390, [(3, (-1))]), (0, [(4, 1)]), (9999, [(4, (-1))]), (0, [(0, (-6)), (1, (-1)), (5, 1)]), (0, [(0, 6), (1, 1), (5, (-1))]), ((-1), [(6, 1)]), ((-1), [(7, 1)]), ((-1), [(9, 1)]), (0, [(0, (-1)), (3, 1), (9, (-1))]), ((-1), [(2, 1), (11, (-1))]), (1, [(2, (-1)), (11, 1)]), ((-1), [(8, 1), (11, (-1))])], [.inl (.inl (0, [(5, 1)])), .inl (.inl (0, [(2, 1)]))], [(65, (0, []), (0, [(6, 1)])), (105, (1400000000, [(0, 1400000000), (1, 200000000), (3, 20000), (4, 1)]), (0, [(7, 1)])), (79, (6, [(0, 6), (1, 1)]), (0, [(8, 1)])), (84, (100000, [(0, 1), (1, 1000000), (4, 1)]), (0, [(9, 1)])), (85, (100000, [(0, 1), (1, 1000000), (4, 1)]), (0, [(10, 1)])), (79, (0, [(0, 6), (9, 6), (10, 1)]), (0, [(11, 1)]))], [0]), [(12, [], none, [(105, (1600000000, [(0, 1400000000), (1, 200000000), (3, 20000), (4, 1)]), (1, []))], [])], [], 0, 0)
def ceQ3 : ck_N := (9999, (5, [(0, [(0, 1)]), (5390, [(0, (-1))]), (0, [(1, 1)]), (5390, [(1, (-1))]), (0, [(2, 1)]), (9999, [(2, (-1))]), (0, [(3, 1)]), (6, [(3, (-1))]), ((-1), [(4, 1)])], [], [(65, (0, []), (0, [(3, 1)])), (105, (1400000000, [(0, 1400000000), (1, 20000), (2, 1), (3, 200000000)]), (0, [(4, 1)]))], []), [(5, [], none, [(105, (0, [(0, 1400000000), (1, 20000), (2, 1)]), (1, []))], [])], [], 0, 0)
def ceN0 : ck_N := (9999, (3, [(0, [(0, 1)]), (0, [(1, 1)]), ((-1), [(1, (-1)), (2, 1)])], [], [(65, (0, []), (0, [(2, 1)]))], []), [(4, [(0, [(3, 1)]), ((-1), [(2, 1), (3, (-1))])], none, [(104, (0, [(0, 6), (1, 1)]), (0, [(3, 1)]))], [])], [], 0, 0)
def ceN1a : ck_N := (9999, (8, [(0, [(0, 1)]), ((-1), [(0, (-1)), (2, 1)]), (0, [(1, 1)]), ((-1), [(1, (-1)), (4, 1)]), (0, [(2, 1)]), (5390, [(2, (-1))]), (0, [(3, 1)]), (9999, [(3, (-1))]), ((-1), [(5, 1)]), (0, [(7, (-1))])], [], [(65, (0, []), (0, [(4, 1)])), (105, (0, [(2, 20000), (3, 1)]), (0, [(5, 1)])), (104, (0, [(0, 6), (1, 1)]), (0, [(6, 1)])), (84, (100000, [(0, 1), (1, 1000000), (3, 1)]), (0, [(7, 1)]))], []), [(9, [(0, [(8, 1)]), (0, [(6, 1), (8, (-1))])], none, [(104, (6, [(0, 6), (1, 1)]), (0, [(8, 1)]))], [])], [], 0, 0)
def ceN1b : ck_N := (9999, (8, [(0, [(0, 1)]), ((-1), [(0, (-1)), (2, 1)]), (0, [(1, 1)]), ((-1), [(1, (-1)), (4, 1)]), (0, [(2, 1)]), (5390, [(2, (-1))]), (0, [(3, 1)]), (9999, [(3, (-1))]), ((-1), [(5, 1)]), ((-1), [(0, 1), (2, (-1)), (7, 1)])], [], [(65, (0, []), (0, [(4, 1)])), (105, (0, [(2, 20000), (3, 1)]), (0, [(5, 1)])), (104, (0, [(0, 6), (1, 1)]), (0, [(6, 1)])), (84, (100000, [(0, 1), (1, 1000000), (3, 1)]), (0, [(7, 1)]))], []), [(9, [(0, [(8, 1)]), (0, [(6, 1), (8, (-1))])], none, [(104, (6, [(0, 6), (1, 1)]), (0, [(8, 1)]))], [])], [], 0, 0)
def ceN1c : ck_N := (9999, (11, [(0, [(0, 1)]), ((-1), [(0, (-1)), (2, 1)]), (0, [(1, 1)]), ((-1), [(1, (-1)), (4, 1)]), (0, [(2, 1)]), (5390, [(2, (-1))]), (0, [(3, 1)]), (9999, [(3, (-1))]), ((-1), [(5, 1)]), ((-1), [(7, 1)]), (0, [(0, (-1)), (2, 1), (7, (-1))]), (0, [(9, 1), (10, (-1))])], [], [(65, (0, []), (0, [(4, 1)])), (105, (0, [(2, 20000), (3, 1)]), (0, [(5, 1)])), (104, (0, [(0, 6), (1, 1)]), (0, [(6, 1)])), (84, (100000, [(0, 1), (1, 1000000), (3, 1)]), (0, [(7, 1)])), (85, (100000, [(0, 1), (1, 1000000), (3, 1)]), (0, [(8, 1)])), (79, (0, [(0, 6), (7, 6), (8, 1)]), (0, [(9, 1)])), (79, (0, [(0, 6), (1, 1)]), (0, [(10, 1)]))], []), [(12, [(0, [(11, 1)]), (0, [(6, 1), (11, (-1))])], none, [(104, (6, [(0, 6), (1, 1)]), (0, [(11, 1)]))], [])], [], 0, 0)
def ceN1d : ck_N := (9999, (11, [(0, [(0, 1)]), ((-1), [(0, (-1)), (2, 1)]), (0, [(1, 1)]), ((-1), [(1, (-1)), (4, 1)]), (0, [(2, 1)]), (5390, [(2, (-1))]), (0, [(3, 1)]), (9999, [(3, (-1))]), ((-1), [(5, 1)]), ((-1), [(7, 1)]), (0, [(0, (-1)), (2, 1), (7, (-1))]), ((-2), [(9, (-1)), (10, 1)])], [], [(65, (0, []), (0, [(4, 1)])), (105, (0, [(2, 20000), (3, 1)]), (0, [(5, 1)])), (104, (0, [(0, 6), (1, 1)]), (0, [(6, 1)])), (84, (100000, [(0, 1), (1, 1000000), (3, 1)]), (0, [(7, 1)])), (85, (100000, [(0, 1), (1, 1000000), (3, 1)]), (0, [(8, 1)])), (79, (0, [(0, 6), (7, 6), (8, 1)]), (0, [(9, 1)])), (79, (0, [(0, 6), (1, 1)]), (0, [(10, 1)]))], []), [(12, [(0, [(11, 1)]), (0, [(6, 1), (11, (-1))])], none, [(104, (6, [(0, 6), (1, 1)]), (0, [(11, 1)]))], [])], [], 0, 0)
def ceN2 : ck_N := (9999, (11, [(0, [(0, 1)]), ((-1), [(0, (-1)), (2, 1)]), (0, [(1, 1)]), ((-1), [(1, (-1)), (4, 1)]), (0, [(2, 1)]), (5390, [(2, (-1))]), (0, [(3, 1)]), (9999, [(3, (-1))]), ((-1), [(5, 1)]), ((-1), [(7, 1)]), (0, [(0, (-1)), (2, 1), (7, (-1))]), ((-1), [(9, (-1)), (10, 1)]), (1, [(9, 1), (10, (-1))]), (0, [(8, 1)]), ((-1), [(4, 1), (8, (-1))])], [], [(65, (0, []), (0, [(4, 1)])), (105, (0, [(2, 20000), (3, 1)]), (0, [(5, 1)])), (104, (0, [(0, 6), (1, 1)]), (0, [(6, 1)])), (84, (100000, [(0, 1), (1, 1000000), (3, 1)]), (0, [(7, 1)])), (85, (100000, [(0, 1), (1, 1000000), (3, 1)]), (0, [(8, 1)])), (79, (0, [(0, 6), (7, 6), (8, 1)]), (0, [(9, 1)])), (79, (0, [(0, 6), (1, 1)]), (0, [(10, 1)]))], []), [(12, [(0, [(11, 1)]), ((-1), [(6, 1), (11, (-1))])], none, [(104, (0, [(0, 6), (7, 6), (8, 1)]), (0, [(11, 1)]))], [])], [], 0, 0)
def ceWRv : ck_N := (9999, (5, [((-1), [(2, 1)]), (0, [(0, 1)]), ((-1), [(0, (-1)), (3, 1)]), (1000, [(1, 1)]), (800000, [(1, (-1))])], [], [(108, (0, []), (0, [(2, 1)])), (65, (0, []), (0, [(3, 1)])), (85, (100000, [(0, 1000000), (1, 1)]), (0, [(4, 1)]))], [0]), [(5, [(0, [(4, 1)]), ((-1), [(3, 1), (4, (-1))])], none, [], [])], [], 0, 0)
theorem rpQ0 : ck_gcon ceQ0 := by
  intro σ E hgi hF hP hΦ
  have f0 : (0 : Int) ≤ 0 + (1 * σ 0 + 0) := hF _ (List.mem_of_getElem? (i := 0) rfl)
  have f1 : (0 : Int) ≤ 5390 + ((-1) * σ 0 + 0) := hF _ (List.mem_of_getElem? (i := 1) rfl)
  have f2 : (0 : Int) ≤ 0 + (1 * σ 1 + 0) := hF _ (List.mem_of_getElem? (i := 2) rfl)
  have f3 : (0 : Int) ≤ 9999 + ((-1) * σ 1 + 0) := hF _ (List.mem_of_getElem? (i := 3) rfl)
  have key : (((0 : Int) ≤ 1400000000 + (1400020000 * σ 0 + (1 * σ 1 + 0)) ∧ ck_lk E 105 (1400000000 + (1400020000 * σ 0 + (1 * σ 1 + 0))) = 1 + 0) ∧ True) := by
    refine ⟨⟨by omega, ?_⟩, trivial⟩
    rw [k105 (i := σ 0) (r := 0) (sb := σ 0) (t := σ 1) (by omega) (by omega) (by omega) (by omega) (by omega) (by omega) (by omega)]
    refine (cb_t ?_).trans rfl
    intro i r r0 r1 i0 i1 hc
    omega
  obtain ⟨k0, -⟩ := key
  exact ⟨_, (List.mem_of_getElem? (i := 0) rfl), σ, ck_ag_rf, (fun _ h => absurd h List.not_mem_nil), (fun _ h => absurd h List.not_mem_nil), trivial, (List.forall_mem_cons.mpr ⟨⟨⟨ck_wb_ok rfl, ck_wb_ok rfl⟩, k0⟩, (fun _ h => absurd h List.not_mem_nil)⟩), (fun _ h => absurd h List.not_mem_nil)⟩
theorem ccQ0 {l : Launch} {D : va_G} {kp : Nat → ClassId} : ck_con l D kp ck_NN ceQ0 := ck_con_g rfl rpQ0
theorem rpQ1 : ck_scon ceQ1 79 := by
  intro σ E e' idx v hargs hgi hF hP hΦ hgi2 h0 l1 l2
  cases hargs
  have h0 : (0 : Int) ≤ 0 + (1 * σ 4 + 0) := h0
  have l1 : ck_loc e' (0 + (1 * σ 4 + 0)) = 0 + (1 * σ 1 + 0) := l1
  have l2 : ∀ j, 0 ≤ j → ¬ j = 0 + (1 * σ 4 + 0) → ck_loc e' j = ck_loc (E 79) j := l2
  have f0 : (0 : Int) ≤ 0 + (1 * σ 0 + 0) := hF _ (List.mem_of_getElem? (i := 0) rfl)
  have f1 : (0 : Int) ≤ 5 + ((-1) * σ 0 + 0) := hF _ (List.mem_of_getElem? (i := 1) rfl)
  have f2 : (0 : Int) ≤ 0 + (1 * σ 2 + 0) := hF _ (List.mem_of_getElem? (i := 2) rfl)
  have f3 : (0 : Int) ≤ 5390 + ((-1) * σ 2 + 0) := hF _ (List.mem_of_getElem? (i := 3) rfl)
  have f4 : (0 : Int) ≤ 0 + (1 * σ 3 + 0) := hF _ (List.mem_of_getElem? (i := 4) rfl)
  have f5 : (0 : Int) ≤ 9999 + ((-1) * σ 3 + 0) := hF _ (List.mem_of_getElem? (i := 5) rfl)
  have f6 : (0 : Int) ≤ 0 + ((-1) * σ 0 + ((-6) * σ 2 + (1 * σ 4 + 0))) := hF _ (List.mem_of_getElem? (i := 6) rfl)
  have f7 : (0 : Int) ≤ 0 + (1 * σ 0 + (6 * σ 2 + ((-1) * σ 4 + 0))) := hF _ (List.mem_of_getElem? (i := 7) rfl)
  have f8 : (0 : Int) ≤ (-1) + (1 * σ 5 + 0) := hF _ (List.mem_of_getElem? (i := 8) rfl)
  have p0 : ck_lk E 105 (1400000000 + (200000000 * σ 0 + (1400020000 * σ 2 + (1 * σ 3 + 0)))) = 0 + (1 * σ 5 + 0) := (hP _ (List.mem_of_getElem? (i := 0) rfl)).2.2
  have q0 : (0 : Int) ≤ 1400000000 + (200000000 * σ 0 + (1400020000 * σ 2 + (1 * σ 3 + 0))) := (hP _ (List.mem_of_getElem? (i := 0) rfl)).2.1
  have key : (((0 : Int) ≤ 1600000000 + (200000000 * σ 0 + (1400020000 * σ 2 + (1 * σ 3 + 0))) ∧ ck_lk (va_up E 79 e') 105 (1600000000 + (200000000 * σ 0 + (1400020000 * σ 2 + (1 * σ 3 + 0)))) = 1 + 0) ∧ True) := by
    refine ⟨⟨by omega, ?_⟩, trivial⟩
    rw [k105 (i := σ 2) (r := σ 0 + 1) (sb := σ 2) (t := σ 3) (by omega) (by omega) (by omega) (by omega) (by omega) (by omega) (by omega)]
    refine (cb_t ?_).trans rfl
    intro i r r0 r1 i0 i1 hc
    omega
  obtain ⟨k0, -⟩ := key
  exact ⟨_, (List.mem_of_getElem? (i := 0) rfl), σ, ck_ag_rf, (fun _ h => absurd h List.not_mem_nil), (fun _ h => absurd h List.not_mem_nil), trivial, (List.forall_mem_cons.mpr ⟨⟨⟨ck_wb_ok rfl, ck_wb_ok rfl⟩, k0⟩, (fun _ h => absurd h List.not_mem_nil)⟩), (fun _ h => absurd h List.not_mem_nil)⟩
theorem ccQ1 {l : Launch} {D : va_G} {kp : Nat → ClassId} : ck_con l D kp ck_NN ceQ1 := ck_con_s (k := 79) rfl rpQ1
theorem rpQ2a : ck_scon ceQ2a 79 := by
  intro σ E e' idx v hargs hgi hF hP hΦ hgi2 h0 l1 l2
  cases hargs
  have h0 : (0 : Int) ≤ 0 + (1 * σ 5 + 0) := h0
  have l1 : ck_loc e' (0 + (1 * σ 5 + 0)) = 0 + (1 * σ 2 + 0) := l1
  have l2 : ∀ j, 0 ≤ j → ¬ j = 0 + (1 * σ 5 + 0) → ck_loc e' j = ck_loc (E 79) j := l2
  have f0 : (0 : Int) ≤ 0 + (1 * σ 0 + 0) := hF _ (List.mem_of_getElem? (i := 0) rfl)
  have f1 : (0 : Int) ≤ (-1) + ((-1) * σ 0 + (1 * σ 3 + 0)) := hF _ (List.mem_of_getElem? (i := 1) rfl)
  have f2 : (0 : Int) ≤ 0 + (1 * σ 1 + 0) := hF _ (List.mem_of_getElem? (i := 2) rfl)
  have f3 : (0 : Int) ≤ 5 + ((-1) * σ 1 + 0) := hF _ (List.mem_of_getElem? (i := 3) rfl)
  have f4 : (0 : Int) ≤ 0 + (1 * σ 3 + 0) := hF _ (List.mem_of_getElem? (i := 4) rfl)
  have f5 : (0 : Int) ≤ 5390 + ((-1) * σ 3 + 0) := hF _ (List.mem_of_getElem? (i := 5) rfl)
  have f6 : (0 : Int) ≤ 0 + (1 * σ 4 + 0) := hF _ (List.mem_of_getElem? (i := 6) rfl)
  have f7 : (0 : Int) ≤ 9999 + ((-1) * σ 4 + 0) := hF _ (List.mem_of_getElem? (i := 7) rfl)
  have f8 : (0 : Int) ≤ 0 + ((-6) * σ 0 + ((-1) * σ 1 + (1 * σ 5 + 0))) := hF _ (List.mem_of_getElem? (i := 8) rfl)
  have f9 : (0 : Int) ≤ 0 + (6 * σ 0 + (1 * σ 1 + ((-1) * σ 5 + 0))) := hF _ (List.mem_of_getElem? (i := 9) rfl)
  have f10 : (0 : Int) ≤ (-1) + (1 * σ 6 + 0) := hF _ (List.mem_of_getElem? (i := 10) rfl)
  have f11 : (0 : Int) ≤ (-1) + (1 * σ 7 + 0) := hF _ (List.mem_of_getElem? (i := 11) rfl)
  have f12 : (0 : Int) ≤ 0 + ((-1) * σ 9 + 0) := hF _ (List.mem_of_getElem? (i := 12) rfl)
  have f13 : (0 : Int) ≤ 0 + (1 * σ 2 + ((-1) * σ 8 + 0)) := hF _ (List.mem_of_getElem? (i := 13) rfl)
  have f14 : (0 : Int) ≤ 0 + ((-1) * σ 2 + (1 * σ 8 + 0)) := hF _ (List.mem_of_getElem? (i := 14) rfl)
  have p0 : ck_lk E 65 (0 + 0) = 0 + (1 * σ 6 + 0) := (hP _ (List.mem_of_getElem? (i := 0) rfl)).2.2
  have q0 : (0 : Int) ≤ 0 + 0 := (hP _ (List.mem_of_getElem? (i := 0) rfl)).2.1
  have p1 : ck_lk E 105 (1400000000 + (1400000000 * σ 0 + (200000000 * σ 1 + (20000 * σ 3 + (1 * σ 4 + 0))))) = 0 + (1 * σ 7 + 0) := (hP _ (List.mem_of_getElem? (i := 1) rfl)).2.2
  have q1 : (0 : Int) ≤ 1400000000 + (1400000000 * σ 0 + (200000000 * σ 1 + (20000 * σ 3 + (1 * σ 4 + 0)))) := (hP _ (List.mem_of_getElem? (i := 1) rfl)).2.1
  have p2 : ck_lk E 79 (6 + (6 * σ 0 + (1 * σ 1 + 0))) = 0 + (1 * σ 8 + 0) := (hP _ (List.mem_of_getElem? (i := 2) rfl)).2.2
  have q2 : (0 : Int) ≤ 6 + (6 * σ 0 + (1 * σ 1 + 0)) := (hP _ (List.mem_of_getElem? (i := 2) rfl)).2.1
  have p3 : ck_lk E 84 (100000 + (1 * σ 0 + (1000000 * σ 1 + (1 * σ 4 + 0)))) = 0 + (1 * σ 9 + 0) := (hP _ (List.mem_of_getElem? (i := 3) rfl)).2.2
  have q3 : (0 : Int) ≤ 100000 + (1 * σ 0 + (1000000 * σ 1 + (1 * σ 4 + 0))) := (hP _ (List.mem_of_getElem? (i := 3) rfl)).2.1
  have g0 : ck_FL 0 E := hΦ _ (List.mem_of_getElem? (i := 0) rfl)
  have key : (((0 : Int) ≤ 1600000000 + (1400000000 * σ 0 + (200000000 * σ 1 + (20000 * σ 3 + (1 * σ 4 + 0)))) ∧ ck_lk (va_up E 79 e') 105 (1600000000 + (1400000000 * σ 0 + (200000000 * σ 1 + (20000 * σ 3 + (1 * σ 4 + 0))))) = 1 + 0) ∧ True) := by
    rw [kc (i := 0) (by decide) (by decide)] at p0
    rw [k105 (i := σ 0) (r := σ 1) (sb := σ 3) (t := σ 4) (by omega) (by omega) (by omega) (by omega) (by omega) (by omega) (by omega)] at p1
    have hG := cb_ge p1 (by omega)
    rw [kc (i := 6 * (σ 0 + 1) + σ 1) (by decide) (by omega)] at p2
    rw [k84 (r := σ 1) (t := σ 4 + σ 0) (by omega) (by omega) (by omega)] at p3
    have hper := vf_per1 g0 (by omega)
    have z : 0 + (1 * σ 5 + 0) = 6 * σ 0 + σ 1 := by omega
    rw [z] at h0 l1 l2
    refine ⟨⟨by omega, ?_⟩, trivial⟩
    rw [k105 (i := σ 0) (r := σ 1 + 1) (sb := σ 3) (t := σ 4) (by omega) (by omega) (by omega) (by omega) (by omega) (by omega) (by omega)]
    refine (cb_t (vf_G_st hgi hper (by omega) (by omega) (by omega) l2 hG ?_)).trans rfl
    have e1 : vf_few (va_up E 79 e') (σ 0) (σ 1) = 0 + (1 * σ 2 + 0) := by unfold vf_few; rw [va_up_self]; exact l1
    have e2 : vf_few (va_up E 79 e') (σ 0 + 1) (σ 1) = vf_few E (σ 0 + 1) (σ 1) := by unfold vf_few; rw [va_up_self]; exact l2 _ (by omega) (by omega)
    have e2' : vf_few E (σ 0 + 1) (σ 1) = 0 + (1 * σ 8 + 0) := p2
    have eh : vf_h (va_up E 79 e') = vf_h E := vf_h_eq (un (by decide)) (un (by decide))
    have eg : vf_g (va_up E 79 e') = vf_g E := vf_g_eq (un (by decide)) (un (by decide))
    unfold vf_fe
    rw [eh, eg, e1, e2, e2', p3]
    exact Or.inl ⟨by omega, fun h1 => by omega⟩
  obtain ⟨k0, -⟩ := key
  exact ⟨_, (List.mem_of_getElem? (i := 0) rfl), σ, ck_ag_rf, (fun _ h => absurd h List.not_mem_nil), (fun _ h => absurd h List.not_mem_nil), trivial, (List.forall_mem_cons.mpr ⟨⟨⟨ck_wb_ok rfl, ck_wb_ok rfl⟩, k0⟩, (fun _ h => absurd h List.not_mem_nil)⟩), (fun _ h => absurd h List.not_mem_nil)⟩
theorem ccQ2a {l : Launch} {D : va_G} {kp : Nat → ClassId} : ck_con l D kp ck_NN ceQ2a := ck_con_s (k := 79) rfl rpQ2a
theorem rpQ2d : ck_scon ceQ2d 79 := by
  intro σ E e' idx v hargs hgi hF hP hΦ hgi2 h0 l1 l2
  cases hargs
  have h0 : (0 : Int) ≤ 0 + (1 * σ 5 + 0) := h0
  have l1 : ck_loc e' (0 + (1 * σ 5 + 0)) = 0 + (1 * σ 2 + 0) := l1
  have l2 : ∀ j, 0 ≤ j → ¬ j = 0 + (1 * σ 5 + 0) → ck_loc e' j = ck_loc (E 79) j := l2
  have f0 : (0 : Int) ≤ 0 + (1 * σ 0 + 0) := hF _ (List.mem_of_getElem? (i := 0) rfl)
  have f1 : (0 : Int) ≤ (-1) + ((-1) * σ 0 + (1 * σ 3 + 0)) := hF _ (List.mem_of_getElem? (i := 1) rfl)
  have f2 : (0 : Int) ≤ 0 + (1 * σ 1 + 0) := hF _ (List.mem_of_getElem? (i := 2) rfl)
  have f3 : (0 : Int) ≤ 5 + ((-1) * σ 1 + 0) := hF _ (List.mem_of_getElem? (i := 3) rfl)
  have f4 : (0 : Int) ≤ 0 + (1 * σ 3 + 0) := hF _ (List.mem_of_getElem? (i := 4) rfl)
  have f5 : (0 : Int) ≤ 5390 + ((-1) * σ 3 + 0) := hF _ (List.mem_of_getElem? (i := 5) rfl)
  have f6 : (0 : Int) ≤ 0 + (1 * σ 4 + 0) := hF _ (List.mem_of_getElem? (i := 6) rfl)
  have f7 : (0 : Int) ≤ 9999 + ((-1) * σ 4 + 0) := hF _ (List.mem_of_getElem? (i := 7) rfl)
  have f8 : (0 : Int) ≤ 0 + ((-6) * σ 0 + ((-1) * σ 1 + (1 * σ 5 + 0))) := hF _ (List.mem_of_getElem? (i := 8) rfl)
  have f9 : (0 : Int) ≤ 0 + (6 * σ 0 + (1 * σ 1 + ((-1) * σ 5 + 0))) := hF _ (List.mem_of_getElem? (i := 9) rfl)
  have f10 : (0 : Int) ≤ (-1) + (1 * σ 6 + 0) := hF _ (List.mem_of_getElem? (i := 10) rfl)
  have f11 : (0 : Int) ≤ (-1) + (1 * σ 7 + 0) := hF _ (List.mem_of_getElem? (i := 11) rfl)
  have f12 : (0 : Int) ≤ (-1) + (1 * σ 0 + ((-1) * σ 3 + (1 * σ 9 + 0))) := hF _ (List.mem_of_getElem? (i := 12) rfl)
  have f13 : (0 : Int) ≤ 0 + (1 * σ 2 + ((-1) * σ 8 + 0)) := hF _ (List.mem_of_getElem? (i := 13) rfl)
  have f14 : (0 : Int) ≤ 0 + ((-1) * σ 2 + (1 * σ 8 + 0)) := hF _ (List.mem_of_getElem? (i := 14) rfl)
  have p0 : ck_lk E 65 (0 + 0) = 0 + (1 * σ 6 + 0) := (hP _ (List.mem_of_getElem? (i := 0) rfl)).2.2
  have q0 : (0 : Int) ≤ 0 + 0 := (hP _ (List.mem_of_getElem? (i := 0) rfl)).2.1
  have p1 : ck_lk E 105 (1400000000 + (1400000000 * σ 0 + (200000000 * σ 1 + (20000 * σ 3 + (1 * σ 4 + 0))))) = 0 + (1 * σ 7 + 0) := (hP _ (List.mem_of_getElem? (i := 1) rfl)).2.2
  have q1 : (0 : Int) ≤ 1400000000 + (1400000000 * σ 0 + (200000000 * σ 1 + (20000 * σ 3 + (1 * σ 4 + 0)))) := (hP _ (List.mem_of_getElem? (i := 1) rfl)).2.1
  have p2 : ck_lk E 79 (6 + (6 * σ 0 + (1 * σ 1 + 0))) = 0 + (1 * σ 8 + 0) := (hP _ (List.mem_of_getElem? (i := 2) rfl)).2.2
  have q2 : (0 : Int) ≤ 6 + (6 * σ 0 + (1 * σ 1 + 0)) := (hP _ (List.mem_of_getElem? (i := 2) rfl)).2.1
  have p3 : ck_lk E 84 (100000 + (1 * σ 0 + (1000000 * σ 1 + (1 * σ 4 + 0)))) = 0 + (1 * σ 9 + 0) := (hP _ (List.mem_of_getElem? (i := 3) rfl)).2.2
  have q3 : (0 : Int) ≤ 100000 + (1 * σ 0 + (1000000 * σ 1 + (1 * σ 4 + 0))) := (hP _ (List.mem_of_getElem? (i := 3) rfl)).2.1
  have g0 : ck_FL 0 E := hΦ _ (List.mem_of_getElem? (i := 0) rfl)
  have key : (((0 : Int) ≤ 1600000000 + (1400000000 * σ 0 + (200000000 * σ 1 + (20000 * σ 3 + (1 * σ 4 + 0)))) ∧ ck_lk (va_up E 79 e') 105 (1600000000 + (1400000000 * σ 0 + (200000000 * σ 1 + (20000 * σ 3 + (1 * σ 4 + 0))))) = 1 + 0) ∧ True) := by
    rw [kc (i := 0) (by decide) (by decide)] at p0
    rw [k105 (i := σ 0) (r := σ 1) (sb := σ 3) (t := σ 4) (by omega) (by omega) (by omega) (by omega) (by omega) (by omega) (by omega)] at p1
    have hG := cb_ge p1 (by omega)
    rw [kc (i := 6 * (σ 0 + 1) + σ 1) (by decide) (by omega)] at p2
    rw [k84 (r := σ 1) (t := σ 4 + σ 0) (by omega) (by omega) (by omega)] at p3
    have hper := vf_per1 g0 (by omega)
    have z : 0 + (1 * σ 5 + 0) = 6 * σ 0 + σ 1 := by omega
    rw [z] at h0 l1 l2
    refine ⟨⟨by omega, ?_⟩, trivial⟩
    rw [k105 (i := σ 0) (r := σ 1 + 1) (sb := σ 3) (t := σ 4) (by omega) (by omega) (by omega) (by omega) (by omega) (by omega) (by omega)]
    refine (cb_t (vf_G_st hgi hper (by omega) (by omega) (by omega) l2 hG ?_)).trans rfl
    have e1 : vf_few (va_up E 79 e') (σ 0) (σ 1) = 0 + (1 * σ 2 + 0) := by unfold vf_few; rw [va_up_self]; exact l1
    have e2 : vf_few (va_up E 79 e') (σ 0 + 1) (σ 1) = vf_few E (σ 0 + 1) (σ 1) := by unfold vf_few; rw [va_up_self]; exact l2 _ (by omega) (by omega)
    have e2' : vf_few E (σ 0 + 1) (σ 1) = 0 + (1 * σ 8 + 0) := p2
    have eh : vf_h (va_up E 79 e') = vf_h E := vf_h_eq (un (by decide)) (un (by decide))
    have eg : vf_g (va_up E 79 e') = vf_g E := vf_g_eq (un (by decide)) (un (by decide))
    unfold vf_fe
    rw [eh, eg, e1, e2, e2', p3]
    exact Or.inl ⟨by omega, fun h1 h2 => by omega⟩
  obtain ⟨k0, -⟩ := key
  exact ⟨_, (List.mem_of_getElem? (i := 0) rfl), σ, ck_ag_rf, (fun _ h => absurd h List.not_mem_nil), (fun _ h => absurd h List.not_mem_nil), trivial, (List.forall_mem_cons.mpr ⟨⟨⟨ck_wb_ok rfl, ck_wb_ok rfl⟩, k0⟩, (fun _ h => absurd h List.not_mem_nil)⟩), (fun _ h => absurd h List.not_mem_nil)⟩
theorem ccQ2d {l : Launch} {D : va_G} {kp : Nat → ClassId} : ck_con l D kp ck_NN ceQ2d := ck_con_s (k := 79) rfl rpQ2d
theorem rpQ2b : ck_scon ceQ2b 79 := by
  intro σ E e' idx v hargs hgi hF hP hΦ hgi2 h0 l1 l2
  cases hargs
  have h0 : (0 : Int) ≤ 0 + (1 * σ 5 + 0) := h0
  have l1 : ck_loc e' (0 + (1 * σ 5 + 0)) = 0 + (1 * σ 2 + 0) := l1
  have l2 : ∀ j, 0 ≤ j → ¬ j = 0 + (1 * σ 5 + 0) → ck_loc e' j = ck_loc (E 79) j := l2
  have f0 : (0 : Int) ≤ 0 + (1 * σ 0 + 0) := hF _ (List.mem_of_getElem? (i := 0) rfl)
  have f1 : (0 : Int) ≤ (-1) + ((-1) * σ 0 + (1 * σ 3 + 0)) := hF _ (List.mem_of_getElem? (i := 1) rfl)
  have f2 : (0 : Int) ≤ 0 + (1 * σ 1 + 0) := hF _ (List.mem_of_getElem? (i := 2) rfl)
  have f3 : (0 : Int) ≤ 5 + ((-1) * σ 1 + 0) := hF _ (List.mem_of_getElem? (i := 3) rfl)
  have f4 : (0 : Int) ≤ 0 + (1 * σ 3 + 0) := hF _ (List.mem_of_getElem? (i := 4) rfl)
  have f5 : (0 : Int) ≤ 5390 + ((-1) * σ 3 + 0) := hF _ (List.mem_of_getElem? (i := 5) rfl)
  have f6 : (0 : Int) ≤ 0 + (1 * σ 4 + 0) := hF _ (List.mem_of_getElem? (i := 6) rfl)
  have f7 : (0 : Int) ≤ 9999 + ((-1) * σ 4 + 0) := hF _ (List.mem_of_getElem? (i := 7) rfl)
  have f8 : (0 : Int) ≤ 0 + ((-6) * σ 0 + ((-1) * σ 1 + (1 * σ 5 + 0))) := hF _ (List.mem_of_getElem? (i := 8) rfl)
  have f9 : (0 : Int) ≤ 0 + (6 * σ 0 + (1 * σ 1 + ((-1) * σ 5 + 0))) := hF _ (List.mem_of_getElem? (i := 9) rfl)
  have f10 : (0 : Int) ≤ (-1) + (1 * σ 6 + 0) := hF _ (List.mem_of_getElem? (i := 10) rfl)
  have f11 : (0 : Int) ≤ (-1) + (1 * σ 7 + 0) := hF _ (List.mem_of_getElem? (i := 11) rfl)
  have f12 : (0 : Int) ≤ (-1) + (1 * σ 9 + 0) := hF _ (List.mem_of_getElem? (i := 12) rfl)
  have f13 : (0 : Int) ≤ 0 + ((-1) * σ 0 + (1 * σ 3 + ((-1) * σ 9 + 0))) := hF _ (List.mem_of_getElem? (i := 13) rfl)
  have f14 : (0 : Int) ≤ 0 + (1 * σ 2 + ((-1) * σ 8 + 0)) := hF _ (List.mem_of_getElem? (i := 14) rfl)
  have f15 : (0 : Int) ≤ 0 + ((-1) * σ 2 + (1 * σ 8 + 0)) := hF _ (List.mem_of_getElem? (i := 15) rfl)
  have f16 : (0 : Int) ≤ 1 + ((-1) * σ 8 + (1 * σ 11 + 0)) := hF _ (List.mem_of_getElem? (i := 16) rfl)
  have p0 : ck_lk E 65 (0 + 0) = 0 + (1 * σ 6 + 0) := (hP _ (List.mem_of_getElem? (i := 0) rfl)).2.2
  have q0 : (0 : Int) ≤ 0 + 0 := (hP _ (List.mem_of_getElem? (i := 0) rfl)).2.1
  have p1 : ck_lk E 105 (1400000000 + (1400000000 * σ 0 + (200000000 * σ 1 + (20000 * σ 3 + (1 * σ 4 + 0))))) = 0 + (1 * σ 7 + 0) := (hP _ (List.mem_of_getElem? (i := 1) rfl)).2.2
  have q1 : (0 : Int) ≤ 1400000000 + (1400000000 * σ 0 + (200000000 * σ 1 + (20000 * σ 3 + (1 * σ 4 + 0)))) := (hP _ (List.mem_of_getElem? (i := 1) rfl)).2.1
  have p2 : ck_lk E 79 (6 + (6 * σ 0 + (1 * σ 1 + 0))) = 0 + (1 * σ 8 + 0) := (hP _ (List.mem_of_getElem? (i := 2) rfl)).2.2
  have q2 : (0 : Int) ≤ 6 + (6 * σ 0 + (1 * σ 1 + 0)) := (hP _ (List.mem_of_getElem? (i := 2) rfl)).2.1
  have p3 : ck_lk E 84 (100000 + (1 * σ 0 + (1000000 * σ 1 + (1 * σ 4 + 0)))) = 0 + (1 * σ 9 + 0) := (hP _ (List.mem_of_getElem? (i := 3) rfl)).2.2
  have q3 : (0 : Int) ≤ 100000 + (1 * σ 0 + (1000000 * σ 1 + (1 * σ 4 + 0))) := (hP _ (List.mem_of_getElem? (i := 3) rfl)).2.1
  have p4 : ck_lk E 85 (100000 + (1 * σ 0 + (1000000 * σ 1 + (1 * σ 4 + 0)))) = 0 + (1 * σ 10 + 0) := (hP _ (List.mem_of_getElem? (i := 4) rfl)).2.2
  have q4 : (0 : Int) ≤ 100000 + (1 * σ 0 + (1000000 * σ 1 + (1 * σ 4 + 0))) := (hP _ (List.mem_of_getElem? (i := 4) rfl)).2.1
  have p5 : ck_lk E 79 (0 + (6 * σ 0 + (6 * σ 9 + (1 * σ 10 + 0)))) = 0 + (1 * σ 11 + 0) := (hP _ (List.mem_of_getElem? (i := 5) rfl)).2.2
  have q5 : (0 : Int) ≤ 0 + (6 * σ 0 + (6 * σ 9 + (1 * σ 10 + 0))) := (hP _ (List.mem_of_getElem? (i := 5) rfl)).2.1
  have g0 : ck_FL 0 E := hΦ _ (List.mem_of_getElem? (i := 0) rfl)
  have key : (((0 : Int) ≤ 1600000000 + (1400000000 * σ 0 + (200000000 * σ 1 + (20000 * σ 3 + (1 * σ 4 + 0)))) ∧ ck_lk (va_up E 79 e') 105 (1600000000 + (1400000000 * σ 0 + (200000000 * σ 1 + (20000 * σ 3 + (1 * σ 4 + 0))))) = 1 + 0) ∧ True) := by
    rw [kc (i := 0) (by decide) (by decide)] at p0
    rw [k105 (i := σ 0) (r := σ 1) (sb := σ 3) (t := σ 4) (by omega) (by omega) (by omega) (by omega) (by omega) (by omega) (by omega)] at p1
    have hG := cb_ge p1 (by omega)
    rw [kc (i := 6 * (σ 0 + 1) + σ 1) (by decide) (by omega)] at p2
    rw [k84 (r := σ 1) (t := σ 4 + σ 0) (by omega) (by omega) (by omega)] at p3
    rw [k85 (r := σ 1) (t := σ 4 + σ 0) (by omega) (by omega) (by omega)] at p4
    have hper := vf_per1 g0 (by omega)
    have z : 0 + (1 * σ 5 + 0) = 6 * σ 0 + σ 1 := by omega
    rw [z] at h0 l1 l2
    refine ⟨⟨by omega, ?_⟩, trivial⟩
    rw [k105 (i := σ 0) (r := σ 1 + 1) (sb := σ 3) (t := σ 4) (by omega) (by omega) (by omega) (by omega) (by omega) (by omega) (by omega)]
    refine (cb_t (vf_G_st hgi hper (by omega) (by omega) (by omega) l2 hG ?_)).trans rfl
    have e1 : vf_few (va_up E 79 e') (σ 0) (σ 1) = 0 + (1 * σ 2 + 0) := by unfold vf_few; rw [va_up_self]; exact l1
    have e2 : vf_few (va_up E 79 e') (σ 0 + 1) (σ 1) = vf_few E (σ 0 + 1) (σ 1) := by unfold vf_few; rw [va_up_self]; exact l2 _ (by omega) (by omega)
    have e2' : vf_few E (σ 0 + 1) (σ 1) = 0 + (1 * σ 8 + 0) := p2
    have eh : vf_h (va_up E 79 e') = vf_h E := vf_h_eq (un (by decide)) (un (by decide))
    have eg : vf_g (va_up E 79 e') = vf_g E := vf_g_eq (un (by decide)) (un (by decide))
    have b4 := vf_gb hgi (r := σ 1) (t := σ 4 + σ 0) (by omega) (by omega) (hper _ (by omega) (by omega))
    have e3 : vf_few (va_up E 79 e') (σ 0 + σ 9) (σ 10) = 0 + (1 * σ 11 + 0) := by
      rw [kc (i := 6 * (σ 0 + σ 9) + σ 10) (by decide) (by omega)] at p5
      unfold vf_few
      rw [va_up_self, l2 _ (by omega) (by omega)]; exact p5
    unfold vf_fe
    rw [eh, eg, e1, e2, e2', p3, p4, show σ 0 + (0 + (1 * σ 9 + 0)) = σ 0 + σ 9 by omega, show 0 + (1 * σ 10 + 0) = σ 10 by omega, e3]
    exact Or.inl ⟨by omega, fun h1 h2 => by omega⟩
  obtain ⟨k0, -⟩ := key
  exact ⟨_, (List.mem_of_getElem? (i := 0) rfl), σ, ck_ag_rf, (fun _ h => absurd h List.not_mem_nil), (fun _ h => absurd h List.not_mem_nil), trivial, (List.forall_mem_cons.mpr ⟨⟨⟨ck_wb_ok rfl, ck_wb_ok rfl⟩, k0⟩, (fun _ h => absurd h List.not_mem_nil)⟩), (fun _ h => absurd h List.not_mem_nil)⟩
theorem ccQ2b {l : Launch} {D : va_G} {kp : Nat → ClassId} : ck_con l D kp ck_NN ceQ2b := ck_con_s (k := 79) rfl rpQ2b
theorem rpQ2c : ck_scon ceQ2c 79 := by
  intro σ E e' idx v hargs hgi hF hP hΦ hgi2 h0 l1 l2
  cases hargs
  have h0 : (0 : Int) ≤ 0 + (1 * σ 5 + 0) := h0
  have l1 : ck_loc e' (0 + (1 * σ 5 + 0)) = 0 + (1 * σ 2 + 0) := l1
  have l2 : ∀ j, 0 ≤ j → ¬ j = 0 + (1 * σ 5 + 0) → ck_loc e' j = ck_loc (E 79) j := l2
  have f0 : (0 : Int) ≤ 0 + (1 * σ 0 + 0) := hF _ (List.mem_of_getElem? (i := 0) rfl)
  have f1 : (0 : Int) ≤ (-1) + ((-1) * σ 0 + (1 * σ 3 + 0)) := hF _ (List.mem_of_getElem? (i := 1) rfl)
  have f2 : (0 : Int) ≤ 0 + (1 * σ 1 + 0) := hF _ (List.mem_of_getElem? (i := 2) rfl)
  have f3 : (0 : Int) ≤ 5 + ((-1) * σ 1 + 0) := hF _ (List.mem_of_getElem? (i := 3) rfl)
  have f4 : (0 : Int) ≤ 0 + (1 * σ 3 + 0) := hF _ (List.mem_of_getElem? (i := 4) rfl)
  have f5 : (0 : Int) ≤ 5390 + ((-1) * σ 3 + 0) := hF _ (List.mem_of_getElem? (i := 5) rfl)
  have f6 : (0 : Int) ≤ 0 + (1 * σ 4 + 0) := hF _ (List.mem_of_getElem? (i := 6) rfl)
  have f7 : (0 : Int) ≤ 9999 + ((-1) * σ 4 + 0) := hF _ (List.mem_of_getElem? (i := 7) rfl)
  have f8 : (0 : Int) ≤ 0 + ((-6) * σ 0 + ((-1) * σ 1 + (1 * σ 5 + 0))) := hF _ (List.mem_of_getElem? (i := 8) rfl)
  have f9 : (0 : Int) ≤ 0 + (6 * σ 0 + (1 * σ 1 + ((-1) * σ 5 + 0))) := hF _ (List.mem_of_getElem? (i := 9) rfl)
  have f10 : (0 : Int) ≤ (-1) + (1 * σ 6 + 0) := hF _ (List.mem_of_getElem? (i := 10) rfl)
  have f11 : (0 : Int) ≤ (-1) + (1 * σ 7 + 0) := hF _ (List.mem_of_getElem? (i := 11) rfl)
  have f12 : (0 : Int) ≤ (-1) + (1 * σ 9 + 0) := hF _ (List.mem_of_getElem? (i := 12) rfl)
  have f13 : (0 : Int) ≤ 0 + ((-1) * σ 0 + (1 * σ 3 + ((-1) * σ 9 + 0))) := hF _ (List.mem_of_getElem? (i := 13) rfl)
  have f14 : (0 : Int) ≤ (-1) + (1 * σ 2 + ((-1) * σ 11 + 0)) := hF _ (List.mem_of_getElem? (i := 14) rfl)
  have f15 : (0 : Int) ≤ 1 + ((-1) * σ 2 + (1 * σ 11 + 0)) := hF _ (List.mem_of_getElem? (i := 15) rfl)
  have f16 : (0 : Int) ≤ (-1) + (1 * σ 8 + ((-1) * σ 11 + 0)) := hF _ (List.mem_of_getElem? (i := 16) rfl)
  have p0 : ck_lk E 65 (0 + 0) = 0 + (1 * σ 6 + 0) := (hP _ (List.mem_of_getElem? (i := 0) rfl)).2.2
  have q0 : (0 : Int) ≤ 0 + 0 := (hP _ (List.mem_of_getElem? (i := 0) rfl)).2.1
  have p1 : ck_lk E 105 (1400000000 + (1400000000 * σ 0 + (200000000 * σ 1 + (20000 * σ 3 + (1 * σ 4 + 0))))) = 0 + (1 * σ 7 + 0) := (hP _ (List.mem_of_getElem? (i := 1) rfl)).2.2
  have q1 : (0 : Int) ≤ 1400000000 + (1400000000 * σ 0 + (200000000 * σ 1 + (20000 * σ 3 + (1 * σ 4 + 0)))) := (hP _ (List.mem_of_getElem? (i := 1) rfl)).2.1
  have p2 : ck_lk E 79 (6 + (6 * σ 0 + (1 * σ 1 + 0))) = 0 + (1 * σ 8 + 0) := (hP _ (List.mem_of_getElem? (i := 2) rfl)).2.2
  have q2 : (0 : Int) ≤ 6 + (6 * σ 0 + (1 * σ 1 + 0)) := (hP _ (List.mem_of_getElem? (i := 2) rfl)).2.1
  have p3 : ck_lk E 84 (100000 + (1 * σ 0 + (1000000 * σ 1 + (1 * σ 4 + 0)))) = 0 + (1 * σ 9 + 0) := (hP _ (List.mem_of_getElem? (i := 3) rfl)).2.2
  have q3 : (0 : Int) ≤ 100000 + (1 * σ 0 + (1000000 * σ 1 + (1 * σ 4 + 0))) := (hP _ (List.mem_of_getElem? (i := 3) rfl)).2.1
  have p4 : ck_lk E 85 (100000 + (1 * σ 0 + (1000000 * σ 1 + (1 * σ 4 + 0)))) = 0 + (1 * σ 10 + 0) := (hP _ (List.mem_of_getElem? (i := 4) rfl)).2.2
  have q4 : (0 : Int) ≤ 100000 + (1 * σ 0 + (1000000 * σ 1 + (1 * σ 4 + 0))) := (hP _ (List.mem_of_getElem? (i := 4) rfl)).2.1
  have p5 : ck_lk E 79 (0 + (6 * σ 0 + (6 * σ 9 + (1 * σ 10 + 0)))) = 0 + (1 * σ 11 + 0) := (hP _ (List.mem_of_getElem? (i := 5) rfl)).2.2
  have q5 : (0 : Int) ≤ 0 + (6 * σ 0 + (6 * σ 9 + (1 * σ 10 + 0))) := (hP _ (List.mem_of_getElem? (i := 5) rfl)).2.1
  have g0 : ck_FL 0 E := hΦ _ (List.mem_of_getElem? (i := 0) rfl)
  have key : (((0 : Int) ≤ 1600000000 + (1400000000 * σ 0 + (200000000 * σ 1 + (20000 * σ 3 + (1 * σ 4 + 0)))) ∧ ck_lk (va_up E 79 e') 105 (1600000000 + (1400000000 * σ 0 + (200000000 * σ 1 + (20000 * σ 3 + (1 * σ 4 + 0))))) = 1 + 0) ∧ True) := by
    rw [kc (i := 0) (by decide) (by decide)] at p0
    rw [k105 (i := σ 0) (r := σ 1) (sb := σ 3) (t := σ 4) (by omega) (by omega) (by omega) (by omega) (by omega) (by omega) (by omega)] at p1
    have hG := cb_ge p1 (by omega)
    rw [kc (i := 6 * (σ 0 + 1) + σ 1) (by decide) (by omega)] at p2
    rw [k84 (r := σ 1) (t := σ 4 + σ 0) (by omega) (by omega) (by omega)] at p3
    rw [k85 (r := σ 1) (t := σ 4 + σ 0) (by omega) (by omega) (by omega)] at p4
    have hper := vf_per1 g0 (by omega)
    have z : 0 + (1 * σ 5 + 0) = 6 * σ 0 + σ 1 := by omega
    rw [z] at h0 l1 l2
    refine ⟨⟨by omega, ?_⟩, trivial⟩
    rw [k105 (i := σ 0) (r := σ 1 + 1) (sb := σ 3) (t := σ 4) (by omega) (by omega) (by omega) (by omega) (by omega) (by omega) (by omega)]
    refine (cb_t (vf_G_st hgi hper (by omega) (by omega) (by omega) l2 hG ?_)).trans rfl
    have e1 : vf_few (va_up E 79 e') (σ 0) (σ 1) = 0 + (1 * σ 2 + 0) := by unfold vf_few; rw [va_up_self]; exact l1
    have e2 : vf_few (va_up E 79 e') (σ 0 + 1) (σ 1) = vf_few E (σ 0 + 1) (σ 1) := by unfold vf_few; rw [va_up_self]; exact l2 _ (by omega) (by omega)
    have e2' : vf_few E (σ 0 + 1) (σ 1) = 0 + (1 * σ 8 + 0) := p2
    have eh : vf_h (va_up E 79 e') = vf_h E := vf_h_eq (un (by decide)) (un (by decide))
    have eg : vf_g (va_up E 79 e') = vf_g E := vf_g_eq (un (by decide)) (un (by decide))
    have b4 := vf_gb hgi (r := σ 1) (t := σ 4 + σ 0) (by omega) (by omega) (hper _ (by omega) (by omega))
    have e3 : vf_few (va_up E 79 e') (σ 0 + σ 9) (σ 10) = 0 + (1 * σ 11 + 0) := by
      rw [kc (i := 6 * (σ 0 + σ 9) + σ 10) (by decide) (by omega)] at p5
      unfold vf_few
      rw [va_up_self, l2 _ (by omega) (by omega)]; exact p5
    unfold vf_fe
    rw [eh, eg, e1, e2, e2', p3, p4, show σ 0 + (0 + (1 * σ 9 + 0)) = σ 0 + σ 9 by omega, show 0 + (1 * σ 10 + 0) = σ 10 by omega, e3]
    exact Or.inr ⟨by omega, by omega, by omega, by omega⟩
  obtain ⟨k0, -⟩ := key
  exact ⟨_, (List.mem_of_getElem? (i := 0) rfl), σ, ck_ag_rf, (fun _ h => absurd h List.not_mem_nil), (fun _ h => absurd h List.not_mem_nil), trivial, (List.forall_mem_cons.mpr ⟨⟨⟨ck_wb_ok rfl, ck_wb_ok rfl⟩, k0⟩, (fun _ h => absurd h List.not_mem_nil)⟩), (fun _ h => absurd h List.not_mem_nil)⟩
theorem ccQ2c {l : Launch} {D : va_G} {kp : Nat → ClassId} : ck_con l D kp ck_NN ceQ2c := ck_con_s (k := 79) rfl rpQ2c
theorem rpQ3 : ck_gcon ceQ3 := by
  intro σ E hgi hF hP hΦ
  have f0 : (0 : Int) ≤ 0 + (1 * σ 0 + 0) := hF _ (List.mem_of_getElem? (i := 0) rfl)
  have f1 : (0 : Int) ≤ 5390 + ((-1) * σ 0 + 0) := hF _ (List.mem_of_getElem? (i := 1) rfl)
  have f2 : (0 : Int) ≤ 0 + (1 * σ 1 + 0) := hF _ (List.mem_of_getElem? (i := 2) rfl)
  have f3 : (0 : Int) ≤ 5390 + ((-1) * σ 1 + 0) := hF _ (List.mem_of_getElem? (i := 3) rfl)
  have f4 : (0 : Int) ≤ 0 + (1 * σ 2 + 0) := hF _ (List.mem_of_getElem? (i := 4) rfl)
  have f5 : (0 : Int) ≤ 9999 + ((-1) * σ 2 + 0) := hF _ (List.mem_of_getElem? (i := 5) rfl)
  have f6 : (0 : Int) ≤ 0 + (1 * σ 3 + 0) := hF _ (List.mem_of_getElem? (i := 6) rfl)
  have f7 : (0 : Int) ≤ 6 + ((-1) * σ 3 + 0) := hF _ (List.mem_of_getElem? (i := 7) rfl)
  have f8 : (0 : Int) ≤ (-1) + (1 * σ 4 + 0) := hF _ (List.mem_of_getElem? (i := 8) rfl)
  have p0 : ck_lk E 65 (0 + 0) = 0 + (1 * σ 3 + 0) := (hP _ (List.mem_of_getElem? (i := 0) rfl)).2.2
  have q0 : (0 : Int) ≤ 0 + 0 := (hP _ (List.mem_of_getElem? (i := 0) rfl)).2.1
  have p1 : ck_lk E 105 (1400000000 + (1400000000 * σ 0 + (20000 * σ 1 + (1 * σ 2 + (200000000 * σ 3 + 0))))) = 0 + (1 * σ 4 + 0) := (hP _ (List.mem_of_getElem? (i := 1) rfl)).2.2
  have q1 : (0 : Int) ≤ 1400000000 + (1400000000 * σ 0 + (20000 * σ 1 + (1 * σ 2 + (200000000 * σ 3 + 0)))) := (hP _ (List.mem_of_getElem? (i := 1) rfl)).2.1
  have key : (((0 : Int) ≤ 0 + (1400000000 * σ 0 + (20000 * σ 1 + (1 * σ 2 + 0))) ∧ ck_lk E 105 (0 + (1400000000 * σ 0 + (20000 * σ 1 + (1 * σ 2 + 0)))) = 1 + 0) ∧ True) := by
    rw [kc (i := 0) (by decide) (by decide)] at p0
    rw [k105 (i := σ 0) (r := σ 3) (sb := σ 1) (t := σ 2) (by omega) (by omega) (by omega) (by omega) (by omega) (by omega) (by omega)] at p1
    have hG := cb_ge p1 (by omega)
    refine ⟨⟨by omega, ?_⟩, trivial⟩
    rw [k105 (i := σ 0 - 1) (r := 0) (sb := σ 1) (t := σ 2) (by omega) (by omega) (by omega) (by omega) (by omega) (by omega) (by omega)]
    refine (cb_t ?_).trans rfl
    intro i r r0 r1 i0 i1 hc
    refine hG i r r0 r1 i0 i1 ?_
    unfold vf_rf at r1
    omega
  obtain ⟨k0, -⟩ := key
  exact ⟨_, (List.mem_of_getElem? (i := 0) rfl), σ, ck_ag_rf, (fun _ h => absurd h List.not_mem_nil), (fun _ h => absurd h List.not_mem_nil), trivial, (List.forall_mem_cons.mpr ⟨⟨⟨ck_wb_ok rfl, ck_wb_ok rfl⟩, k0⟩, (fun _ h => absurd h List.not_mem_nil)⟩), (fun _ h => absurd h List.not_mem_nil)⟩
theorem ccQ3 {l : Launch} {D : va_G} {kp : Nat → ClassId} : ck_con l D kp ck_NN ceQ3 := ck_con_g rfl rpQ3
theorem rpN0 : ck_gcon ceN0 := by
  intro σ E hgi hF hP hΦ
  have f0 : (0 : Int) ≤ 0 + (1 * σ 0 + 0) := hF _ (List.mem_of_getElem? (i := 0) rfl)
  have f1 : (0 : Int) ≤ 0 + (1 * σ 1 + 0) := hF _ (List.mem_of_getElem? (i := 1) rfl)
  have f2 : (0 : Int) ≤ (-1) + ((-1) * σ 1 + (1 * σ 2 + 0)) := hF _ (List.mem_of_getElem? (i := 2) rfl)
  have p0 : ck_lk E 65 (0 + 0) = 0 + (1 * σ 2 + 0) := (hP _ (List.mem_of_getElem? (i := 0) rfl)).2.2
  have q0 : (0 : Int) ≤ 0 + 0 := (hP _ (List.mem_of_getElem? (i := 0) rfl)).2.1
  have key : (∃ v0 : Int, (0 : Int) ≤ 0 + (1 * v0 + 0) ∧ (0 : Int) ≤ (-1) + (1 * σ 2 + ((-1) * v0 + 0)) ∧ ((0 : Int) ≤ 0 + (6 * σ 0 + (1 * σ 1 + 0)) ∧ ck_lk E 104 (0 + (6 * σ 0 + (1 * σ 1 + 0))) = 0 + (1 * v0 + 0)) ∧ True) := by
    rw [kc (i := 0) (by decide) (by decide)] at p0
    have hb := vf_rfb hgi
    have hrf : vf_rf E = σ 2 := by unfold vf_rf; omega
    have k1 := vf_cnt_nn (f := fun r => vf_few E (σ 0) r) (v := vf_few E (σ 0) (σ 1)) (vf_rf E).toNat
    have k2 := vf_cnt_lt (f := fun _ => (0 : Int)) (f' := fun r => vf_few E (σ 0) r) (v := 1) (v' := vf_few E (σ 0) (σ 1)) (r0 := σ 1) (by omega) (by decide) (by show ¬ vf_few E (σ 0) (σ 1) < vf_few E (σ 0) (σ 1); omega) (vf_rf E).toNat (by omega) (fun _ _ _ _ => by decide)
    have k3 := vf_cnt_bd (f := fun _ => (0 : Int)) (v := 1) (vf_rf E).toNat
    refine ⟨vf_cnt (fun r => vf_few E (σ 0) r) (vf_few E (σ 0) (σ 1)) (vf_rf E).toNat, by omega, by omega, ⟨by omega, ?_⟩, trivial⟩
    rw [k104 (i := σ 0) (r := σ 1) (by omega) (by omega) (by omega)]
    omega
  obtain ⟨v0, k0, k1, k2, -⟩ := key
  exact ⟨_, (List.mem_of_getElem? (i := 0) rfl), (fun i => if i = 3 then v0 else σ i), (fun i hi => by show (if i = 3 then v0 else σ i) = σ i; rw [if_neg (show ¬ i = 3 by have : i < 3 := hi; omega)]), (List.forall_mem_cons.mpr ⟨k0, (List.forall_mem_cons.mpr ⟨k1, (fun _ h => absurd h List.not_mem_nil)⟩)⟩), (fun f hf => ck_wb_ok (List.all_eq_true.mp (show List.all _ (ck_wb 4) = true from rfl) f hf)), trivial, (List.forall_mem_cons.mpr ⟨⟨⟨ck_wb_ok rfl, ck_wb_ok rfl⟩, k2⟩, (fun _ h => absurd h List.not_mem_nil)⟩), (fun _ h => absurd h List.not_mem_nil)⟩
theorem ccN0 {l : Launch} {D : va_G} {kp : Nat → ClassId} : ck_con l D kp ck_NN ceN0 := ck_con_g rfl rpN0
theorem rpN1a : ck_gcon ceN1a := by
  intro σ E hgi hF hP hΦ
  have f0 : (0 : Int) ≤ 0 + (1 * σ 0 + 0) := hF _ (List.mem_of_getElem? (i := 0) rfl)
  have f1 : (0 : Int) ≤ (-1) + ((-1) * σ 0 + (1 * σ 2 + 0)) := hF _ (List.mem_of_getElem? (i := 1) rfl)
  have f2 : (0 : Int) ≤ 0 + (1 * σ 1 + 0) := hF _ (List.mem_of_getElem? (i := 2) rfl)
  have f3 : (0 : Int) ≤ (-1) + ((-1) * σ 1 + (1 * σ 4 + 0)) := hF _ (List.mem_of_getElem? (i := 3) rfl)
  have f4 : (0 : Int) ≤ 0 + (1 * σ 2 + 0) := hF _ (List.mem_of_getElem? (i := 4) rfl)
  have f5 : (0 : Int) ≤ 5390 + ((-1) * σ 2 + 0) := hF _ (List.mem_of_getElem? (i := 5) rfl)
  have f6 : (0 : Int) ≤ 0 + (1 * σ 3 + 0) := hF _ (List.mem_of_getElem? (i := 6) rfl)
  have f7 : (0 : Int) ≤ 9999 + ((-1) * σ 3 + 0) := hF _ (List.mem_of_getElem? (i := 7) rfl)
  have f8 : (0 : Int) ≤ (-1) + (1 * σ 5 + 0) := hF _ (List.mem_of_getElem? (i := 8) rfl)
  have f9 : (0 : Int) ≤ 0 + ((-1) * σ 7 + 0) := hF _ (List.mem_of_getElem? (i := 9) rfl)
  have p0 : ck_lk E 65 (0 + 0) = 0 + (1 * σ 4 + 0) := (hP _ (List.mem_of_getElem? (i := 0) rfl)).2.2
  have q0 : (0 : Int) ≤ 0 + 0 := (hP _ (List.mem_of_getElem? (i := 0) rfl)).2.1
  have p1 : ck_lk E 105 (0 + (20000 * σ 2 + (1 * σ 3 + 0))) = 0 + (1 * σ 5 + 0) := (hP _ (List.mem_of_getElem? (i := 1) rfl)).2.2
  have q1 : (0 : Int) ≤ 0 + (20000 * σ 2 + (1 * σ 3 + 0)) := (hP _ (List.mem_of_getElem? (i := 1) rfl)).2.1
  have p2 : ck_lk E 104 (0 + (6 * σ 0 + (1 * σ 1 + 0))) = 0 + (1 * σ 6 + 0) := (hP _ (List.mem_of_getElem? (i := 2) rfl)).2.2
  have q2 : (0 : Int) ≤ 0 + (6 * σ 0 + (1 * σ 1 + 0)) := (hP _ (List.mem_of_getElem? (i := 2) rfl)).2.1
  have p3 : ck_lk E 84 (100000 + (1 * σ 0 + (1000000 * σ 1 + (1 * σ 3 + 0)))) = 0 + (1 * σ 7 + 0) := (hP _ (List.mem_of_getElem? (i := 3) rfl)).2.2
  have q3 : (0 : Int) ≤ 100000 + (1 * σ 0 + (1000000 * σ 1 + (1 * σ 3 + 0))) := (hP _ (List.mem_of_getElem? (i := 3) rfl)).2.1
  have key : (∃ v0 : Int, (0 : Int) ≤ 0 + (1 * v0 + 0) ∧ (0 : Int) ≤ 0 + (1 * σ 6 + ((-1) * v0 + 0)) ∧ ((0 : Int) ≤ 6 + (6 * σ 0 + (1 * σ 1 + 0)) ∧ ck_lk E 104 (6 + (6 * σ 0 + (1 * σ 1 + 0))) = 0 + (1 * v0 + 0)) ∧ True) := by
    rw [kc (i := 0) (by decide) (by decide)] at p0
    rw [k105 (i := -1) (r := 0) (sb := σ 2) (t := σ 3) (by omega) (by omega) (by omega) (by omega) (by omega) (by omega) (by omega)] at p1
    have hG := cb_ge p1 (by omega)
    have hb := vf_rfb hgi
    have hrf : vf_rf E = σ 4 := by unfold vf_rf; omega
    rw [k104 (i := σ 0) (r := σ 1) (by omega) (by omega) (by omega)] at p2
    rw [k84 (r := σ 1) (t := σ 3 + σ 0) (by omega) (by omega) (by omega)] at p3
    have hm := vf_fmono hG
    have hf := hG (σ 0) (σ 1) (by omega) (by omega) (by omega) (by omega) (Or.inl (by omega))
    unfold vf_fe at hf
    rw [p3] at hf
    have he : vf_few E (σ 0) (σ 1) = vf_few E (σ 0 + 1) (σ 1) := by
      rcases hf with ⟨a, -⟩ | ⟨a, b, c, d⟩
      · exact a
      · exfalso
        omega
    have key9 := vf_cnt_le (f := fun r => vf_few E (σ 0) r) (f' := fun r => vf_few E (σ 0 + 1) r) (v := vf_few E (σ 0) (σ 1)) (v' := vf_few E (σ 0 + 1) (σ 1)) (vf_rf E).toNat (fun r r0 r1 hr => by
      have h1 := hm (σ 0) r 1 (by omega) (by omega) r0 (by omega)
      have h1 : vf_few E (σ 0) r ≤ vf_few E (σ 0 + 1) r := h1
      have hr : vf_few E (σ 0 + 1) r < vf_few E (σ 0 + 1) (σ 1) := hr
      show vf_few E (σ 0) r < vf_few E (σ 0) (σ 1)
      omega)
    have key8 := vf_cnt_nn (f := fun r => vf_few E (σ 0 + 1) r) (v := vf_few E (σ 0 + 1) (σ 1)) (vf_rf E).toNat
    refine ⟨vf_cnt (fun r => vf_few E (σ 0 + 1) r) (vf_few E (σ 0 + 1) (σ 1)) (vf_rf E).toNat, by omega, by omega, ⟨by omega, ?_⟩, trivial⟩
    rw [k104 (i := σ 0 + 1) (r := σ 1) (by omega) (by omega) (by omega)]
    omega
  obtain ⟨v0, k0, k1, k2, -⟩ := key
  exact ⟨_, (List.mem_of_getElem? (i := 0) rfl), (fun i => if i = 8 then v0 else σ i), (fun i hi => by show (if i = 8 then v0 else σ i) = σ i; rw [if_neg (show ¬ i = 8 by have : i < 8 := hi; omega)]), (List.forall_mem_cons.mpr ⟨k0, (List.forall_mem_cons.mpr ⟨k1, (fun _ h => absurd h List.not_mem_nil)⟩)⟩), (fun f hf => ck_wb_ok (List.all_eq_true.mp (show List.all _ (ck_wb 9) = true from rfl) f hf)), trivial, (List.forall_mem_cons.mpr ⟨⟨⟨ck_wb_ok rfl, ck_wb_ok rfl⟩, k2⟩, (fun _ h => absurd h List.not_mem_nil)⟩), (fun _ h => absurd h List.not_mem_nil)⟩
theorem ccN1a {l : Launch} {D : va_G} {kp : Nat → ClassId} : ck_con l D kp ck_NN ceN1a := ck_con_g rfl rpN1a
theorem rpN1b : ck_gcon ceN1b := by
  intro σ E hgi hF hP hΦ
  have f0 : (0 : Int) ≤ 0 + (1 * σ 0 + 0) := hF _ (List.mem_of_getElem? (i := 0) rfl)
  have f1 : (0 : Int) ≤ (-1) + ((-1) * σ 0 + (1 * σ 2 + 0)) := hF _ (List.mem_of_getElem? (i := 1) rfl)
  have f2 : (0 : Int) ≤ 0 + (1 * σ 1 + 0) := hF _ (List.mem_of_getElem? (i := 2) rfl)
  have f3 : (0 : Int) ≤ (-1) + ((-1) * σ 1 + (1 * σ 4 + 0)) := hF _ (List.mem_of_getElem? (i := 3) rfl)
  have f4 : (0 : Int) ≤ 0 + (1 * σ 2 + 0) := hF _ (List.mem_of_getElem? (i := 4) rfl)
  have f5 : (0 : Int) ≤ 5390 + ((-1) * σ 2 + 0) := hF _ (List.mem_of_getElem? (i := 5) rfl)
  have f6 : (0 : Int) ≤ 0 + (1 * σ 3 + 0) := hF _ (List.mem_of_getElem? (i := 6) rfl)
  have f7 : (0 : Int) ≤ 9999 + ((-1) * σ 3 + 0) := hF _ (List.mem_of_getElem? (i := 7) rfl)
  have f8 : (0 : Int) ≤ (-1) + (1 * σ 5 + 0) := hF _ (List.mem_of_getElem? (i := 8) rfl)
  have f9 : (0 : Int) ≤ (-1) + (1 * σ 0 + ((-1) * σ 2 + (1 * σ 7 + 0))) := hF _ (List.mem_of_getElem? (i := 9) rfl)
  have p0 : ck_lk E 65 (0 + 0) = 0 + (1 * σ 4 + 0) := (hP _ (List.mem_of_getElem? (i := 0) rfl)).2.2
  have q0 : (0 : Int) ≤ 0 + 0 := (hP _ (List.mem_of_getElem? (i := 0) rfl)).2.1
  have p1 : ck_lk E 105 (0 + (20000 * σ 2 + (1 * σ 3 + 0))) = 0 + (1 * σ 5 + 0) := (hP _ (List.mem_of_getElem? (i := 1) rfl)).2.2
  have q1 : (0 : Int) ≤ 0 + (20000 * σ 2 + (1 * σ 3 + 0)) := (hP _ (List.mem_of_getElem? (i := 1) rfl)).2.1
  have p2 : ck_lk E 104 (0 + (6 * σ 0 + (1 * σ 1 + 0))) = 0 + (1 * σ 6 + 0) := (hP _ (List.mem_of_getElem? (i := 2) rfl)).2.2
  have q2 : (0 : Int) ≤ 0 + (6 * σ 0 + (1 * σ 1 + 0)) := (hP _ (List.mem_of_getElem? (i := 2) rfl)).2.1
  have p3 : ck_lk E 84 (100000 + (1 * σ 0 + (1000000 * σ 1 + (1 * σ 3 + 0)))) = 0 + (1 * σ 7 + 0) := (hP _ (List.mem_of_getElem? (i := 3) rfl)).2.2
  have q3 : (0 : Int) ≤ 100000 + (1 * σ 0 + (1000000 * σ 1 + (1 * σ 3 + 0))) := (hP _ (List.mem_of_getElem? (i := 3) rfl)).2.1
  have key : (∃ v0 : Int, (0 : Int) ≤ 0 + (1 * v0 + 0) ∧ (0 : Int) ≤ 0 + (1 * σ 6 + ((-1) * v0 + 0)) ∧ ((0 : Int) ≤ 6 + (6 * σ 0 + (1 * σ 1 + 0)) ∧ ck_lk E 104 (6 + (6 * σ 0 + (1 * σ 1 + 0))) = 0 + (1 * v0 + 0)) ∧ True) := by
    rw [kc (i := 0) (by decide) (by decide)] at p0
    rw [k105 (i := -1) (r := 0) (sb := σ 2) (t := σ 3) (by omega) (by omega) (by omega) (by omega) (by omega) (by omega) (by omega)] at p1
    have hG := cb_ge p1 (by omega)
    have hb := vf_rfb hgi
    have hrf : vf_rf E = σ 4 := by unfold vf_rf; omega
    rw [k104 (i := σ 0) (r := σ 1) (by omega) (by omega) (by omega)] at p2
    rw [k84 (r := σ 1) (t := σ 3 + σ 0) (by omega) (by omega) (by omega)] at p3
    have hm := vf_fmono hG
    have hf := hG (σ 0) (σ 1) (by omega) (by omega) (by omega) (by omega) (Or.inl (by omega))
    unfold vf_fe at hf
    rw [p3] at hf
    have he : vf_few E (σ 0) (σ 1) = vf_few E (σ 0 + 1) (σ 1) := by
      rcases hf with ⟨a, -⟩ | ⟨a, b, c, d⟩
      · exact a
      · exfalso
        omega
    have key9 := vf_cnt_le (f := fun r => vf_few E (σ 0) r) (f' := fun r => vf_few E (σ 0 + 1) r) (v := vf_few E (σ 0) (σ 1)) (v' := vf_few E (σ 0 + 1) (σ 1)) (vf_rf E).toNat (fun r r0 r1 hr => by
      have h1 := hm (σ 0) r 1 (by omega) (by omega) r0 (by omega)
      have h1 : vf_few E (σ 0) r ≤ vf_few E (σ 0 + 1) r := h1
      have hr : vf_few E (σ 0 + 1) r < vf_few E (σ 0 + 1) (σ 1) := hr
      show vf_few E (σ 0) r < vf_few E (σ 0) (σ 1)
      omega)
    have key8 := vf_cnt_nn (f := fun r => vf_few E (σ 0 + 1) r) (v := vf_few E (σ 0 + 1) (σ 1)) (vf_rf E).toNat
    refine ⟨vf_cnt (fun r => vf_few E (σ 0 + 1) r) (vf_few E (σ 0 + 1) (σ 1)) (vf_rf E).toNat, by omega, by omega, ⟨by omega, ?_⟩, trivial⟩
    rw [k104 (i := σ 0 + 1) (r := σ 1) (by omega) (by omega) (by omega)]
    omega
  obtain ⟨v0, k0, k1, k2, -⟩ := key
  exact ⟨_, (List.mem_of_getElem? (i := 0) rfl), (fun i => if i = 8 then v0 else σ i), (fun i hi => by show (if i = 8 then v0 else σ i) = σ i; rw [if_neg (show ¬ i = 8 by have : i < 8 := hi; omega)]), (List.forall_mem_cons.mpr ⟨k0, (List.forall_mem_cons.mpr ⟨k1, (fun _ h => absurd h List.not_mem_nil)⟩)⟩), (fun f hf => ck_wb_ok (List.all_eq_true.mp (show List.all _ (ck_wb 9) = true from rfl) f hf)), trivial, (List.forall_mem_cons.mpr ⟨⟨⟨ck_wb_ok rfl, ck_wb_ok rfl⟩, k2⟩, (fun _ h => absurd h List.not_mem_nil)⟩), (fun _ h => absurd h List.not_mem_nil)⟩
theorem ccN1b {l : Launch} {D : va_G} {kp : Nat → ClassId} : ck_con l D kp ck_NN ceN1b := ck_con_g rfl rpN1b
theorem rpN1c : ck_gcon ceN1c := by
  intro σ E hgi hF hP hΦ
  have f0 : (0 : Int) ≤ 0 + (1 * σ 0 + 0) := hF _ (List.mem_of_getElem? (i := 0) rfl)
  have f1 : (0 : Int) ≤ (-1) + ((-1) * σ 0 + (1 * σ 2 + 0)) := hF _ (List.mem_of_getElem? (i := 1) rfl)
  have f2 : (0 : Int) ≤ 0 + (1 * σ 1 + 0) := hF _ (List.mem_of_getElem? (i := 2) rfl)
  have f3 : (0 : Int) ≤ (-1) + ((-1) * σ 1 + (1 * σ 4 + 0)) := hF _ (List.mem_of_getElem? (i := 3) rfl)
  have f4 : (0 : Int) ≤ 0 + (1 * σ 2 + 0) := hF _ (List.mem_of_getElem? (i := 4) rfl)
  have f5 : (0 : Int) ≤ 5390 + ((-1) * σ 2 + 0) := hF _ (List.mem_of_getElem? (i := 5) rfl)
  have f6 : (0 : Int) ≤ 0 + (1 * σ 3 + 0) := hF _ (List.mem_of_getElem? (i := 6) rfl)
  have f7 : (0 : Int) ≤ 9999 + ((-1) * σ 3 + 0) := hF _ (List.mem_of_getElem? (i := 7) rfl)
  have f8 : (0 : Int) ≤ (-1) + (1 * σ 5 + 0) := hF _ (List.mem_of_getElem? (i := 8) rfl)
  have f9 : (0 : Int) ≤ (-1) + (1 * σ 7 + 0) := hF _ (List.mem_of_getElem? (i := 9) rfl)
  have f10 : (0 : Int) ≤ 0 + ((-1) * σ 0 + (1 * σ 2 + ((-1) * σ 7 + 0))) := hF _ (List.mem_of_getElem? (i := 10) rfl)
  have f11 : (0 : Int) ≤ 0 + (1 * σ 9 + ((-1) * σ 10 + 0)) := hF _ (List.mem_of_getElem? (i := 11) rfl)
  have p0 : ck_lk E 65 (0 + 0) = 0 + (1 * σ 4 + 0) := (hP _ (List.mem_of_getElem? (i := 0) rfl)).2.2
  have q0 : (0 : Int) ≤ 0 + 0 := (hP _ (List.mem_of_getElem? (i := 0) rfl)).2.1
  have p1 : ck_lk E 105 (0 + (20000 * σ 2 + (1 * σ 3 + 0))) = 0 + (1 * σ 5 + 0) := (hP _ (List.mem_of_getElem? (i := 1) rfl)).2.2
  have q1 : (0 : Int) ≤ 0 + (20000 * σ 2 + (1 * σ 3 + 0)) := (hP _ (List.mem_of_getElem? (i := 1) rfl)).2.1
  have p2 : ck_lk E 104 (0 + (6 * σ 0 + (1 * σ 1 + 0))) = 0 + (1 * σ 6 + 0) := (hP _ (List.mem_of_getElem? (i := 2) rfl)).2.2
  have q2 : (0 : Int) ≤ 0 + (6 * σ 0 + (1 * σ 1 + 0)) := (hP _ (List.mem_of_getElem? (i := 2) rfl)).2.1
  have p3 : ck_lk E 84 (100000 + (1 * σ 0 + (1000000 * σ 1 + (1 * σ 3 + 0)))) = 0 + (1 * σ 7 + 0) := (hP _ (List.mem_of_getElem? (i := 3) rfl)).2.2
  have q3 : (0 : Int) ≤ 100000 + (1 * σ 0 + (1000000 * σ 1 + (1 * σ 3 + 0))) := (hP _ (List.mem_of_getElem? (i := 3) rfl)).2.1
  have p4 : ck_lk E 85 (100000 + (1 * σ 0 + (1000000 * σ 1 + (1 * σ 3 + 0)))) = 0 + (1 * σ 8 + 0) := (hP _ (List.mem_of_getElem? (i := 4) rfl)).2.2
  have q4 : (0 : Int) ≤ 100000 + (1 * σ 0 + (1000000 * σ 1 + (1 * σ 3 + 0))) := (hP _ (List.mem_of_getElem? (i := 4) rfl)).2.1
  have p5 : ck_lk E 79 (0 + (6 * σ 0 + (6 * σ 7 + (1 * σ 8 + 0)))) = 0 + (1 * σ 9 + 0) := (hP _ (List.mem_of_getElem? (i := 5) rfl)).2.2
  have q5 : (0 : Int) ≤ 0 + (6 * σ 0 + (6 * σ 7 + (1 * σ 8 + 0))) := (hP _ (List.mem_of_getElem? (i := 5) rfl)).2.1
  have p6 : ck_lk E 79 (0 + (6 * σ 0 + (1 * σ 1 + 0))) = 0 + (1 * σ 10 + 0) := (hP _ (List.mem_of_getElem? (i := 6) rfl)).2.2
  have q6 : (0 : Int) ≤ 0 + (6 * σ 0 + (1 * σ 1 + 0)) := (hP _ (List.mem_of_getElem? (i := 6) rfl)).2.1
  have key : (∃ v0 : Int, (0 : Int) ≤ 0 + (1 * v0 + 0) ∧ (0 : Int) ≤ 0 + (1 * σ 6 + ((-1) * v0 + 0)) ∧ ((0 : Int) ≤ 6 + (6 * σ 0 + (1 * σ 1 + 0)) ∧ ck_lk E 104 (6 + (6 * σ 0 + (1 * σ 1 + 0))) = 0 + (1 * v0 + 0)) ∧ True) := by
    rw [kc (i := 0) (by decide) (by decide)] at p0
    rw [k105 (i := -1) (r := 0) (sb := σ 2) (t := σ 3) (by omega) (by omega) (by omega) (by omega) (by omega) (by omega) (by omega)] at p1
    have hG := cb_ge p1 (by omega)
    have hb := vf_rfb hgi
    have hrf : vf_rf E = σ 4 := by unfold vf_rf; omega
    rw [k104 (i := σ 0) (r := σ 1) (by omega) (by omega) (by omega)] at p2
    rw [k84 (r := σ 1) (t := σ 3 + σ 0) (by omega) (by omega) (by omega)] at p3
    have hm := vf_fmono hG
    have hf := hG (σ 0) (σ 1) (by omega) (by omega) (by omega) (by omega) (Or.inl (by omega))
    unfold vf_fe at hf
    rw [k85 (r := σ 1) (t := σ 3 + σ 0) (by omega) (by omega) (by omega)] at p4
    have z5 : ck_lk E 79 (0 + (6 * σ 0 + (6 * σ 7 + (1 * σ 8 + 0)))) = vf_few E (σ 0 + σ 7) (σ 8) := kc (by decide) (by omega)
    have z6 : ck_lk E 79 (0 + (6 * σ 0 + (1 * σ 1 + 0))) = vf_few E (σ 0) (σ 1) := kc (by decide) (by omega)
    rw [z5] at p5
    rw [z6] at p6
    rw [p3, p4, show σ 0 + (0 + (1 * σ 7 + 0)) = σ 0 + σ 7 by omega, show 0 + (1 * σ 8 + 0) = σ 8 by omega] at hf
    have he : vf_few E (σ 0) (σ 1) = vf_few E (σ 0 + 1) (σ 1) := by
      rcases hf with ⟨a, -⟩ | ⟨a, b, c, d⟩
      · exact a
      · exfalso
        omega
    have key9 := vf_cnt_le (f := fun r => vf_few E (σ 0) r) (f' := fun r => vf_few E (σ 0 + 1) r) (v := vf_few E (σ 0) (σ 1)) (v' := vf_few E (σ 0 + 1) (σ 1)) (vf_rf E).toNat (fun r r0 r1 hr => by
      have h1 := hm (σ 0) r 1 (by omega) (by omega) r0 (by omega)
      have h1 : vf_few E (σ 0) r ≤ vf_few E (σ 0 + 1) r := h1
      have hr : vf_few E (σ 0 + 1) r < vf_few E (σ 0 + 1) (σ 1) := hr
      show vf_few E (σ 0) r < vf_few E (σ 0) (σ 1)
      omega)
    have key8 := vf_cnt_nn (f := fun r => vf_few E (σ 0 + 1) r) (v := vf_few E (σ 0 + 1) (σ 1)) (vf_rf E).toNat
    refine ⟨vf_cnt (fun r => vf_few E (σ 0 + 1) r) (vf_few E (σ 0 + 1) (σ 1)) (vf_rf E).toNat, by omega, by omega, ⟨by omega, ?_⟩, trivial⟩
    rw [k104 (i := σ 0 + 1) (r := σ 1) (by omega) (by omega) (by omega)]
    omega
  obtain ⟨v0, k0, k1, k2, -⟩ := key
  exact ⟨_, (List.mem_of_getElem? (i := 0) rfl), (fun i => if i = 11 then v0 else σ i), (fun i hi => by show (if i = 11 then v0 else σ i) = σ i; rw [if_neg (show ¬ i = 11 by have : i < 11 := hi; omega)]), (List.forall_mem_cons.mpr ⟨k0, (List.forall_mem_cons.mpr ⟨k1, (fun _ h => absurd h List.not_mem_nil)⟩)⟩), (fun f hf => ck_wb_ok (List.all_eq_true.mp (show List.all _ (ck_wb 12) = true from rfl) f hf)), trivial, (List.forall_mem_cons.mpr ⟨⟨⟨ck_wb_ok rfl, ck_wb_ok rfl⟩, k2⟩, (fun _ h => absurd h List.not_mem_nil)⟩), (fun _ h => absurd h List.not_mem_nil)⟩
theorem ccN1c {l : Launch} {D : va_G} {kp : Nat → ClassId} : ck_con l D kp ck_NN ceN1c := ck_con_g rfl rpN1c
theorem rpN1d : ck_gcon ceN1d := by
  intro σ E hgi hF hP hΦ
  have f0 : (0 : Int) ≤ 0 + (1 * σ 0 + 0) := hF _ (List.mem_of_getElem? (i := 0) rfl)
  have f1 : (0 : Int) ≤ (-1) + ((-1) * σ 0 + (1 * σ 2 + 0)) := hF _ (List.mem_of_getElem? (i := 1) rfl)
  have f2 : (0 : Int) ≤ 0 + (1 * σ 1 + 0) := hF _ (List.mem_of_getElem? (i := 2) rfl)
  have f3 : (0 : Int) ≤ (-1) + ((-1) * σ 1 + (1 * σ 4 + 0)) := hF _ (List.mem_of_getElem? (i := 3) rfl)
  have f4 : (0 : Int) ≤ 0 + (1 * σ 2 + 0) := hF _ (List.mem_of_getElem? (i := 4) rfl)
  have f5 : (0 : Int) ≤ 5390 + ((-1) * σ 2 + 0) := hF _ (List.mem_of_getElem? (i := 5) rfl)
  have f6 : (0 : Int) ≤ 0 + (1 * σ 3 + 0) := hF _ (List.mem_of_getElem? (i := 6) rfl)
  have f7 : (0 : Int) ≤ 9999 + ((-1) * σ 3 + 0) := hF _ (List.mem_of_getElem? (i := 7) rfl)
  have f8 : (0 : Int) ≤ (-1) + (1 * σ 5 + 0) := hF _ (List.mem_of_getElem? (i := 8) rfl)
  have f9 : (0 : Int) ≤ (-1) + (1 * σ 7 + 0) := hF _ (List.mem_of_getElem? (i := 9) rfl)
  have f10 : (0 : Int) ≤ 0 + ((-1) * σ 0 + (1 * σ 2 + ((-1) * σ 7 + 0))) := hF _ (List.mem_of_getElem? (i := 10) rfl)
  have f11 : (0 : Int) ≤ (-2) + ((-1) * σ 9 + (1 * σ 10 + 0)) := hF _ (List.mem_of_getElem? (i := 11) rfl)
  have p0 : ck_lk E 65 (0 + 0) = 0 + (1 * σ 4 + 0) := (hP _ (List.mem_of_getElem? (i := 0) rfl)).2.2
  have q0 : (0 : Int) ≤ 0 + 0 := (hP _ (List.mem_of_getElem? (i := 0) rfl)).2.1
  have p1 : ck_lk E 105 (0 + (20000 * σ 2 + (1 * σ 3 + 0))) = 0 + (1 * σ 5 + 0) := (hP _ (List.mem_of_getElem? (i := 1) rfl)).2.2
  have q1 : (0 : Int) ≤ 0 + (20000 * σ 2 + (1 * σ 3 + 0)) := (hP _ (List.mem_of_getElem? (i := 1) rfl)).2.1
  have p2 : ck_lk E 104 (0 + (6 * σ 0 + (1 * σ 1 + 0))) = 0 + (1 * σ 6 + 0) := (hP _ (List.mem_of_getElem? (i := 2) rfl)).2.2
  have q2 : (0 : Int) ≤ 0 + (6 * σ 0 + (1 * σ 1 + 0)) := (hP _ (List.mem_of_getElem? (i := 2) rfl)).2.1
  have p3 : ck_lk E 84 (100000 + (1 * σ 0 + (1000000 * σ 1 + (1 * σ 3 + 0)))) = 0 + (1 * σ 7 + 0) := (hP _ (List.mem_of_getElem? (i := 3) rfl)).2.2
  have q3 : (0 : Int) ≤ 100000 + (1 * σ 0 + (1000000 * σ 1 + (1 * σ 3 + 0))) := (hP _ (List.mem_of_getElem? (i := 3) rfl)).2.1
  have p4 : ck_lk E 85 (100000 + (1 * σ 0 + (1000000 * σ 1 + (1 * σ 3 + 0)))) = 0 + (1 * σ 8 + 0) := (hP _ (List.mem_of_getElem? (i := 4) rfl)).2.2
  have q4 : (0 : Int) ≤ 100000 + (1 * σ 0 + (1000000 * σ 1 + (1 * σ 3 + 0))) := (hP _ (List.mem_of_getElem? (i := 4) rfl)).2.1
  have p5 : ck_lk E 79 (0 + (6 * σ 0 + (6 * σ 7 + (1 * σ 8 + 0)))) = 0 + (1 * σ 9 + 0) := (hP _ (List.mem_of_getElem? (i := 5) rfl)).2.2
  have q5 : (0 : Int) ≤ 0 + (6 * σ 0 + (6 * σ 7 + (1 * σ 8 + 0))) := (hP _ (List.mem_of_getElem? (i := 5) rfl)).2.1
  have p6 : ck_lk E 79 (0 + (6 * σ 0 + (1 * σ 1 + 0))) = 0 + (1 * σ 10 + 0) := (hP _ (List.mem_of_getElem? (i := 6) rfl)).2.2
  have q6 : (0 : Int) ≤ 0 + (6 * σ 0 + (1 * σ 1 + 0)) := (hP _ (List.mem_of_getElem? (i := 6) rfl)).2.1
  have key : (∃ v0 : Int, (0 : Int) ≤ 0 + (1 * v0 + 0) ∧ (0 : Int) ≤ 0 + (1 * σ 6 + ((-1) * v0 + 0)) ∧ ((0 : Int) ≤ 6 + (6 * σ 0 + (1 * σ 1 + 0)) ∧ ck_lk E 104 (6 + (6 * σ 0 + (1 * σ 1 + 0))) = 0 + (1 * v0 + 0)) ∧ True) := by
    rw [kc (i := 0) (by decide) (by decide)] at p0
    rw [k105 (i := -1) (r := 0) (sb := σ 2) (t := σ 3) (by omega) (by omega) (by omega) (by omega) (by omega) (by omega) (by omega)] at p1
    have hG := cb_ge p1 (by omega)
    have hb := vf_rfb hgi
    have hrf : vf_rf E = σ 4 := by unfold vf_rf; omega
    rw [k104 (i := σ 0) (r := σ 1) (by omega) (by omega) (by omega)] at p2
    rw [k84 (r := σ 1) (t := σ 3 + σ 0) (by omega) (by omega) (by omega)] at p3
    have hm := vf_fmono hG
    have hf := hG (σ 0) (σ 1) (by omega) (by omega) (by omega) (by omega) (Or.inl (by omega))
    unfold vf_fe at hf
    rw [k85 (r := σ 1) (t := σ 3 + σ 0) (by omega) (by omega) (by omega)] at p4
    have z5 : ck_lk E 79 (0 + (6 * σ 0 + (6 * σ 7 + (1 * σ 8 + 0)))) = vf_few E (σ 0 + σ 7) (σ 8) := kc (by decide) (by omega)
    have z6 : ck_lk E 79 (0 + (6 * σ 0 + (1 * σ 1 + 0))) = vf_few E (σ 0) (σ 1) := kc (by decide) (by omega)
    rw [z5] at p5
    rw [z6] at p6
    rw [p3, p4, show σ 0 + (0 + (1 * σ 7 + 0)) = σ 0 + σ 7 by omega, show 0 + (1 * σ 8 + 0) = σ 8 by omega] at hf
    have he : vf_few E (σ 0) (σ 1) = vf_few E (σ 0 + 1) (σ 1) := by
      rcases hf with ⟨a, -⟩ | ⟨a, b, c, d⟩
      · exact a
      · exfalso
        omega
    have key9 := vf_cnt_le (f := fun r => vf_few E (σ 0) r) (f' := fun r => vf_few E (σ 0 + 1) r) (v := vf_few E (σ 0) (σ 1)) (v' := vf_few E (σ 0 + 1) (σ 1)) (vf_rf E).toNat (fun r r0 r1 hr => by
      have h1 := hm (σ 0) r 1 (by omega) (by omega) r0 (by omega)
      have h1 : vf_few E (σ 0) r ≤ vf_few E (σ 0 + 1) r := h1
      have hr : vf_few E (σ 0 + 1) r < vf_few E (σ 0 + 1) (σ 1) := hr
      show vf_few E (σ 0) r < vf_few E (σ 0) (σ 1)
      omega)
    have key8 := vf_cnt_nn (f := fun r => vf_few E (σ 0 + 1) r) (v := vf_few E (σ 0 + 1) (σ 1)) (vf_rf E).toNat
    refine ⟨vf_cnt (fun r => vf_few E (σ 0 + 1) r) (vf_few E (σ 0 + 1) (σ 1)) (vf_rf E).toNat, by omega, by omega, ⟨by omega, ?_⟩, trivial⟩
    rw [k104 (i := σ 0 + 1) (r := σ 1) (by omega) (by omega) (by omega)]
    omega
  obtain ⟨v0, k0, k1, k2, -⟩ := key
  exact ⟨_, (List.mem_of_getElem? (i := 0) rfl), (fun i => if i = 11 then v0 else σ i), (fun i hi => by show (if i = 11 then v0 else σ i) = σ i; rw [if_neg (show ¬ i = 11 by have : i < 11 := hi; omega)]), (List.forall_mem_cons.mpr ⟨k0, (List.forall_mem_cons.mpr ⟨k1, (fun _ h => absurd h List.not_mem_nil)⟩)⟩), (fun f hf => ck_wb_ok (List.all_eq_true.mp (show List.all _ (ck_wb 12) = true from rfl) f hf)), trivial, (List.forall_mem_cons.mpr ⟨⟨⟨ck_wb_ok rfl, ck_wb_ok rfl⟩, k2⟩, (fun _ h => absurd h List.not_mem_nil)⟩), (fun _ h => absurd h List.not_mem_nil)⟩
theorem ccN1d {l : Launch} {D : va_G} {kp : Nat → ClassId} : ck_con l D kp ck_NN ceN1d := ck_con_g rfl rpN1d
theorem rpN2 : ck_gcon ceN2 := by
  intro σ E hgi hF hP hΦ
  have f0 : (0 : Int) ≤ 0 + (1 * σ 0 + 0) := hF _ (List.mem_of_getElem? (i := 0) rfl)
  have f1 : (0 : Int) ≤ (-1) + ((-1) * σ 0 + (1 * σ 2 + 0)) := hF _ (List.mem_of_getElem? (i := 1) rfl)
  have f2 : (0 : Int) ≤ 0 + (1 * σ 1 + 0) := hF _ (List.mem_of_getElem? (i := 2) rfl)
  have f3 : (0 : Int) ≤ (-1) + ((-1) * σ 1 + (1 * σ 4 + 0)) := hF _ (List.mem_of_getElem? (i := 3) rfl)
  have f4 : (0 : Int) ≤ 0 + (1 * σ 2 + 0) := hF _ (List.mem_of_getElem? (i := 4) rfl)
  have f5 : (0 : Int) ≤ 5390 + ((-1) * σ 2 + 0) := hF _ (List.mem_of_getElem? (i := 5) rfl)
  have f6 : (0 : Int) ≤ 0 + (1 * σ 3 + 0) := hF _ (List.mem_of_getElem? (i := 6) rfl)
  have f7 : (0 : Int) ≤ 9999 + ((-1) * σ 3 + 0) := hF _ (List.mem_of_getElem? (i := 7) rfl)
  have f8 : (0 : Int) ≤ (-1) + (1 * σ 5 + 0) := hF _ (List.mem_of_getElem? (i := 8) rfl)
  have f9 : (0 : Int) ≤ (-1) + (1 * σ 7 + 0) := hF _ (List.mem_of_getElem? (i := 9) rfl)
  have f10 : (0 : Int) ≤ 0 + ((-1) * σ 0 + (1 * σ 2 + ((-1) * σ 7 + 0))) := hF _ (List.mem_of_getElem? (i := 10) rfl)
  have f11 : (0 : Int) ≤ (-1) + ((-1) * σ 9 + (1 * σ 10 + 0)) := hF _ (List.mem_of_getElem? (i := 11) rfl)
  have f12 : (0 : Int) ≤ 1 + (1 * σ 9 + ((-1) * σ 10 + 0)) := hF _ (List.mem_of_getElem? (i := 12) rfl)
  have f13 : (0 : Int) ≤ 0 + (1 * σ 8 + 0) := hF _ (List.mem_of_getElem? (i := 13) rfl)
  have f14 : (0 : Int) ≤ (-1) + (1 * σ 4 + ((-1) * σ 8 + 0)) := hF _ (List.mem_of_getElem? (i := 14) rfl)
  have p0 : ck_lk E 65 (0 + 0) = 0 + (1 * σ 4 + 0) := (hP _ (List.mem_of_getElem? (i := 0) rfl)).2.2
  have q0 : (0 : Int) ≤ 0 + 0 := (hP _ (List.mem_of_getElem? (i := 0) rfl)).2.1
  have p1 : ck_lk E 105 (0 + (20000 * σ 2 + (1 * σ 3 + 0))) = 0 + (1 * σ 5 + 0) := (hP _ (List.mem_of_getElem? (i := 1) rfl)).2.2
  have q1 : (0 : Int) ≤ 0 + (20000 * σ 2 + (1 * σ 3 + 0)) := (hP _ (List.mem_of_getElem? (i := 1) rfl)).2.1
  have p2 : ck_lk E 104 (0 + (6 * σ 0 + (1 * σ 1 + 0))) = 0 + (1 * σ 6 + 0) := (hP _ (List.mem_of_getElem? (i := 2) rfl)).2.2
  have q2 : (0 : Int) ≤ 0 + (6 * σ 0 + (1 * σ 1 + 0)) := (hP _ (List.mem_of_getElem? (i := 2) rfl)).2.1
  have p3 : ck_lk E 84 (100000 + (1 * σ 0 + (1000000 * σ 1 + (1 * σ 3 + 0)))) = 0 + (1 * σ 7 + 0) := (hP _ (List.mem_of_getElem? (i := 3) rfl)).2.2
  have q3 : (0 : Int) ≤ 100000 + (1 * σ 0 + (1000000 * σ 1 + (1 * σ 3 + 0))) := (hP _ (List.mem_of_getElem? (i := 3) rfl)).2.1
  have p4 : ck_lk E 85 (100000 + (1 * σ 0 + (1000000 * σ 1 + (1 * σ 3 + 0)))) = 0 + (1 * σ 8 + 0) := (hP _ (List.mem_of_getElem? (i := 4) rfl)).2.2
  have q4 : (0 : Int) ≤ 100000 + (1 * σ 0 + (1000000 * σ 1 + (1 * σ 3 + 0))) := (hP _ (List.mem_of_getElem? (i := 4) rfl)).2.1
  have p5 : ck_lk E 79 (0 + (6 * σ 0 + (6 * σ 7 + (1 * σ 8 + 0)))) = 0 + (1 * σ 9 + 0) := (hP _ (List.mem_of_getElem? (i := 5) rfl)).2.2
  have q5 : (0 : Int) ≤ 0 + (6 * σ 0 + (6 * σ 7 + (1 * σ 8 + 0))) := (hP _ (List.mem_of_getElem? (i := 5) rfl)).2.1
  have p6 : ck_lk E 79 (0 + (6 * σ 0 + (1 * σ 1 + 0))) = 0 + (1 * σ 10 + 0) := (hP _ (List.mem_of_getElem? (i := 6) rfl)).2.2
  have q6 : (0 : Int) ≤ 0 + (6 * σ 0 + (1 * σ 1 + 0)) := (hP _ (List.mem_of_getElem? (i := 6) rfl)).2.1
  have key : (∃ v0 : Int, (0 : Int) ≤ 0 + (1 * v0 + 0) ∧ (0 : Int) ≤ (-1) + (1 * σ 6 + ((-1) * v0 + 0)) ∧ ((0 : Int) ≤ 0 + (6 * σ 0 + (6 * σ 7 + (1 * σ 8 + 0))) ∧ ck_lk E 104 (0 + (6 * σ 0 + (6 * σ 7 + (1 * σ 8 + 0)))) = 0 + (1 * v0 + 0)) ∧ True) := by
    rw [kc (i := 0) (by decide) (by decide)] at p0
    rw [k105 (i := -1) (r := 0) (sb := σ 2) (t := σ 3) (by omega) (by omega) (by omega) (by omega) (by omega) (by omega) (by omega)] at p1
    have hG := cb_ge p1 (by omega)
    have hb := vf_rfb hgi
    have hrf : vf_rf E = σ 4 := by unfold vf_rf; omega
    rw [k104 (i := σ 0) (r := σ 1) (by omega) (by omega) (by omega)] at p2
    rw [k84 (r := σ 1) (t := σ 3 + σ 0) (by omega) (by omega) (by omega)] at p3
    have hm := vf_fmono hG
    have hf := hG (σ 0) (σ 1) (by omega) (by omega) (by omega) (by omega) (Or.inl (by omega))
    unfold vf_fe at hf
    rw [k85 (r := σ 1) (t := σ 3 + σ 0) (by omega) (by omega) (by omega)] at p4
    have z5 : ck_lk E 79 (0 + (6 * σ 0 + (6 * σ 7 + (1 * σ 8 + 0)))) = vf_few E (σ 0 + σ 7) (σ 8) := kc (by decide) (by omega)
    have z6 : ck_lk E 79 (0 + (6 * σ 0 + (1 * σ 1 + 0))) = vf_few E (σ 0) (σ 1) := kc (by decide) (by omega)
    rw [z5] at p5
    rw [z6] at p6
    rw [p3, p4, show σ 0 + (0 + (1 * σ 7 + 0)) = σ 0 + σ 7 by omega, show 0 + (1 * σ 8 + 0) = σ 8 by omega] at hf
    have hd := hm (σ 0) (σ 8) (σ 7).toNat (by omega) (by omega) (by omega) (by omega)
    rw [show σ 0 + ((σ 7).toNat : Int) = σ 0 + σ 7 by omega] at hd
    have key9 := vf_cnt_lt (f := fun r => vf_few E (σ 0) r) (f' := fun r => vf_few E (σ 0 + σ 7) r) (v := vf_few E (σ 0) (σ 1)) (v' := vf_few E (σ 0 + σ 7) (σ 8)) (r0 := σ 8) (by omega) (by show vf_few E (σ 0) (σ 8) < vf_few E (σ 0) (σ 1); omega) (by show ¬ vf_few E (σ 0 + σ 7) (σ 8) < vf_few E (σ 0 + σ 7) (σ 8); omega) (vf_rf E).toNat (by omega) (fun r r0 r1 hr => by
      have h1 := hm (σ 0) r (σ 7).toNat (by omega) (by omega) r0 (by omega)
      rw [show σ 0 + ((σ 7).toNat : Int) = σ 0 + σ 7 by omega] at h1
      have hr : vf_few E (σ 0 + σ 7) r < vf_few E (σ 0 + σ 7) (σ 8) := hr
      show vf_few E (σ 0) r < vf_few E (σ 0) (σ 1)
      omega)
    have key8 := vf_cnt_nn (f := fun r => vf_few E (σ 0 + σ 7) r) (v := vf_few E (σ 0 + σ 7) (σ 8)) (vf_rf E).toNat
    refine ⟨vf_cnt (fun r => vf_few E (σ 0 + σ 7) r) (vf_few E (σ 0 + σ 7) (σ 8)) (vf_rf E).toNat, by omega, by omega, ⟨by omega, ?_⟩, trivial⟩
    rw [k104 (i := σ 0 + σ 7) (r := σ 8) (by omega) (by omega) (by omega)]
    omega
  obtain ⟨v0, k0, k1, k2, -⟩ := key
  exact ⟨_, (List.mem_of_getElem? (i := 0) rfl), (fun i => if i = 11 then v0 else σ i), (fun i hi => by show (if i = 11 then v0 else σ i) = σ i; rw [if_neg (show ¬ i = 11 by have : i < 11 := hi; omega)]), (List.forall_mem_cons.mpr ⟨k0, (List.forall_mem_cons.mpr ⟨k1, (fun _ h => absurd h List.not_mem_nil)⟩)⟩), (fun f hf => ck_wb_ok (List.all_eq_true.mp (show List.all _ (ck_wb 12) = true from rfl) f hf)), trivial, (List.forall_mem_cons.mpr ⟨⟨⟨ck_wb_ok rfl, ck_wb_ok rfl⟩, k2⟩, (fun _ h => absurd h List.not_mem_nil)⟩), (fun _ h => absurd h List.not_mem_nil)⟩
theorem ccN2 {l : Launch} {D : va_G} {kp : Nat → ClassId} : ck_con l D kp ck_NN ceN2 := ck_con_g rfl rpN2
theorem rpWRv : ck_gcon ceWRv := by
  intro σ E hgi hF hP hΦ
  have f0 : (0 : Int) ≤ (-1) + (1 * σ 2 + 0) := hF _ (List.mem_of_getElem? (i := 0) rfl)
  have f1 : (0 : Int) ≤ 0 + (1 * σ 0 + 0) := hF _ (List.mem_of_getElem? (i := 1) rfl)
  have f2 : (0 : Int) ≤ (-1) + ((-1) * σ 0 + (1 * σ 3 + 0)) := hF _ (List.mem_of_getElem? (i := 2) rfl)
  have f3 : (0 : Int) ≤ 1000 + (1 * σ 1 + 0) := hF _ (List.mem_of_getElem? (i := 3) rfl)
  have f4 : (0 : Int) ≤ 800000 + ((-1) * σ 1 + 0) := hF _ (List.mem_of_getElem? (i := 4) rfl)
  have p0 : ck_lk E 108 (0 + 0) = 0 + (1 * σ 2 + 0) := (hP _ (List.mem_of_getElem? (i := 0) rfl)).2.2
  have q0 : (0 : Int) ≤ 0 + 0 := (hP _ (List.mem_of_getElem? (i := 0) rfl)).2.1
  have p1 : ck_lk E 65 (0 + 0) = 0 + (1 * σ 3 + 0) := (hP _ (List.mem_of_getElem? (i := 1) rfl)).2.2
  have q1 : (0 : Int) ≤ 0 + 0 := (hP _ (List.mem_of_getElem? (i := 1) rfl)).2.1
  have p2 : ck_lk E 85 (100000 + (1000000 * σ 0 + (1 * σ 1 + 0))) = 0 + (1 * σ 4 + 0) := (hP _ (List.mem_of_getElem? (i := 2) rfl)).2.2
  have q2 : (0 : Int) ≤ 100000 + (1000000 * σ 0 + (1 * σ 1 + 0)) := (hP _ (List.mem_of_getElem? (i := 2) rfl)).2.1
  have g0 : ck_FL 0 E := hΦ _ (List.mem_of_getElem? (i := 0) rfl)
  have key : ((0 : Int) ≤ 0 + (1 * σ 4 + 0) ∧ (0 : Int) ≤ (-1) + (1 * σ 3 + ((-1) * σ 4 + 0)) ∧ True) := by
    rw [k108 (c := 0) (by decide)] at p0
    obtain ⟨ha, -⟩ := cb_ge p0 (by omega)
    rw [kc (i := 0) (by decide) (by decide)] at p1
    rw [k85 (r := σ 0) (t := σ 1) (by omega) (by omega) (by omega)] at p2
    have hb := vf_65 hgi (c := 0) (by decide) (by decide)
    have h1 := vf_per1 g0 (by omega) (σ 0) (by omega) (by omega)
    have b4 := vf_gb hgi (r := σ 0) (t := σ 1) (by omega) (by omega) h1
    have m1 := Int.emod_nonneg (σ 1) (show ck_loc (E 67) (σ 0) ≠ 0 by omega)
    have m2 := Int.emod_lt_of_pos (σ 1) (show 0 < ck_loc (E 67) (σ 0) by omega)
    have h2 := ha (σ 0) (σ 1 % ck_loc (E 67) (σ 0)) (by omega) (by omega) (by omega) m1 (by rw [show 6 * 0 + σ 0 = σ 0 by omega]; exact m2)
    rw [show 48 * 0 + 8 * σ 0 + σ 1 % ck_loc (E 67) (σ 0) = 8 * σ 0 + σ 1 % ck_loc (E 67) (σ 0) by omega] at h2
    unfold vf_g at p2
    exact ⟨by unfold vf_g at b4; omega, by omega, trivial⟩
  obtain ⟨k0, k1, -⟩ := key
  exact ⟨_, (List.mem_of_getElem? (i := 0) rfl), σ, ck_ag_rf, (List.forall_mem_cons.mpr ⟨k0, (List.forall_mem_cons.mpr ⟨k1, (fun _ h => absurd h List.not_mem_nil)⟩)⟩), (fun f hf => ck_wb_ok (List.all_eq_true.mp (show List.all _ (ck_wb 5) = true from rfl) f hf)), trivial, (fun _ h => absurd h List.not_mem_nil), (fun _ h => absurd h List.not_mem_nil)⟩
theorem ccWRv {l : Launch} {D : va_G} {kp : Nat → ClassId} : ck_con l D kp ck_NN ceWRv := ck_con_g rfl rpWRv
