/-! THE RULES: what a state shows besides, by hand -/
theorem ck_con_g {l : Launch} {D : va_G} {kp : Nat → ClassId} {N : jv_N} {e : ck_N} (h : e.1 = 9999) (hg : ck_gcon e) : ck_con l D kp N e := by
  unfold ck_con; rw [if_pos h]; exact hg
theorem ck_con_s {l : Launch} {D : va_G} {kp : Nat → ClassId} {N : jv_N} {e : ck_N} {k : Nat} (h : e.1 = 10000 + k) (hg : ck_scon e k) : ck_con l D kp N e := by
  unfold ck_con; rw [if_neg (by omega), if_pos (by omega), show e.1 - 10000 = k by omega]; exact hg
theorem k84 {E : Nat → jv_E} {p r t : Int} (h : p = 1000000 * r + t + 100000) (h1 : -100000 ≤ t) (h2 : t < 900000) : ck_lk E 84 p = vf_h E r t := by
  rw [ck_lk_v (by decide)]
  show vf_h E (p / 1000000) (p % 1000000 - 100000) = _
  rw [show p / 1000000 = r by omega, show p % 1000000 - 100000 = t by omega]
theorem k85 {E : Nat → jv_E} {p r t : Int} (h : p = 1000000 * r + t + 100000) (h1 : -100000 ≤ t) (h2 : t < 900000) : ck_lk E 85 p = vf_g E r t := by
  rw [ck_lk_v (by decide)]
  show vf_g E (p / 1000000) (p % 1000000 - 100000) = _
  rw [show p / 1000000 = r by omega, show p % 1000000 - 100000 = t by omega]
theorem k86 {E : Nat → jv_E} {p r t : Int} (h : p = 1000000 * r + t + 100000) (h1 : -100000 ≤ t) (h2 : t < 900000) : ck_lk E 86 p = 8 * r + t % ck_loc (E 67) r := by
  rw [ck_lk_v (by decide)]
  show 8 * (p / 1000000) + (p % 1000000 - 100000) % ck_loc (E 67) (p / 1000000) = _
  rw [show p / 1000000 = r by omega, show p % 1000000 - 100000 = t by omega]
theorem k87 {E : Nat → jv_E} (p : Int) : ck_lk E 87 p = (vf_lc E (vf_rf E).toNat : Int) := ck_lk_v (by decide) p
theorem k88 {E : Nat → jv_E} (p : Int) : ck_lk E 88 p = (vf_lc E p.toNat : Int) := ck_lk_v (by decide) p
theorem k90 {E : Nat → jv_E} {p t r q h : Int} (hp : p = 770 * t + 77 * r + 11 * q + h + 770000) (h1 : 0 ≤ r) (h2 : r ≤ 5) (h3 : 0 ≤ q) (h4 : q ≤ 6) (h5 : 0 ≤ h) (h6 : h ≤ 10) : ck_lk E 90 p = vf_cd E t r q h := by
  rw [ck_lk_v (by decide)]
  show vf_cd E (p / 770 - 1000) (p / 77 % 10) (p % 77 / 11) (p % 11) = _
  rw [show p / 770 - 1000 = t by omega, show p / 77 % 10 = r by omega, show p % 77 / 11 = q by omega, show p % 11 = h by omega]
theorem k91 {E : Nat → jv_E} {p r t : Int} (h : p = 1000000 * r + t + 100000) (h1 : -100000 ≤ t) (h2 : t < 900000) : ck_lk E 91 p = cb (vf_from E r t) := by
  rw [ck_lk_v (by decide)]
  show cb (vf_from E (p / 1000000) (p % 1000000 - 100000)) = _
  rw [show p / 1000000 = r by omega, show p % 1000000 - 100000 = t by omega]
theorem k201 {E : Nat → jv_E} {p a b : Int} (h : p = 4294967296 * a + b + 9223372036854775808) (h1 : 0 ≤ b) (h2 : b < 4294967296) : ck_lk E 201 p = a.tmod b := by
  rw [ck_lk_v (by decide)]
  show (p / 4294967296 - 2147483648).tmod (p % 4294967296) = _
  rw [show p / 4294967296 - 2147483648 = a by omega, show p % 4294967296 = b by omega]
theorem k202 {E : Nat → jv_E} {p m n : Int} (h : p = 1000000 * m + n) (h1 : 0 ≤ n) (h2 : n < 1000000) : ck_lk E 202 p = cb (n ∣ m) := by
  rw [ck_lk_v (by decide)]
  show cb (p % 1000000 ∣ p / 1000000) = _
  rw [show p / 1000000 = m by omega, show p % 1000000 = n by omega]
/-- the bounds of an int array's places -/
theorem ck_ib {E : Nat → jv_E} {k t z : Nat} {lo hi : Int} (h : ck_gi E) (hk : ck_CT[k]? = some (.inr (.inl (t, z, [(lo, hi)])))) (ht : ¬ t = 3) {i : Int} (h0 : 0 ≤ i) (h1 : i < z) : lo ≤ ck_loc (E k) i ∧ ck_loc (E k) i ≤ hi := by
  obtain ⟨g, he, hb⟩ := (ck_okI ht).mp (h k _ hk)
  have := hb i.toNat (by omega)
  unfold ck_bd at this
  rw [show [(lo, hi)].length = 1 from rfl, Nat.mod_one] at this
  rw [he]
  exact this
theorem vf_per {E : Nat → jv_E} (h : ck_gi E) {r : Int} (h0 : 0 ≤ r) (h1 : r ≤ 5) : 0 ≤ ck_loc (E 67) r ∧ ck_loc (E 67) r ≤ 8 := ck_ib h (k := 67) (t := 0) (z := 36) rfl (by decide) h0 (by show r < 36; omega)
theorem vf_hb {E : Nat → jv_E} (h : ck_gi E) {r t : Int} (h0 : 0 ≤ r) (h1 : r ≤ 5) (hp : 1 ≤ ck_loc (E 67) r) : 0 ≤ vf_h E r t ∧ vf_h E r t ≤ 9 := by
  have hb := vf_per h h0 h1
  have e1 := Int.emod_nonneg t (show ck_loc (E 67) r ≠ 0 by omega)
  have e2 := Int.emod_lt_of_pos t (show 0 < ck_loc (E 67) r by omega)
  exact ck_ib h (k := 68) (t := 0) (z := 288) rfl (by decide) (by omega) (by show _ < (288 : Int); omega)
theorem vf_gb {E : Nat → jv_E} (h : ck_gi E) {r t : Int} (h0 : 0 ≤ r) (h1 : r ≤ 5) (hp : 1 ≤ ck_loc (E 67) r) : 0 ≤ vf_g E r t ∧ vf_g E r t ≤ 5 := by
  have hb := vf_per h h0 h1
  have e1 := Int.emod_nonneg t (show ck_loc (E 67) r ≠ 0 by omega)
  have e2 := Int.emod_lt_of_pos t (show 0 < ck_loc (E 67) r by omega)
  exact ck_ib h (k := 69) (t := 0) (z := 288) rfl (by decide) (by omega) (by show _ < (288 : Int); omega)
theorem kc {E : Nat → jv_E} {k : Nat} {p i : Int} (hk : k < 84) (hp : p = i) : ck_lk E k p = ck_loc (E k) i := by rw [ck_lk_c hk, hp]
theorem cb_ge {P : Prop} {v : Int} (h : cb P = v) (h1 : 1 ≤ v) : P := cb_1 (by have := cb_le P; omega)
theorem vf_rfb {E : Nat → jv_E} (h : ck_gi E) : 0 ≤ vf_rf E ∧ vf_rf E ≤ 6 := ck_ib h (k := 65) (t := 0) (z := 6) rfl (by decide) (Int.le_refl _) (by decide)
theorem vf_840 : ∀ p, 1 ≤ p → p ≤ 8 → p ∣ 840 := by
  intro p h1 h2
  match p, h1, h2 with
  | 1, _, _ => decide
  | 2, _, _ => decide
  | 3, _, _ => decide
  | 4, _, _ => decide
  | 5, _, _ => decide
  | 6, _, _ => decide
  | 7, _, _ => decide
  | 8, _, _ => decide
theorem vf_lc840 {E : Nat → jv_E} (h : ck_gi E) : ∀ m, m ≤ 6 → 0 < vf_lc E m → vf_lc E m ∣ 840
  | 0, _, _ => by show 1 ∣ 840; exact Nat.one_dvd 840
  | m + 1, hm, hp => by
    have e : vf_lc E (m + 1) = Nat.lcm (vf_lc E m) (ck_loc (E 67) (m : Int)).toNat := rfl
    rw [e] at hp ⊢
    have h1 : 0 < vf_lc E m := Nat.pos_of_ne_zero (fun q => by rw [q, Nat.lcm_zero_left] at hp; omega)
    have h2 : 0 < (ck_loc (E 67) (m : Int)).toNat := Nat.pos_of_ne_zero (fun q => by rw [q, Nat.lcm_zero_right] at hp; omega)
    have h3 := vf_per h (r := (m : Int)) (by omega) (by omega)
    exact Nat.lcm_dvd (vf_lc840 h m (by omega) h1) (vf_840 _ h2 (by omega))
theorem vf_lcd {E : Nat → jv_E} : ∀ (m k : Nat), k < m → (ck_loc (E 67) (k : Int)).toNat ∣ vf_lc E m
  | 0, k, h => absurd h (Nat.not_lt_zero k)
  | m + 1, k, h => by
    have e : vf_lc E (m + 1) = Nat.lcm (vf_lc E m) (ck_loc (E 67) (m : Int)).toNat := rfl
    rw [e]
    by_cases hk : k = m
    · rw [hk]; exact Nat.dvd_lcm_right _ _
    · exact Nat.dvd_trans (vf_lcd m k (by omega)) (Nat.dvd_lcm_left _ _)
theorem vf_cd1 {E : Nat → jv_E} {t r q h : Int} (h1 : 1 ≤ h) : vf_cd E t r q (h + 1) = vf_cd E t r q h + vf_b E t r q h := by
  unfold vf_cd
  obtain ⟨k, rfl⟩ : ∃ k : Nat, h = (k : Int) + 1 := ⟨(h - 1).toNat, by omega⟩
  rw [show ((k : Int) + 1 + 1 - 1).toNat = k + 1 by omega, show ((k : Int) + 1 - 1).toNat = k by omega]
  show _ + (vf_cs E t r q k + vf_b E t r q ((k : Int) + 1)) = _
  omega
theorem vf_cd10 {E : Nat → jv_E} {t r q : Int} (h1 : 0 ≤ q) : vf_cd E t r (q + 1) 1 = vf_cd E t r q 10 := by
  unfold vf_cd
  obtain ⟨k, rfl⟩ : ∃ k : Nat, q = (k : Int) := ⟨q.toNat, by omega⟩
  rw [show ((k : Int) + 1).toNat = k + 1 by omega, show ((k : Int)).toNat = k by omega]
  show (vf_cq E t r k + vf_cs E t r (k : Int) 9) + 0 = vf_cq E t r k + vf_cs E t r (k : Int) 9
  omega
theorem vf_cs_pos {E : Nat → jv_E} {t r q : Int} : ∀ n : Nat, 1 ≤ vf_cs E t r q n → ∃ h : Int, 1 ≤ h ∧ h ≤ n ∧ vf_h E q (t - h) = h ∧ vf_g E q (t - h) = r
  | 0, h => by have : (1 : Int) ≤ 0 := h; omega
  | n + 1, h => by
    have h : 1 ≤ vf_cs E t r q n + vf_b E t r q ((n : Int) + 1) := h
    by_cases hb : vf_h E q (t - ((n : Int) + 1)) = (n : Int) + 1 ∧ vf_g E q (t - ((n : Int) + 1)) = r
    · exact ⟨(n : Int) + 1, by omega, by omega, hb.1, hb.2⟩
    · have e : vf_b E t r q ((n : Int) + 1) = 0 := by unfold vf_b; rw [if_neg hb]
      obtain ⟨h9, a, b, c⟩ := vf_cs_pos (E := E) (t := t) (r := r) (q := q) n (by omega)
      exact ⟨h9, a, by omega, c⟩
theorem vf_cq_pos {E : Nat → jv_E} {t r : Int} : ∀ n : Nat, 1 ≤ vf_cq E t r n → ∃ q h : Int, 0 ≤ q ∧ q < n ∧ 1 ≤ h ∧ h ≤ 9 ∧ vf_h E q (t - h) = h ∧ vf_g E q (t - h) = r
  | 0, h => by have : (1 : Int) ≤ 0 := h; omega
  | n + 1, h => by
    have h : 1 ≤ vf_cq E t r n + vf_cs E t r (n : Int) 9 := h
    by_cases hb : 1 ≤ vf_cs E t r (n : Int) 9
    · obtain ⟨h9, a, b, c⟩ := vf_cs_pos 9 hb
      exact ⟨n, h9, by omega, by omega, a, b, c⟩
    · obtain ⟨q, h9, a, b, c⟩ := vf_cq_pos (E := E) (t := t) (r := r) n (by omega)
      exact ⟨q, h9, a, by omega, c⟩
theorem vf_hp {E : Nat → jv_E} {r t a k : Int} (h : ck_loc (E 67) r ∣ a) : vf_h E r (t + a * k) = vf_h E r t := by
  unfold vf_h
  obtain ⟨c, rfl⟩ := h
  rw [Int.mul_assoc, Int.add_mul_emod_self_left]
theorem vf_gp {E : Nat → jv_E} {r t a k : Int} (h : ck_loc (E 67) r ∣ a) : vf_g E r (t + a * k) = vf_g E r t := by
  unfold vf_g
  obtain ⟨c, rfl⟩ := h
  rw [Int.mul_assoc, Int.add_mul_emod_self_left]
theorem vf_pd {E : Nat → jv_E} (hg : ck_gi E) {r : Int} (h0 : 0 ≤ r) (h1 : r < vf_rf E) : ck_loc (E 67) r ∣ (vf_lc E (vf_rf E).toNat : Int) := by
  have hb := vf_rfb hg
  have hp := vf_per hg h0 (by omega)
  have := vf_lcd (E := E) (vf_rf E).toNat r.toNat (by omega)
  rw [Int.toNat_of_nonneg h0] at this
  have h2 := Int.ofNat_dvd.mpr this
  rw [Int.toNat_of_nonneg hp.1] at h2
  exact h2
theorem vf_p1 {E : Nat → jv_E} (hg : ck_gi E) {r : Int} (h0 : 0 ≤ r) (h1 : r < vf_rf E) (hA : 1 ≤ (vf_lc E (vf_rf E).toNat : Int)) : 1 ≤ ck_loc (E 67) r := by
  have hb := vf_rfb hg
  have hp := vf_per hg h0 (by omega)
  have h2 := vf_pd hg h0 h1
  by_cases h3 : ck_loc (E 67) r = 0
  · rw [h3] at h2
    obtain ⟨c, hc⟩ := h2
    rw [Int.zero_mul] at hc
    omega
  · omega
theorem vf_pig : ∀ (N : Nat) (c : Nat → Nat), (∀ i, i ≤ N → c i < N) → ∃ i j, i < j ∧ j ≤ N ∧ c i = c j
  | 0, c, h => absurd (h 0 (Nat.le_refl 0)) (Nat.not_lt_zero _)
  | N + 1, c, h => by
    by_cases hx : ∃ i, i ≤ N ∧ c i = c (N + 1)
    · obtain ⟨i, hi, he⟩ := hx
      exact ⟨i, N + 1, by omega, Nat.le_refl _, he⟩
    · have hx : ∀ i, i ≤ N → c i ≠ c (N + 1) := fun i hi he => hx ⟨i, hi, he⟩
      obtain ⟨i, j, a, b, e⟩ := vf_pig N (fun i => if c (N + 1) < c i then c i - 1 else c i) (fun i hi => by
        have h1 := h i (by omega)
        have h2 := h (N + 1) (Nat.le_refl _)
        have h3 := hx i hi
        show (if c (N + 1) < c i then c i - 1 else c i) < N
        split <;> omega)
      refine ⟨i, j, a, by omega, ?_⟩
      have h1 := hx i (by omega)
      have h2 := hx j (by omega)
      have e : (if c (N + 1) < c i then c i - 1 else c i) = (if c (N + 1) < c j then c j - 1 else c j) := e
      split at e <;> split at e <;> omega
def vf_A (E : Nat → jv_E) (a : Int × Int) : Prop := 0 ≤ a.1 ∧ a.1 < vf_rf E ∧ 1 ≤ vf_h E a.1 a.2
def vf_st (E : Nat → jv_E) (a : Int × Int) : Int × Int := (vf_g E a.1 a.2, a.2 + vf_h E a.1 a.2)
def vf_ch (f : Int × Int → Int × Int) (a : Int × Int) : Nat → Int × Int
  | 0 => a
  | n + 1 => f (vf_ch f a n)
def vf_q (A : Int) (a b : Int × Int) : Prop := a.1 = b.1 ∧ ∃ k : Int, b.2 = a.2 + A * k
theorem vf_it_s {E : Nat → jv_E} : ∀ (k : Nat) (a : Int × Int), vf_it E (k + 1) a = vf_st E (vf_it E k a)
  | 0, _ => rfl
  | k + 1, a => by
    show vf_it E (k + 1) (vf_st E a) = vf_st E (vf_it E k (vf_st E a))
    exact vf_it_s k (vf_st E a)
theorem vf_q_st {E : Nat → jv_E} {A : Int} {a b : Int × Int} (hd : ck_loc (E 67) a.1 ∣ A) (h : vf_q A a b) : vf_q A (vf_st E a) (vf_st E b) ∧ vf_h E b.1 b.2 = vf_h E a.1 a.2 := by
  obtain ⟨h1, k, h2⟩ := h
  have e1 : vf_h E b.1 b.2 = vf_h E a.1 a.2 := by rw [← h1, h2, vf_hp hd]
  have e2 : vf_g E b.1 b.2 = vf_g E a.1 a.2 := by rw [← h1, h2, vf_gp hd]
  refine ⟨⟨e2.symm, k, ?_⟩, e1⟩
  show b.2 + vf_h E b.1 b.2 = a.2 + vf_h E a.1 a.2 + A * k
  rw [e1, h2]; omega
theorem vf_q_sy {A : Int} {a b : Int × Int} (h : vf_q A a b) : vf_q A b a := by
  obtain ⟨h1, k, h2⟩ := h
  exact ⟨h1.symm, -k, by rw [Int.mul_neg]; omega⟩
theorem vf_q_tr {A : Int} {a b c : Int × Int} (h : vf_q A a b) (h' : vf_q A b c) : vf_q A a c := by
  obtain ⟨h1, k, h2⟩ := h
  obtain ⟨h3, k', h4⟩ := h'
  exact ⟨h1.trans h3, k + k', by rw [Int.mul_add]; omega⟩
theorem vf_orb {E : Nat → jv_E} (hgi : ck_gi E) {r t A : Int} (h0 : 0 ≤ r) (h1 : r < vf_rf E) (hu : ∀ t r : Int, 0 ≤ r → r < vf_rf E → vf_from E r t) (hA : (vf_lc E (vf_rf E).toNat : Int) = A) (hA1 : 1 ≤ A) (hA2 : A ≤ 840) (hh : 1 ≤ vf_h E r t) :
    (∀ j : Nat, 1 ≤ vf_h E (vf_it E j (r, t)).1 (vf_it E j (r, t)).2 ∧ 1 ≤ ck_loc (E 67) (vf_it E j (r, t)).1) ∧ ∃ n : Nat, 1 ≤ n ∧ n ≤ 5040 ∧ (vf_it E n (r, t)).1 = r ∧ A ∣ (vf_it E n (r, t)).2 - t := by
  have hb6 := vf_rfb hgi
  have hpr : ∀ a : Int × Int, ∃ b : Int × Int, vf_A E a → vf_A E b ∧ vf_st E b = a := fun a => by
    by_cases ha : vf_A E a
    · obtain ⟨a1, a2, a3⟩ := ha
      obtain ⟨q, h, c1, c2, c3, c4, c5, c6⟩ := hu a.2 a.1 a1 a2 a3
      refine ⟨(q, a.2 - h), fun _ => ⟨⟨c1, c2, by show 1 ≤ vf_h E q (a.2 - h); omega⟩, ?_⟩⟩
      show (vf_g E q (a.2 - h), a.2 - h + vf_h E q (a.2 - h)) = a
      rw [c5, c6]
      exact Prod.ext rfl (by show a.2 - h + h = a.2; omega)
    · exact ⟨a, fun h => absurd h ha⟩
  obtain ⟨f, hf⟩ := Classical.axiomOfChoice hpr
  have hb : ∀ n, vf_A E (vf_ch f (r, t) n) := fun n => by
    induction n with
    | zero => exact ⟨h0, h1, hh⟩
    | succ n ih => exact (hf _ ih).1
  have hs : ∀ n, vf_st E (vf_ch f (r, t) (n + 1)) = vf_ch f (r, t) n := fun n => (hf _ (hb n)).2
  have hd : ∀ n, ck_loc (E 67) (vf_ch f (r, t) n).1 ∣ A := fun n => by rw [← hA]; exact vf_pd hgi (hb n).1 (hb n).2.1
  have c2 : ∀ i d, vf_q A (vf_ch f (r, t) i) (vf_ch f (r, t) (i + d)) → vf_q A (vf_ch f (r, t) 0) (vf_ch f (r, t) d) := fun i => by
    induction i with
    | zero => intro d h; rw [Nat.zero_add] at h; exact h
    | succ i ih =>
      intro d h
      have h2 := (vf_q_st (hd (i + 1)) h).1
      rw [hs, show i + 1 + d = (i + d) + 1 by omega, hs] at h2
      exact ih d h2
  have hcode : ∀ n, (((vf_ch f (r, t) n).1 + 6 * ((vf_ch f (r, t) n).2 % A)).toNat) < (6 * A).toNat := fun n => by
    have m1 := Int.emod_nonneg (vf_ch f (r, t) n).2 (show A ≠ 0 by omega)
    have m2 := Int.emod_lt_of_pos (vf_ch f (r, t) n).2 (show 0 < A by omega)
    have m3 := (hb n).1
    have m4 := (hb n).2.1
    omega
  obtain ⟨i, j, hij, hj, he⟩ := vf_pig (6 * A).toNat (fun n => ((vf_ch f (r, t) n).1 + 6 * ((vf_ch f (r, t) n).2 % A)).toNat) (fun n _ => hcode n)
  have he : ((vf_ch f (r, t) i).1 + 6 * ((vf_ch f (r, t) i).2 % A)).toNat = ((vf_ch f (r, t) j).1 + 6 * ((vf_ch f (r, t) j).2 % A)).toNat := he
  have hq : vf_q A (vf_ch f (r, t) i) (vf_ch f (r, t) (i + (j - i))) := by
    rw [show i + (j - i) = j by omega]
    have m1 := Int.emod_nonneg (vf_ch f (r, t) i).2 (show A ≠ 0 by omega)
    have m2 := Int.emod_nonneg (vf_ch f (r, t) j).2 (show A ≠ 0 by omega)
    have m3 := (hb i).1
    have m4 := (hb i).2.1
    have m5 := (hb j).1
    have m6 := (hb j).2.1
    have m7 := Int.emod_add_mul_ediv (vf_ch f (r, t) i).2 A
    have m8 := Int.emod_add_mul_ediv (vf_ch f (r, t) j).2 A
    refine ⟨by omega, (vf_ch f (r, t) j).2 / A - (vf_ch f (r, t) i).2 / A, ?_⟩
    rw [Int.mul_sub]
    omega
  have hn := c2 i (j - i) hq
  have hn1 : 1 ≤ j - i := by omega
  have hn2 : j - i ≤ 5040 := by omega
  generalize j - i = n at hn hn1 hn2
  have hn : vf_q A (r, t) (vf_ch f (r, t) n) := hn
  have c3 : ∀ j, ∃ i, 1 ≤ i ∧ i ≤ n ∧ vf_q A (vf_ch f (r, t) i) (vf_it E j (r, t)) := fun j => by
    induction j with
    | zero => exact ⟨n, hn1, Nat.le_refl _, vf_q_sy hn⟩
    | succ j ih =>
      obtain ⟨i, a, b, c⟩ := ih
      have c9 := (vf_q_st (hd i) c).1
      rw [← vf_it_s] at c9
      obtain ⟨i', rfl⟩ : ∃ i', i = i' + 1 := ⟨i - 1, by omega⟩
      rw [hs] at c9
      cases i' with
      | zero => exact ⟨n, hn1, Nat.le_refl _, vf_q_tr (vf_q_sy hn) c9⟩
      | succ i'' => exact ⟨i'' + 1, by omega, by omega, c9⟩
  have c4 : ∀ m, m ≤ n → vf_q A (vf_ch f (r, t) (n - m)) (vf_it E m (r, t)) := fun m => by
    induction m with
    | zero => intro _; exact vf_q_sy hn
    | succ m ih =>
      intro hm
      have c9 := (vf_q_st (hd _) (ih (by omega))).1
      rw [← vf_it_s, show n - m = (n - (m + 1)) + 1 by omega, hs] at c9
      exact c9
  refine ⟨fun j => ?_, n, hn1, hn2, ?_⟩
  · obtain ⟨i, a, b, c⟩ := c3 j
    have e := (vf_q_st (hd i) c).2
    rw [e, ← c.1]
    exact ⟨(hb i).2.2, vf_p1 hgi (hb i).1 (hb i).2.1 (by omega)⟩
  · have := c4 n (Nat.le_refl _)
    rw [Nat.sub_self] at this
    obtain ⟨a, k, b⟩ := this
    have a : r = (vf_it E n (r, t)).1 := a
    have b : (vf_it E n (r, t)).2 = t + A * k := b
    exact ⟨a.symm, k, by omega⟩
theorem vf_lst_is {Q : Nat → Prop} : ∀ (f k R : Nat), k ≤ R → R < k + f → Q R → (∀ j, k ≤ j → j < R → ¬ Q j) → vf_lst Q f k = R
  | 0, k, R, h1, h2, _, _ => absurd h2 (by omega)
  | f + 1, k, R, h1, h2, h3, h4 => by
    show (@ite Nat (Q k) (Classical.propDecidable (Q k)) k (vf_lst Q f (k + 1))) = R
    by_cases hk : k = R
    · rw [if_pos (hk ▸ h3)]; exact hk
    · rw [if_neg (h4 k (Nat.le_refl _) (by omega))]
      exact vf_lst_is f (k + 1) R (by omega) (by omega) h3 (fun j a b => h4 j (by omega) b)
theorem vf_lst_of {Q : Nat → Prop} : ∀ (f k : Nat), 1 ≤ k → 1 ≤ vf_lst Q f k → k ≤ vf_lst Q f k ∧ vf_lst Q f k < k + f ∧ Q (vf_lst Q f k) ∧ ∀ j, k ≤ j → j < vf_lst Q f k → ¬ Q j
  | 0, k, _, h => by have : 1 ≤ 0 := h; omega
  | f + 1, k, hk, h => by
    have e : vf_lst Q (f + 1) k = (@ite Nat (Q k) (Classical.propDecidable (Q k)) k (vf_lst Q f (k + 1))) := rfl
    by_cases hq : Q k
    · rw [if_pos hq] at e
      rw [e]
      exact ⟨Nat.le_refl _, by omega, hq, fun j a b => absurd b (by omega)⟩
    · rw [if_neg hq] at e
      rw [e] at h ⊢
      obtain ⟨a, b, c, d⟩ := vf_lst_of f (k + 1) (by omega) h
      refine ⟨by omega, by omega, c, fun j j1 j2 => ?_⟩
      by_cases hj : j = k
      · rw [hj]; exact hq
      · exact d j (by omega) j2
theorem vf_lst_ex {Q : Nat → Prop} {n : Nat} : ∀ (f k : Nat), 1 ≤ k → k ≤ n → n < k + f → Q n → 1 ≤ vf_lst Q f k ∧ vf_lst Q f k ≤ n
  | 0, k, _, h1, h2, _ => absurd h2 (by omega)
  | f + 1, k, hk, h1, h2, h3 => by
    have e : vf_lst Q (f + 1) k = (@ite Nat (Q k) (Classical.propDecidable (Q k)) k (vf_lst Q f (k + 1))) := rfl
    by_cases hq : Q k
    · rw [if_pos hq] at e
      rw [e]; exact ⟨hk, h1⟩
    · rw [if_neg hq] at e
      rw [e]
      have h9 : ¬ k = n := fun q => hq (q ▸ h3)
      exact vf_lst_ex (Q := Q) (n := n) f (k + 1) (by omega) (by omega) (by omega) h3
theorem k94 {E : Nat → jv_E} {p r0 t0 r t : Int} (h : p = 6000000000000 * r0 + 1000000000000 * r + 1000000 * t + t0 + 100000100000) (h1 : 0 ≤ r) (h2 : r ≤ 5) (h3 : -100000 ≤ t) (h4 : t < 900000) (h5 : -100000 ≤ t0) (h6 : t0 < 900000) : ck_lk E 94 p = (vf_lst (fun j => (vf_it E j (r, t)).1 = r0 ∧ (vf_lc E (vf_rf E).toNat : Int) ∣ ((vf_it E j (r, t)).2 - t0)) 6000 1 : Int) := by
  rw [ck_lk_v (by decide)]
  show (vf_lst (fun j => (vf_it E j (p / 1000000000000 % 6, p / 1000000 % 1000000 - 100000)).1 = p / 6000000000000 ∧ (vf_lc E (vf_rf E).toNat : Int) ∣ ((vf_it E j (p / 1000000000000 % 6, p / 1000000 % 1000000 - 100000)).2 - (p % 1000000 - 100000))) 6000 1 : Int) = _
  rw [show p / 1000000000000 % 6 = r by omega, show p / 1000000 % 1000000 - 100000 = t by omega, show p / 6000000000000 = r0 by omega, show p % 1000000 - 100000 = t0 by omega]
theorem k95 {E : Nat → jv_E} {p r t : Int} (h : p = 1000000 * r + t + 100000) (h1 : -100000 ≤ t) (h2 : t < 900000) : ck_lk E 95 p = cb (∀ j : Nat, 1 ≤ vf_h E (vf_it E j (r, t)).1 (vf_it E j (r, t)).2 ∧ 1 ≤ ck_loc (E 67) (vf_it E j (r, t)).1) := by
  rw [ck_lk_v (by decide)]
  show cb (∀ j : Nat, 1 ≤ vf_h E (vf_it E j (p / 1000000, p % 1000000 - 100000)).1 (vf_it E j (p / 1000000, p % 1000000 - 100000)).2 ∧ 1 ≤ ck_loc (E 67) (vf_it E j (p / 1000000, p % 1000000 - 100000)).1) = _
  rw [show p / 1000000 = r by omega, show p % 1000000 - 100000 = t by omega]
theorem vf_sum_bd {g : Int → Int} {hi : Int} : ∀ n : Nat, (∀ i : Int, 0 ≤ i → i < n → 0 ≤ g i ∧ g i ≤ hi) → 0 ≤ vf_sum g n ∧ vf_sum g n ≤ hi * n
  | 0, _ => ⟨Int.le_refl _, by show (0 : Int) ≤ hi * ((0 : Nat) : Int); rw [show ((0 : Nat) : Int) = 0 from rfl, Int.mul_zero]; exact Int.le_refl _⟩
  | n + 1, h => by
    have ih := vf_sum_bd (g := g) (hi := hi) n (fun i h1 h2 => h i h1 (by omega))
    have h9 := h (n : Int) (by omega) (by omega)
    show 0 ≤ vf_sum g n + g (n : Int) ∧ vf_sum g n + g (n : Int) ≤ hi * ((n + 1 : Nat) : Int)
    rw [show ((n + 1 : Nat) : Int) = (n : Int) + 1 from rfl, Int.mul_add, Int.mul_one]
    omega
theorem vf_sum_up {g g' : Int → Int} {i0 : Int} (h0 : 0 ≤ i0) (h : ∀ j, 0 ≤ j → ¬ j = i0 → g' j = g j) : ∀ n : Nat, vf_sum g' n = vf_sum g n + (if i0 < n then g' i0 - g i0 else 0)
  | 0 => by
    show (0 : Int) = 0 + (if i0 < ((0 : Nat) : Int) then g' i0 - g i0 else 0)
    rw [if_neg (by omega)]; rfl
  | n + 1 => by
    have ih := vf_sum_up h0 h n
    show vf_sum g' n + g' (n : Int) = vf_sum g n + g (n : Int) + (if i0 < ((n + 1 : Nat) : Int) then g' i0 - g i0 else 0)
    rw [ih]
    by_cases e : (n : Int) = i0
    · rw [e, if_neg (by omega), if_pos (by omega)]; omega
    · rw [h n (by omega) e]
      by_cases e2 : i0 < (n : Int)
      · rw [if_pos e2, if_pos (by omega)]; omega
      · rw [if_neg e2, if_neg (by omega)]; omega
theorem vf_s96 : ∃ n : Nat, n = 5040 ∧ ∀ (E : Nat → jv_E) (p : Int), ck_lk E 96 p = vf_sum (ck_loc (E 77)) n := ⟨5040, rfl, fun _ p => by rw [ck_lk_v (by decide)]; simp only [ck_vl]⟩
theorem cb_mono {P Q : Prop} (h : P → Q) : cb P ≤ cb Q := by
  by_cases hp : P
  · rw [cb_t hp, cb_t (h hp)]; exact Int.le_refl _
  · rw [cb_f hp]; exact (cb_le Q).1
theorem k203 {E : Nat → jv_E} {p s h : Int} (hp : p = 10 * s + h) (h1 : 0 ≤ h) (h2 : h ≤ 9) : ck_lk E 203 p = vf_bh s h := by
  rw [ck_lk_v (by decide)]
  show vf_bh (p / 10) (p % 10) = _
  rw [show p / 10 = s by omega, show p % 10 = h by omega]
theorem vf_bhb0 : ∀ s, s < 512 → ∀ h, h < 10 → vf_bh ((s : Nat) : Int) ((h : Nat) : Int) ≤ 511 := by decide +kernel
theorem vf_bhb {s h : Int} (h1 : 0 ≤ s) (h2 : s < 512) (h3 : 0 ≤ h) (h4 : h ≤ 9) : vf_bh s h ≤ 511 := by
  have := vf_bhb0 s.toNat (by omega) h.toNat (by omega)
  rw [Int.toNat_of_nonneg h1, Int.toNat_of_nonneg h3] at this
  exact this
theorem k107 {E : Nat → jv_E} {p r i k : Int} (hp : p = 1000 * r + 10 * i + k) (h1 : 0 ≤ i) (h2 : i ≤ 7) (h3 : 0 ≤ k) (h4 : k ≤ 9) : ck_lk E 107 p = vf_so E r i k.toNat := by
  rw [ck_lk_v (by decide)]
  show vf_so E (p / 1000) (p % 1000 / 10) (p % 10).toNat = _
  rw [show p / 1000 = r by omega, show p % 1000 / 10 = i by omega, show p % 10 = k by omega]
theorem vf_so_s {E : Nat → jv_E} {r i s : Int} (h1 : i - 9 ≤ s) : vf_so E r i ((s - i + 9) + 1).toNat = if 1 ≤ vf_h E r s ∧ i ≤ s + vf_h E r s then vf_or (vf_so E r i (s - i + 9).toNat) (vf_sh 1 (s + vf_h E r s - i)) else vf_so E r i (s - i + 9).toNat := by
  obtain ⟨k, hk⟩ : ∃ k : Nat, s = i - 9 + (k : Int) := ⟨(s - i + 9).toNat, by omega⟩
  subst hk
  rw [show (i - 9 + (k : Int) - i + 9 + 1).toNat = k + 1 by omega, show (i - 9 + (k : Int) - i + 9).toNat = k by omega]
  rfl
theorem k205 {E : Nat → jv_E} {p a b : Int} (h : p = 4294967296 * a + b + 9223372039002259456) (h1 : -2147483648 ≤ b) (h2 : b < 2147483648) : ck_lk E 205 p = vf_or a b := by
  rw [ck_lk_v (by decide)]
  show vf_or (p / 4294967296 - 2147483648) (p % 4294967296 - 2147483648) = _
  rw [show p / 4294967296 - 2147483648 = a by omega, show p % 4294967296 - 2147483648 = b by omega]
theorem k206 {E : Nat → jv_E} {p a b : Int} (h : p = 4294967296 * a + b + 9223372039002259456) (h1 : -2147483648 ≤ b) (h2 : b < 2147483648) : ck_lk E 206 p = vf_sh a b := by
  rw [ck_lk_v (by decide)]
  show vf_sh (p / 4294967296 - 2147483648) (p % 4294967296 - 2147483648) = _
  rw [show p / 4294967296 - 2147483648 = a by omega, show p % 4294967296 - 2147483648 = b by omega]
theorem k207 {E : Nat → jv_E} {p a b : Int} (h : p = 18446744073709551616 * a + b + 170141183460469231731687303715884105728) (h1 : 0 ≤ b) (h2 : b < 18446744073709551616) : ck_lk E 207 p = a.tmod b := by
  rw [ck_lk_v (by decide)]
  show (p / 18446744073709551616 - 9223372036854775808).tmod (p % 18446744073709551616) = _
  rw [show p / 18446744073709551616 - 9223372036854775808 = a by omega, show p % 18446744073709551616 = b by omega]
theorem k106 {E : Nat → jv_E} {p s n m : Int} (h : p = 1000 * s + 10 * n + m) (h1 : 0 ≤ n) (h2 : n < 100) (h3 : 0 ≤ m) (h4 : m ≤ 9) : ck_lk E 106 p = cb (∀ i : Int, 0 ≤ i → i < n → 0 ≤ ck_loc (E 61) (60 * s + i) ∧ ck_loc (E 61) (60 * s + i) ≤ 99 ∧ ck_loc (E 61) (60 * s + i) % 10 < m) := by
  rw [ck_lk_v (by decide)]
  show cb (∀ i : Int, 0 ≤ i → i < p / 10 % 100 → 0 ≤ ck_loc (E 61) (60 * (p / 1000) + i) ∧ ck_loc (E 61) (60 * (p / 1000) + i) ≤ 99 ∧ ck_loc (E 61) (60 * (p / 1000) + i) % 10 < p % 10) = _
  rw [show p / 1000 = s by omega, show p / 10 % 100 = n by omega, show p % 10 = m by omega]
theorem un {E : Nat → jv_E} {k j : Nat} {e' : jv_E} (h : j ≠ k) : va_up E k e' j = E j := va_up_ne _ _ h
theorem k108 {E : Nat → jv_E} {p c : Int} (h : p = c) : ck_lk E 108 p = cb (vf_wx E c (-1)) := by
  rw [h]; exact ck_lk_v (by decide) _
theorem k109 {E : Nat → jv_E} {p c r n : Int} (h : p = 1000 * c + 10 * r + n) (h1 : 0 ≤ r) (h2 : r ≤ 5) (h3 : 0 ≤ n) (h4 : n ≤ 9) : ck_lk E 109 p = cb (vf_wr E c r n) := by
  rw [ck_lk_v (by decide)]
  show cb (vf_wr E (p / 1000) (p % 1000 / 10) (p % 10)) = _
  rw [show p / 1000 = c by omega, show p % 1000 / 10 = r by omega, show p % 10 = n by omega]
theorem k112 {E : Nat → jv_E} {p r : Int} (h : p = r) (h1 : 0 ≤ r) (h2 : r ≤ 5) : ck_lk E 112 p = cb (vf_wx E 0 r) := by
  rw [ck_lk_v (by decide)]
  show cb (vf_wx E (p / 10) (p % 10)) = _
  rw [show p / 10 = 0 by omega, show p % 10 = r by omega]
theorem vf_70 {E : Nat → jv_E} (h : ck_gi E) {c : Int} (h0 : 0 ≤ c) (h5 : c ≤ 5) : 0 ≤ ck_loc (E 70) (2 * c + 1) ∧ ck_loc (E 70) (2 * c + 1) ≤ 8 := by
  obtain ⟨g, he, hb⟩ := (ck_okI (t := 0) (z := 12) (B := [(0, 6), (0, 8)]) (by decide)).mp (h 70 _ rfl)
  have := hb (2 * c + 1).toNat (by omega)
  unfold ck_bd at this
  rw [show [((0 : Int), (6 : Int)), (0, 8)].length = 2 from rfl, show (2 * c + 1).toNat % 2 = 1 by omega] at this
  rw [he]
  exact this
theorem vf_65 {E : Nat → jv_E} (h : ck_gi E) {c : Int} (h0 : 0 ≤ c) (h5 : c ≤ 5) : 0 ≤ ck_loc (E 65) c ∧ ck_loc (E 65) c ≤ 6 := ck_ib h (k := 65) (t := 0) (z := 6) rfl (by decide) h0 (by show c < 6; omega)
theorem vf_67 {E : Nat → jv_E} (h : ck_gi E) {c : Int} (h0 : 0 ≤ c) (h5 : c ≤ 35) : 0 ≤ ck_loc (E 67) c ∧ ck_loc (E 67) c ≤ 8 := ck_ib h (k := 67) (t := 0) (z := 36) rfl (by decide) h0 (by show c < 36; omega)
/-- what a city's goals say depends on its own places -/
theorem vf_wx_mono {E E' : Nat → jv_E} (hg : ck_gi E') {a c x : Int} (h0 : 0 ≤ c) (h5 : c ≤ 5) (h65 : ck_loc (E' 65) c = ck_loc (E 65) a) (h67 : ∀ r : Int, 0 ≤ r → r < 6 → ck_loc (E' 67) (6 * c + r) = ck_loc (E 67) (6 * a + r)) (h69 : ∀ j : Int, 0 ≤ j → j < 48 → ck_loc (E' 69) (48 * c + j) = ck_loc (E 69) (48 * a + j)) (h70 : ck_loc (E' 70) (2 * c + 1) = ck_loc (E 70) (2 * a + 1)) (h72 : ∀ j : Int, 0 ≤ j → j < 24 → ck_loc (E' 72) (24 * c + j) = ck_loc (E 72) (24 * a + j)) (h : vf_wx E a x) : vf_wx E' c x := by
  obtain ⟨p, q⟩ := h
  have b1 := vf_65 hg h0 h5
  have b2 := vf_70 hg h0 h5
  refine ⟨fun r i r0 r1 rx i0 i1 => ?_, fun k k0 k1 => ?_⟩
  · have b3 := vf_67 hg (c := 6 * c + r) (by omega) (by omega)
    have e := h67 r r0 (by omega)
    rw [show 48 * c + 8 * r + i = 48 * c + (8 * r + i) by omega, h69 _ (by omega) (by omega), h65, show 48 * a + (8 * r + i) = 48 * a + 8 * r + i by omega]
    exact p r i r0 (by omega) rx i0 (by omega)
  · have := q k k0 (by omega)
    rw [show 24 * c + 3 * k + 2 = 24 * c + (3 * k + 2) by omega, h72 (3 * k) (by omega) (by omega), h72 (3 * k + 2) (by omega) (by omega), h65, show 24 * a + (3 * k + 2) = 24 * a + 3 * k + 2 by omega]
    exact this
theorem vf_wx_st {E : Nat → jv_E} {e' : jv_E} {k : Nat} {idx c x : Int} (hg : ck_gi E) (hg2 : ck_gi (va_up E k e')) (h0 : 0 ≤ c) (h5 : c ≤ 5) (l2 : ∀ j, 0 ≤ j → ¬ j = idx → ck_loc e' j = ck_loc (E k) j) (ho : (k = 65 → ¬ idx = c) ∧ (k = 67 → idx < 6 * c ∨ 6 * c + 5 < idx) ∧ (k = 69 → idx < 48 * c ∨ 48 * c + 47 < idx) ∧ (k = 70 → ¬ idx = 2 * c + 1) ∧ (k = 72 → idx < 24 * c ∨ 24 * c + 23 < idx)) : vf_wx (va_up E k e') c x = vf_wx E c x := by
  obtain ⟨o1, o2, o3, o4, o5⟩ := ho
  have up : ∀ (m : Nat) (j : Int), 0 ≤ j → (k = m → ¬ j = idx) → ck_loc (va_up E k e' m) j = ck_loc (E m) j := fun m j j0 hj => by
    by_cases hk : m = k
    · subst hk; rw [va_up_self]; exact l2 j j0 (hj rfl)
    · rw [va_up_ne _ _ hk]
  have a1 := up 65 c h0 (fun q => by have := o1 q; omega)
  have a2 : ∀ r : Int, 0 ≤ r → r < 6 → ck_loc (va_up E k e' 67) (6 * c + r) = ck_loc (E 67) (6 * c + r) := fun r r0 r1 => up 67 _ (by omega) (fun q => by have := o2 q; omega)
  have a3 : ∀ j : Int, 0 ≤ j → j < 48 → ck_loc (va_up E k e' 69) (48 * c + j) = ck_loc (E 69) (48 * c + j) := fun r r0 r1 => up 69 _ (by omega) (fun q => by have := o3 q; omega)
  have a4 := up 70 (2 * c + 1) (by omega) (fun q => by have := o4 q; omega)
  have a5 : ∀ j : Int, 0 ≤ j → j < 24 → ck_loc (va_up E k e' 72) (24 * c + j) = ck_loc (E 72) (24 * c + j) := fun r r0 r1 => up 72 _ (by omega) (fun q => by have := o5 q; omega)
  exact propext ⟨vf_wx_mono hg h0 h5 a1.symm (fun r r0 r1 => (a2 r r0 r1).symm) (fun r r0 r1 => (a3 r r0 r1).symm) a4.symm (fun r r0 r1 => (a5 r r0 r1).symm), vf_wx_mono hg2 h0 h5 a1 a2 a3 a4 a5⟩
theorem vf_up69 {E : Nat → jv_E} {e' : jv_E} {idx v j : Int} {m : Int} (l1 : ck_loc e' idx = v) (l2 : ∀ j, 0 ≤ j → ¬ j = idx → ck_loc e' j = ck_loc (E 69) j) (hv : v < m) (j0 : 0 ≤ j) (h : ck_loc (E 69) j < m) : ck_loc (va_up E 69 e' 69) j < m := by
  rw [va_up_self]
  by_cases hj : j = idx
  · rw [hj, l1]; exact hv
  · rw [l2 j j0 hj]; exact h
theorem vf_wx_put {E : Nat → jv_E} {e' : jv_E} {idx v c x : Int} (h0 : 0 ≤ c) (h : vf_wx E c x) (l1 : ck_loc e' idx = v) (l2 : ∀ j, 0 ≤ j → ¬ j = idx → ck_loc e' j = ck_loc (E 69) j) (hv : v < ck_loc (E 65) c) : vf_wx (va_up E 69 e') c x := by
  obtain ⟨p, q⟩ := h
  have e65 : va_up E 69 e' 65 = E 65 := va_up_ne _ _ (by decide)
  have e67 : va_up E 69 e' 67 = E 67 := va_up_ne _ _ (by decide)
  have e70 : va_up E 69 e' 70 = E 70 := va_up_ne _ _ (by decide)
  have e72 : va_up E 69 e' 72 = E 72 := va_up_ne _ _ (by decide)
  refine ⟨fun r i r0 r1 rx i0 i1 => ?_, ?_⟩
  · rw [e65] at r1 ⊢
    rw [e67] at i1
    exact vf_up69 l1 l2 hv (by omega) (p r i r0 r1 rx i0 i1)
  · rw [e70, e72, e65]; exact q
def ceG1a : ck_N := (9999, (4, [(0, [(0, 1)]), (5, [(0, (-1))]), (1000, [(1, 1)]), (890000, [(1, (-1))]), ((-1), [(2, 1)]), (8, [(2, (-1))]), (0, [(3, 1)])], [], [(67, (0, [(0, 1)]), (0, [(2, 1)])), (201, (9223372036854775808, [(1, 4294967296), (2, 1)]), (0, [(3, 1)]))], []), [(4, [], none, [(86, (100000, [(0, 1000000), (1, 1)]), (0, [(0, 8), (3, 1)]))], [])], [], 0, 0)
def ceG1b : ck_N := (9999, (4, [(0, [(0, 1)]), (5, [(0, (-1))]), (1000, [(1, 1)]), (890000, [(1, (-1))]), ((-1), [(2, 1)]), (8, [(2, (-1))]), ((-1), [(3, (-1))])], [], [(67, (0, [(0, 1)]), (0, [(2, 1)])), (201, (9223372036854775808, [(1, 4294967296), (2, 1)]), (0, [(3, 1)]))], []), [(4, [], none, [(86, (100000, [(0, 1000000), (1, 1)]), (0, [(0, 8), (2, 1), (3, 1)]))], [])], [], 0, 0)
def ceG2 : ck_N := (9999, (4, [(0, [(0, 1)]), (5, [(0, (-1))]), (1000, [(1, 1)]), (890000, [(1, (-1))])], [], [(86, (100000, [(0, 1000000), (1, 1)]), (0, [(2, 1)])), (68, (0, [(2, 1)]), (0, [(3, 1)]))], []), [(4, [], none, [(84, (100000, [(0, 1000000), (1, 1)]), (0, [(3, 1)]))], [])], [], 0, 0)
def ceG3 : ck_N := (9999, (4, [(0, [(0, 1)]), (5, [(0, (-1))]), (1000, [(1, 1)]), (890000, [(1, (-1))])], [], [(86, (100000, [(0, 1000000), (1, 1)]), (0, [(2, 1)])), (69, (0, [(2, 1)]), (0, [(3, 1)]))], []), [(4, [], none, [(85, (100000, [(0, 1000000), (1, 1)]), (0, [(3, 1)]))], [])], [], 0, 0)
def cePB : ck_N := (9999, (3, [(0, [(0, 1)]), (5, [(0, (-1))]), ((-1), [(1, 1)])], [], [(65, (0, []), (0, [(1, 1)])), (67, (0, [(0, 1)]), (0, [(2, 1)]))], [0]), [(3, [((-1), [(2, 1)])], none, [], [])], [], 0, 0)
def ceL0 : ck_N := (9999, (0, [], [], [], []), [(0, [], none, [(88, (0, []), (1, []))], [])], [], 0, 0)
def ceL1 : ck_N := (9999, (3, [(0, [(0, 1)]), (5, [(0, (-1))]), ((-1), [(1, 1)]), ((-1), [(2, 1)])], [], [(88, (0, [(0, 1)]), (0, [(1, 1)])), (67, (0, [(0, 1)]), (0, [(2, 1)]))], []), [(4, [(0, [(1, (-1)), (3, 1)]), (840, [(3, (-1))])], none, [(88, (1, [(0, 1)]), (0, [(3, 1)])), (202, (0, [(1, 1000001)]), (1, []))], [])], [], 0, 0)
def ceL2 : ck_N := (9999, (7, [(0, [(0, 1)]), (5, [(0, (-1))]), ((-1), [(1, 1)]), (840, [(1, (-1))]), ((-1), [(2, 1)]), (840, [(2, (-1))]), ((-1), [(3, 1)]), (8, [(3, (-1))]), (0, [(1, (-1)), (4, 1)]), ((-1), [(5, 1)]), ((-1), [(6, 1)])], [], [(88, (0, [(0, 1)]), (0, [(2, 1)])), (67, (0, [(0, 1)]), (0, [(3, 1)])), (88, (1, [(0, 1)]), (0, [(4, 1)])), (202, (0, [(1, 1000000), (2, 1)]), (0, [(5, 1)])), (201, (9223372036854775808, [(1, 4294967296), (3, 1)]), (0, [(6, 1)]))], []), [(7, [(0, [(1, (-1)), (2, (-1)), (4, 1)])], none, [(202, (0, [(1, 1000000), (2, 1000001)]), (1, []))], [])], [], 0, 0)
def ceL3 : ck_N := (9999, (7, [(0, [(0, 1)]), (5, [(0, (-1))]), ((-1), [(1, 1)]), (840, [(1, (-1))]), ((-1), [(2, 1)]), (840, [(2, (-1))]), ((-1), [(3, 1)]), (8, [(3, (-1))]), (0, [(1, (-1)), (4, 1)]), ((-1), [(5, 1)]), (0, [(6, 1)]), (0, [(6, (-1))])], [], [(88, (0, [(0, 1)]), (0, [(2, 1)])), (67, (0, [(0, 1)]), (0, [(3, 1)])), (88, (1, [(0, 1)]), (0, [(4, 1)])), (202, (0, [(1, 1000000), (2, 1)]), (0, [(5, 1)])), (201, (9223372036854775808, [(1, 4294967296), (3, 1)]), (0, [(6, 1)]))], []), [(7, [(0, [(1, 1), (4, (-1))]), (0, [(1, (-1)), (4, 1)])], none, [], [])], [], 0, 0)
def ceL4 : ck_N := (9999, (2, [], [], [(65, (0, []), (0, [(0, 1)])), (88, (0, [(0, 1)]), (0, [(1, 1)]))], []), [(2, [], none, [(87, (0, []), (0, [(1, 1)]))], [])], [], 0, 0)
def ceC0 : ck_N := (9999, (2, [(0, [(0, 1)]), (5, [(0, (-1))]), (900, [(1, 1)]), (800000, [(1, (-1))])], [], [], []), [(2, [], none, [(90, (770001, [(0, 77), (1, 770)]), (0, []))], [])], [], 0, 0)
def ceC1a : ck_N := (9999, (6, [(0, [(0, 1)]), (5, [(0, (-1))]), (900, [(1, 1)]), (800000, [(1, (-1))]), (0, [(2, 1)]), (5, [(2, (-1))]), ((-1), [(3, 1)]), (9, [(3, (-1))]), ((-1), [(3, (-1)), (5, 1)])], [], [(90, (770000, [(0, 77), (1, 770), (2, 11), (3, 1)]), (0, [(4, 1)])), (84, (100000, [(1, 1), (2, 1000000), (3, (-1))]), (0, [(5, 1)]))], []), [(6, [], none, [(90, (770001, [(0, 77), (1, 770), (2, 11), (3, 1)]), (0, [(4, 1)]))], [])], [], 0, 0)
def ceC1b : ck_N := (9999, (6, [(0, [(0, 1)]), (5, [(0, (-1))]), (900, [(1, 1)]), (800000, [(1, (-1))]), (0, [(2, 1)]), (5, [(2, (-1))]), ((-1), [(3, 1)]), (9, [(3, (-1))]), ((-1), [(3, 1), (5, (-1))])], [], [(90, (770000, [(0, 77), (1, 770), (2, 11), (3, 1)]), (0, [(4, 1)])), (84, (100000, [(1, 1), (2, 1000000), (3, (-1))]), (0, [(5, 1)]))], []), [(6, [], none, [(90, (770001, [(0, 77), (1, 770), (2, 11), (3, 1)]), (0, [(4, 1)]))], [])], [], 0, 0)
def ceC2a : ck_N := (9999, (7, [(0, [(0, 1)]), (5, [(0, (-1))]), (900, [(1, 1)]), (800000, [(1, (-1))]), (0, [(2, 1)]), (5, [(2, (-1))]), ((-1), [(3, 1)]), (9, [(3, (-1))]), ((-1), [(0, (-1)), (6, 1)])], [], [(90, (770000, [(0, 77), (1, 770), (2, 11), (3, 1)]), (0, [(4, 1)])), (84, (100000, [(1, 1), (2, 1000000), (3, (-1))]), (0, [(5, 1)])), (85, (100000, [(1, 1), (2, 1000000), (3, (-1))]), (0, [(6, 1)]))], []), [(7, [], none, [(90, (770001, [(0, 77), (1, 770), (2, 11), (3, 1)]), (0, [(4, 1)]))], [])], [], 0, 0)
def ceC2b : ck_N := (9999, (7, [(0, [(0, 1)]), (5, [(0, (-1))]), (900, [(1, 1)]), (800000, [(1, (-1))]), (0, [(2, 1)]), (5, [(2, (-1))]), ((-1), [(3, 1)]), (9, [(3, (-1))]), ((-1), [(0, 1), (6, (-1))])], [], [(90, (770000, [(0, 77), (1, 770), (2, 11), (3, 1)]), (0, [(4, 1)])), (84, (100000, [(1, 1), (2, 1000000), (3, (-1))]), (0, [(5, 1)])), (85, (100000, [(1, 1), (2, 1000000), (3, (-1))]), (0, [(6, 1)]))], []), [(7, [], none, [(90, (770001, [(0, 77), (1, 770), (2, 11), (3, 1)]), (0, [(4, 1)]))], [])], [], 0, 0)
def ceC3 : ck_N := (9999, (7, [(0, [(0, 1)]), (5, [(0, (-1))]), (900, [(1, 1)]), (800000, [(1, (-1))]), (0, [(2, 1)]), (5, [(2, (-1))]), ((-1), [(3, 1)]), (9, [(3, (-1))]), (0, [(3, (-1)), (5, 1)]), (0, [(3, 1), (5, (-1))]), (0, [(0, (-1)), (6, 1)]), (0, [(0, 1), (6, (-1))])], [], [(90, (770000, [(0, 77), (1, 770), (2, 11), (3, 1)]), (0, [(4, 1)])), (84, (100000, [(1, 1), (2, 1000000), (3, (-1))]), (0, [(5, 1)])), (85, (100000, [(1, 1), (2, 1000000), (3, (-1))]), (0, [(6, 1)]))], []), [(7, [], none, [(90, (770001, [(0, 77), (1, 770), (2, 11), (3, 1)]), (1, [(4, 1)]))], [])], [], 0, 0)
def ceC4 : ck_N := (9999, (4, [(0, [(0, 1)]), (5, [(0, (-1))]), (900, [(1, 1)]), (800000, [(1, (-1))]), (0, [(2, 1)]), (5, [(2, (-1))])], [], [(90, (770010, [(0, 77), (1, 770), (2, 11)]), (0, [(3, 1)]))], []), [(4, [], none, [(90, (770012, [(0, 77), (1, 770), (2, 11)]), (0, [(3, 1)]))], [])], [], 0, 0)
def ceK1 : ck_N := (9999, (5, [(0, [(0, 1)]), (5, [(0, (-1))]), (900, [(1, 1)]), (800000, [(1, (-1))]), (0, [(2, 1)]), (6, [(2, (-1))]), (0, [(4, (-1))])], [], [(65, (0, []), (0, [(2, 1)])), (90, (770001, [(0, 77), (1, 770), (2, 11)]), (0, [(3, 1)])), (84, (100000, [(0, 1000000), (1, 1)]), (0, [(4, 1)]))], []), [(5, [], none, [(91, (100000, [(0, 1000000), (1, 1)]), (1, []))], [])], [], 0, 0)
def ceK2 : ck_N := (9999, (5, [(0, [(0, 1)]), (5, [(0, (-1))]), (900, [(1, 1)]), (800000, [(1, (-1))]), (0, [(2, 1)]), (6, [(2, (-1))]), ((-1), [(3, 1)])], [], [(65, (0, []), (0, [(2, 1)])), (90, (770001, [(0, 77), (1, 770), (2, 11)]), (0, [(3, 1)])), (84, (100000, [(0, 1000000), (1, 1)]), (0, [(4, 1)]))], []), [(5, [], none, [(91, (100000, [(0, 1000000), (1, 1)]), (1, []))], [])], [], 0, 0)
def ceU0 : ck_N := (9999, (0, [], [], [], []), [(0, [], none, [(92, (0, []), (1, []))], [])], [], 0, 0)
def ceU1 : ck_N := (9999, (4, [(0, [(0, 1)]), (5, [(0, (-1))]), (0, [(1, 1)]), (800000, [(1, (-1))]), ((-1), [(2, 1)]), ((-1), [(3, 1)])], [], [(92, (0, [(0, 1), (1, 10)]), (0, [(2, 1)])), (91, (100000, [(0, 1000000), (1, 1)]), (0, [(3, 1)]))], []), [(4, [], none, [(92, (1, [(0, 1), (1, 10)]), (1, []))], [])], [], 0, 0)
def ceU2 : ck_N := (9999, (3, [(0, [(0, 1)]), (0, [(1, 1)]), (6, [(1, (-1))]), ((-1), [(2, 1)])], [], [(65, (0, []), (0, [(1, 1)])), (92, (0, [(0, 10), (1, 1)]), (0, [(2, 1)]))], []), [(3, [], none, [(92, (10, [(0, 10)]), (1, []))], [])], [], 0, 0)
def ceU3 : ck_N := (9999, (4, [(0, [(1, 1)]), (6, [(1, (-1))]), (0, [(0, 1), (2, (-1))]), ((-1), [(2, 1)]), ((-1), [(3, 1)])], [], [(65, (0, []), (0, [(1, 1)])), (87, (0, []), (0, [(2, 1)])), (92, (0, [(0, 10)]), (0, [(3, 1)]))], []), [(4, [], none, [(93, (0, []), (1, []))], [])], [], 0, 0)
def ceO4 : ck_N := (9999, (6, [(0, [(0, 1)]), (5, [(0, (-1))]), (1000, [(1, 1)]), (200000, [(1, (-1))]), (0, [(2, 1)]), (6, [(2, (-1))]), ((-1), [(0, (-1)), (2, 1)]), ((-1), [(3, 1)]), ((-1), [(4, 1)]), (840, [(4, (-1))]), ((-1), [(5, 1)])], [], [(65, (0, []), (0, [(2, 1)])), (93, (0, []), (0, [(3, 1)])), (87, (0, []), (0, [(4, 1)])), (84, (100000, [(0, 1000000), (1, 1)]), (0, [(5, 1)]))], []), [(6, [], none, [(95, (100000, [(0, 1000000), (1, 1)]), (1, []))], [])], [], 0, 0)
def ceO1 : ck_N := (9999, (6, [(0, [(0, 1)]), (5, [(0, (-1))]), (1000, [(1, 1)]), (200000, [(1, (-1))]), (0, [(2, 1)]), (6, [(2, (-1))]), ((-1), [(0, (-1)), (2, 1)]), ((-1), [(3, 1)]), ((-1), [(4, 1)]), (840, [(4, (-1))]), ((-1), [(5, 1)])], [], [(65, (0, []), (0, [(2, 1)])), (93, (0, []), (0, [(3, 1)])), (87, (0, []), (0, [(4, 1)])), (84, (100000, [(0, 1000000), (1, 1)]), (0, [(5, 1)]))], []), [(7, [((-1), [(6, 1)]), (5040, [(6, (-1))])], none, [(94, (100000100000, [(0, 7000000000000), (1, 1000001)]), (0, [(6, 1)]))], [])], [], 0, 0)
def ceO5 : ck_N := (9999, (3, [(0, [(0, 1)]), (5, [(0, (-1))]), (1000, [(1, 1)]), (890000, [(1, (-1))]), ((-1), [(2, 1)])], [], [(95, (100000, [(0, 1000000), (1, 1)]), (0, [(2, 1)]))], []), [(5, [((-1), [(3, 1)]), (9, [(3, (-1))]), (0, [(4, 1)]), (5, [(4, (-1))])], none, [(84, (100000, [(0, 1000000), (1, 1)]), (0, [(3, 1)])), (85, (100000, [(0, 1000000), (1, 1)]), (0, [(4, 1)]))], [])], [], 0, 0)
def ceO6 : ck_N := (9999, (5, [(0, [(0, 1)]), (5, [(0, (-1))]), (1000, [(1, 1)]), (800000, [(1, (-1))]), ((-1), [(2, 1)]), (0, [(3, 1)]), (9, [(3, (-1))]), (0, [(4, 1)]), (5, [(4, (-1))])], [], [(95, (100000, [(0, 1000000), (1, 1)]), (0, [(2, 1)])), (84, (100000, [(0, 1000000), (1, 1)]), (0, [(3, 1)])), (85, (100000, [(0, 1000000), (1, 1)]), (0, [(4, 1)]))], []), [(5, [], none, [(95, (100000, [(1, 1), (3, 1), (4, 1000000)]), (1, []))], [])], [], 0, 0)
def ceO3 : ck_N := (9999, (8, [(0, [(0, 1)]), (5, [(0, (-1))]), (1000, [(1, 1)]), (200000, [(1, (-1))]), (0, [(2, 1)]), (5, [(2, (-1))]), (1000, [(3, 1)]), (800000, [(3, (-1))]), ((-1), [(4, 1)]), (0, [(5, 1)]), (9, [(5, (-1))]), (0, [(6, 1)]), (5, [(6, (-1))]), ((-1), [(7, 1)]), (840, [(7, (-1))])], [], [(94, (100000100000, [(0, 6000000000000), (1, 1), (2, 1000000000000), (3, 1000000)]), (0, [(4, 1)])), (84, (100000, [(2, 1000000), (3, 1)]), (0, [(5, 1)])), (85, (100000, [(2, 1000000), (3, 1)]), (0, [(6, 1)])), (87, (0, []), (0, [(7, 1)]))], []), [(8, [((-2), [(4, 1)])], none, [(94, (100000100000, [(0, 6000000000000), (1, 1), (3, 1000000), (5, 1000000), (6, 1000000000000)]), ((-1), [(4, 1)]))], []), (8, [(1, [(4, (-1))]), (0, [(0, (-1)), (6, 1)]), (0, [(0, 1), (6, (-1))])], none, [(201, (9223372036854775808, [(1, (-4294967296)), (3, 4294967296), (5, 4294967296), (7, 1)]), (0, []))], [])], [], 0, 0)
def ceS0 : ck_N := (9999, (0, [], [], [], []), [(1, [(0, [(0, 1)]), (5040, [(0, (-1))])], none, [(96, (0, []), (0, [(0, 1)]))], [])], [], 0, 0)
def ceS1 : ck_N := (10077, (3, [(0, [(0, 1)]), (5039, [(0, (-1))])], [.inl (.inl (0, [(0, 1)])), .inl (.inl (1, []))], [(96, (0, []), (0, [(1, 1)])), (77, (0, [(0, 1)]), (0, [(2, 1)]))], []), [(3, [(5039, [(1, (-1)), (2, 1)])], none, [(96, (0, []), (1, [(1, 1), (2, (-1))]))], [])], [], 0, 0)
def ceT0 : ck_N := (9999, (0, [], [], [], []), [(1, [(0, [(0, 1)]), (512000000, [(0, (-1))])], none, [(97, (0, []), (0, [(0, 1)]))], [])], [], 0, 0)
def ceI0 : ck_N := (9999, (0, [], [], [], []), [(0, [], none, [(101, (0, []), (1, []))], [])], [], 0, 0)
def ceI1a : ck_N := (10081, (2, [(0, [(0, 1)]), (511, [(0, (-1))]), ((-1), [(1, 1)])], [.inl (.inl (0, [(0, 1)])), .inl (.inl (0, []))], [(101, (0, [(0, 1)]), (0, [(1, 1)]))], []), [(2, [], none, [(101, (1, [(0, 1)]), (1, []))], [])], [], 0, 0)
def ceI1b : ck_N := (10081, (2, [(0, [(0, 1)]), (511, [(0, (-1))]), ((-1), [(1, 1)])], [.inl (.inl (0, [(0, 1)])), .inl (.inl (1000000, []))], [(101, (0, [(0, 1)]), (0, [(1, 1)]))], []), [(2, [], none, [(101, (1, [(0, 1)]), (1, []))], [])], [], 0, 0)
def ceI2 : ck_N := (9999, (2, [((-512), [(0, 1)]), ((-1), [(1, 1)])], [], [(101, (0, [(0, 1)]), (0, [(1, 1)]))], []), [(2, [], none, [(100, (0, []), (1, []))], [])], [], 0, 0)
def ceT1 : ck_N := (10081, (7, [(0, [(0, 1)]), (511, [(0, (-1))]), (0, [(1, 1)]), (9, [(1, (-1))]), ((-1), [(3, 1)]), (0, [(4, 1)]), (511, [(4, (-1))]), ((-2), [(5, (-1)), (6, 1)])], [.inl (.inl (0, [(0, 1)])), .inl (.inl (1, [(5, 1)]))], [(97, (0, []), (0, [(2, 1)])), (100, (0, []), (0, [(3, 1)])), (203, (0, [(0, 10), (1, 1)]), (0, [(4, 1)])), (81, (0, [(4, 1)]), (0, [(5, 1)])), (81, (0, [(0, 1)]), (0, [(6, 1)]))], []), [(7, [(1, [(2, 1), (5, 1), (6, (-1))])], none, [(97, (0, []), (1, [(2, 1), (5, 1), (6, (-1))])), (100, (0, []), (1, []))], [])], [], 0, 0)
def ceF0 : ck_N := (9999, (0, [], [], [], []), [(1, [(0, [(0, 1)]), (1, [(0, (-1))])], none, [(98, (0, []), (0, [(0, 1)]))], [])], [], 0, 0)
def ceF1 : ck_N := (9999, (0, [], [], [], []), [(0, [], none, [(99, (0, []), (1, []))], [])], [], 0, 0)
def ceF2a : ck_N := (9999, (4, [(0, [(0, 1)]), (511, [(0, (-1))]), (0, [(1, 1)]), (9, [(1, (-1))]), ((-1), [(3, (-1))])], [], [(99, (0, [(0, 10), (1, 1)]), (0, [(2, 1)])), (203, (0, [(0, 10), (1, 1)]), (0, [(3, 1)]))], []), [(5, [(0, [(4, 1)]), (1, [(4, (-1))]), (0, [(2, (-1)), (4, 1)])], none, [(99, (1, [(0, 10), (1, 1)]), (0, [(4, 1)]))], [])], [], 0, 0)
def ceF2b : ck_N := (9999, (6, [(0, [(0, 1)]), (511, [(0, (-1))]), (0, [(1, 1)]), (9, [(1, (-1))]), (0, [(3, 1)]), (511, [(3, (-1))]), (1, [(4, 1), (5, (-1))])], [], [(99, (0, [(0, 10), (1, 1)]), (0, [(2, 1)])), (203, (0, [(0, 10), (1, 1)]), (0, [(3, 1)])), (81, (0, [(3, 1)]), (0, [(4, 1)])), (81, (0, [(0, 1)]), (0, [(5, 1)]))], []), [(7, [(0, [(6, 1)]), (1, [(6, (-1))]), (0, [(2, (-1)), (6, 1)])], none, [(99, (1, [(0, 10), (1, 1)]), (0, [(6, 1)]))], [])], [], 0, 0)
def ceF5 : ck_N := (9999, (2, [((-1), [(0, 1)]), ((-1), [(1, 1)])], [], [(99, (5120, []), (0, [(0, 1)])), (100, (0, []), (0, [(1, 1)]))], []), [(2, [], none, [(98, (0, []), (1, []))], [])], [], 0, 0)
def ceF6 : ck_N := (9999, (1, [(0, [(0, 1)])], [], [], []), [(2, [(0, [(1, 1)]), (1, [(1, (-1))])], none, [(99, (0, [(0, 1)]), (0, [(1, 1)]))], [])], [], 0, 0)
def ceH1 : ck_N := (9999, (3, [(0, [(0, 1)]), (511, [(0, (-1))]), ((-1), [(1, 1)]), ((-1), [(2, 1)]), (999999, [(2, (-1))])], [], [(98, (0, []), (0, [(1, 1)])), (81, (0, [(0, 1)]), (0, [(2, 1)]))], []), [(5, [(0, [(3, 1)]), (9, [(3, (-1))]), (0, [(4, 1)]), (511, [(4, (-1))])], none, [(102, (0, [(0, 1)]), (0, [(3, 1)])), (203, (0, [(0, 10), (3, 1)]), (0, [(4, 1)])), (81, (0, [(4, 1)]), ((-1), [(2, 1)]))], [])], [], 0, 0)
def ceSO0 : ck_N := (9999, (2, [(0, [(0, 1)]), (5, [(0, (-1))]), (0, [(1, 1)]), (7, [(1, (-1))])], [], [], []), [(2, [], none, [(107, (0, [(0, 1000), (1, 10)]), (0, []))], [])], [], 0, 0)
def ceSO1a : ck_N := (9999, (5, [(0, [(0, 1)]), (5, [(0, (-1))]), (0, [(1, 1)]), (7, [(1, (-1))]), (9, [(1, (-1)), (2, 1)]), ((-1), [(1, 1), (2, (-1))]), (0, [(4, (-1))])], [], [(107, (9, [(0, 1000), (1, 9), (2, 1)]), (0, [(3, 1)])), (84, (100000, [(0, 1000000), (2, 1)]), (0, [(4, 1)]))], []), [(5, [], none, [(107, (10, [(0, 1000), (1, 9), (2, 1)]), (0, [(3, 1)]))], [])], [], 0, 0)
def ceSO1b : ck_N := (9999, (5, [(0, [(0, 1)]), (5, [(0, (-1))]), (0, [(1, 1)]), (7, [(1, (-1))]), (9, [(1, (-1)), (2, 1)]), ((-1), [(1, 1), (2, (-1))]), ((-1), [(1, 1), (2, (-1)), (4, (-1))])], [], [(107, (9, [(0, 1000), (1, 9), (2, 1)]), (0, [(3, 1)])), (84, (100000, [(0, 1000000), (2, 1)]), (0, [(4, 1)]))], []), [(5, [], none, [(107, (10, [(0, 1000), (1, 9), (2, 1)]), (0, [(3, 1)]))], [])], [], 0, 0)
def ceSO2 : ck_N := (9999, (7, [(0, [(0, 1)]), (5, [(0, (-1))]), (0, [(1, 1)]), (7, [(1, (-1))]), (9, [(1, (-1)), (2, 1)]), ((-1), [(1, 1), (2, (-1))]), ((-1), [(4, 1)]), (9, [(4, (-1))]), (0, [(1, (-1)), (2, 1), (4, 1)]), (0, [(3, 1)]), (511, [(3, (-1))]), (0, [(5, 1)]), (511, [(5, (-1))])], [], [(107, (9, [(0, 1000), (1, 9), (2, 1)]), (0, [(3, 1)])), (84, (100000, [(0, 1000000), (2, 1)]), (0, [(4, 1)])), (206, (9223372043297226752, [(1, (-1)), (2, 1), (4, 1)]), (0, [(5, 1)])), (205, (9223372039002259456, [(3, 4294967296), (5, 1)]), (0, [(6, 1)]))], []), [(7, [], none, [(107, (10, [(0, 1000), (1, 9), (2, 1)]), (0, [(6, 1)]))], [])], [], 0, 0)
def ceFW_4_0 : ck_N := (9999, (16, [(0, [(0, 1), (1, (-1))]), (0, [(0, (-1)), (1, 1)]), (0, [(2, 1), (3, (-1))]), (0, [(2, (-1)), (3, 1)]), (0, [(4, 1), (10, (-1))]), (0, [(4, (-1)), (10, 1)]), (0, [(5, 1), (11, (-1))]), (0, [(5, (-1)), (11, 1)]), (0, [(6, 1), (12, (-1))]), (0, [(6, (-1)), (12, 1)]), (0, [(7, 1), (13, (-1))]), (0, [(7, (-1)), (13, 1)]), (0, [(8, 1), (14, (-1))]), (0, [(8, (-1)), (14, 1)]), (0, [(9, 1), (15, (-1))]), (0, [(9, (-1)), (15, 1)])], [], [(65, (4, []), (0, [(0, 1)])), (65, (0, []), (0, [(1, 1)])), (70, (9, []), (0, [(2, 1)])), (70, (1, []), (0, [(3, 1)])), (67, (24, []), (0, [(4, 1)])), (67, (25, []), (0, [(5, 1)])), (67, (26, []), (0, [(6, 1)])), (67, (27, []), (0, [(7, 1)])), (67, (28, []), (0, [(8, 1)])), (67, (29, []), (0, [(9, 1)])), (67, (0, []), (0, [(10, 1)])), (67, (1, []), (0, [(11, 1)])), (67, (2, []), (0, [(12, 1)])), (67, (3, []), (0, [(13, 1)])), (67, (4, []), (0, [(14, 1)])), (67, (5, []), (0, [(15, 1)]))], [14]), [(16, [], none, [], [0])], [], 0, 0)
def ceFW_0_5 : ck_N := (9999, (16, [(0, [(0, 1), (1, (-1))]), (0, [(0, (-1)), (1, 1)]), (0, [(2, 1), (3, (-1))]), (0, [(2, (-1)), (3, 1)]), (0, [(4, 1), (10, (-1))]), (0, [(4, (-1)), (10, 1)]), (0, [(5, 1), (11, (-1))]), (0, [(5, (-1)), (11, 1)]), (0, [(6, 1), (12, (-1))]), (0, [(6, (-1)), (12, 1)]), (0, [(7, 1), (13, (-1))]), (0, [(7, (-1)), (13, 1)]), (0, [(8, 1), (14, (-1))]), (0, [(8, (-1)), (14, 1)]), (0, [(9, 1), (15, (-1))]), (0, [(9, (-1)), (15, 1)])], [], [(65, (0, []), (0, [(0, 1)])), (65, (5, []), (0, [(1, 1)])), (70, (1, []), (0, [(2, 1)])), (70, (11, []), (0, [(3, 1)])), (67, (0, []), (0, [(4, 1)])), (67, (1, []), (0, [(5, 1)])), (67, (2, []), (0, [(6, 1)])), (67, (3, []), (0, [(7, 1)])), (67, (4, []), (0, [(8, 1)])), (67, (5, []), (0, [(9, 1)])), (67, (30, []), (0, [(10, 1)])), (67, (31, []), (0, [(11, 1)])), (67, (32, []), (0, [(12, 1)])), (67, (33, []), (0, [(13, 1)])), (67, (34, []), (0, [(14, 1)])), (67, (35, []), (0, [(15, 1)]))], [0]), [(16, [], none, [], [5])], [], 0, 0)
def ceFW_5_0 : ck_N := (9999, (16, [(0, [(0, 1), (1, (-1))]), (0, [(0, (-1)), (1, 1)]), (0, [(2, 1), (3, (-1))]), (0, [(2, (-1)), (3, 1)]), (0, [(4, 1), (10, (-1))]), (0, [(4, (-1)), (10, 1)]), (0, [(5, 1), (11, (-1))]), (0, [(5, (-1)), (11, 1)]), (0, [(6, 1), (12, (-1))]), (0, [(6, (-1)), (12, 1)]), (0, [(7, 1), (13, (-1))]), (0, [(7, (-1)), (13, 1)]), (0, [(8, 1), (14, (-1))]), (0, [(8, (-1)), (14, 1)]), (0, [(9, 1), (15, (-1))]), (0, [(9, (-1)), (15, 1)])], [], [(65, (5, []), (0, [(0, 1)])), (65, (0, []), (0, [(1, 1)])), (70, (11, []), (0, [(2, 1)])), (70, (1, []), (0, [(3, 1)])), (67, (30, []), (0, [(4, 1)])), (67, (31, []), (0, [(5, 1)])), (67, (32, []), (0, [(6, 1)])), (67, (33, []), (0, [(7, 1)])), (67, (34, []), (0, [(8, 1)])), (67, (35, []), (0, [(9, 1)])), (67, (0, []), (0, [(10, 1)])), (67, (1, []), (0, [(11, 1)])), (67, (2, []), (0, [(12, 1)])), (67, (3, []), (0, [(13, 1)])), (67, (4, []), (0, [(14, 1)])), (67, (5, []), (0, [(15, 1)]))], [5]), [(16, [], none, [], [0])], [], 0, 0)
def ceFW_0_1 : ck_N := (9999, (16, [(0, [(0, 1), (1, (-1))]), (0, [(0, (-1)), (1, 1)]), (0, [(2, 1), (3, (-1))]), (0, [(2, (-1)), (3, 1)]), (0, [(4, 1), (10, (-1))]), (0, [(4, (-1)), (10, 1)]), (0, [(5, 1), (11, (-1))]), (0, [(5, (-1)), (11, 1)]), (0, [(6, 1), (12, (-1))]), (0, [(6, (-1)), (12, 1)]), (0, [(7, 1), (13, (-1))]), (0, [(7, (-1)), (13, 1)]), (0, [(8, 1), (14, (-1))]), (0, [(8, (-1)), (14, 1)]), (0, [(9, 1), (15, (-1))]), (0, [(9, (-1)), (15, 1)])], [], [(65, (0, []), (0, [(0, 1)])), (65, (1, []), (0, [(1, 1)])), (70, (1, []), (0, [(2, 1)])), (70, (3, []), (0, [(3, 1)])), (67, (0, []), (0, [(4, 1)])), (67, (1, []), (0, [(5, 1)])), (67, (2, []), (0, [(6, 1)])), (67, (3, []), (0, [(7, 1)])), (67, (4, []), (0, [(8, 1)])), (67, (5, []), (0, [(9, 1)])), (67, (6, []), (0, [(10, 1)])), (67, (7, []), (0, [(11, 1)])), (67, (8, []), (0, [(12, 1)])), (67, (9, []), (0, [(13, 1)])), (67, (10, []), (0, [(14, 1)])), (67, (11, []), (0, [(15, 1)]))], [0]), [(16, [], none, [], [1])], [], 0, 0)
def ceFW_0_2 : ck_N := (9999, (16, [(0, [(0, 1), (1, (-1))]), (0, [(0, (-1)), (1, 1)]), (0, [(2, 1), (3, (-1))]), (0, [(2, (-1)), (3, 1)]), (0, [(4, 1), (10, (-1))]), (0, [(4, (-1)), (10, 1)]), (0, [(5, 1), (11, (-1))]), (0, [(5, (-1)), (11, 1)]), (0, [(6, 1), (12, (-1))]), (0, [(6, (-1)), (12, 1)]), (0, [(7, 1), (13, (-1))]), (0, [(7, (-1)), (13, 1)]), (0, [(8, 1), (14, (-1))]), (0, [(8, (-1)), (14, 1)]), (0, [(9, 1), (15, (-1))]), (0, [(9, (-1)), (15, 1)])], [], [(65, (0, []), (0, [(0, 1)])), (65, (2, []), (0, [(1, 1)])), (70, (1, []), (0, [(2, 1)])), (70, (5, []), (0, [(3, 1)])), (67, (0, []), (0, [(4, 1)])), (67, (1, []), (0, [(5, 1)])), (67, (2, []), (0, [(6, 1)])), (67, (3, []), (0, [(7, 1)])), (67, (4, []), (0, [(8, 1)])), (67, (5, []), (0, [(9, 1)])), (67, (12, []), (0, [(10, 1)])), (67, (13, []), (0, [(11, 1)])), (67, (14, []), (0, [(12, 1)])), (67, (15, []), (0, [(13, 1)])), (67, (16, []), (0, [(14, 1)])), (67, (17, []), (0, [(15, 1)]))], [0]), [(16, [], none, [], [2])], [], 0, 0)
def ceFW_0_3 : ck_N := (9999, (16, [(0, [(0, 1), (1, (-1))]), (0, [(0, (-1)), (1, 1)]), (0, [(2, 1), (3, (-1))]), (0, [(2, (-1)), (3, 1)]), (0, [(4, 1), (10, (-1))]), (0, [(4, (-1)), (10, 1)]), (0, [(5, 1), (11, (-1))]), (0, [(5, (-1)), (11, 1)]), (0, [(6, 1), (12, (-1))]), (0, [(6, (-1)), (12, 1)]), (0, [(7, 1), (13, (-1))]), (0, [(7, (-1)), (13, 1)]), (0, [(8, 1), (14, (-1))]), (0, [(8, (-1)), (14, 1)]), (0, [(9, 1), (15, (-1))]), (0, [(9, (-1)), (15, 1)])], [], [(65, (0, []), (0, [(0, 1)])), (65, (3, []), (0, [(1, 1)])), (70, (1, []), (0, [(2, 1)])), (70, (7, []), (0, [(3, 1)])), (67, (0, []), (0, [(4, 1)])), (67, (1, []), (0, [(5, 1)])), (67, (2, []), (0, [(6, 1)])), (67, (3, []), (0, [(7, 1)])), (67, (4, []), (0, [(8, 1)])), (67, (5, []), (0, [(9, 1)])), (67, (18, []), (0, [(10, 1)])), (67, (19, []), (0, [(11, 1)])), (67, (20, []), (0, [(12, 1)])), (67, (21, []), (0, [(13, 1)])), (67, (22, []), (0, [(14, 1)])), (67, (23, []), (0, [(15, 1)]))], [0]), [(16, [], none, [], [3])], [], 0, 0)
def ceFW_1_0 : ck_N := (9999, (16, [(0, [(0, 1), (1, (-1))]), (0, [(0, (-1)), (1, 1)]), (0, [(2, 1), (3, (-1))]), (0, [(2, (-1)), (3, 1)]), (0, [(4, 1), (10, (-1))]), (0, [(4, (-1)), (10, 1)]), (0, [(5, 1), (11, (-1))]), (0, [(5, (-1)), (11, 1)]), (0, [(6, 1), (12, (-1))]), (0, [(6, (-1)), (12, 1)]), (0, [(7, 1), (13, (-1))]), (0, [(7, (-1)), (13, 1)]), (0, [(8, 1), (14, (-1))]), (0, [(8, (-1)), (14, 1)]), (0, [(9, 1), (15, (-1))]), (0, [(9, (-1)), (15, 1)])], [], [(65, (1, []), (0, [(0, 1)])), (65, (0, []), (0, [(1, 1)])), (70, (3, []), (0, [(2, 1)])), (70, (1, []), (0, [(3, 1)])), (67, (6, []), (0, [(4, 1)])), (67, (7, []), (0, [(5, 1)])), (67, (8, []), (0, [(6, 1)])), (67, (9, []), (0, [(7, 1)])), (67, (10, []), (0, [(8, 1)])), (67, (11, []), (0, [(9, 1)])), (67, (0, []), (0, [(10, 1)])), (67, (1, []), (0, [(11, 1)])), (67, (2, []), (0, [(12, 1)])), (67, (3, []), (0, [(13, 1)])), (67, (4, []), (0, [(14, 1)])), (67, (5, []), (0, [(15, 1)]))], [1]), [(16, [], none, [], [0])], [], 0, 0)
def ceFW_2_0 : ck_N := (9999, (16, [(0, [(0, 1), (1, (-1))]), (0, [(0, (-1)), (1, 1)]), (0, [(2, 1), (3, (-1))]), (0, [(2, (-1)), (3, 1)]), (0, [(4, 1), (10, (-1))]), (0, [(4, (-1)), (10, 1)]), (0, [(5, 1), (11, (-1))]), (0, [(5, (-1)), (11, 1)]), (0, [(6, 1), (12, (-1))]), (0, [(6, (-1)), (12, 1)]), (0, [(7, 1), (13, (-1))]), (0, [(7, (-1)), (13, 1)]), (0, [(8, 1), (14, (-1))]), (0, [(8, (-1)), (14, 1)]), (0, [(9, 1), (15, (-1))]), (0, [(9, (-1)), (15, 1)])], [], [(65, (2, []), (0, [(0, 1)])), (65, (0, []), (0, [(1, 1)])), (70, (5, []), (0, [(2, 1)])), (70, (1, []), (0, [(3, 1)])), (67, (12, []), (0, [(4, 1)])), (67, (13, []), (0, [(5, 1)])), (67, (14, []), (0, [(6, 1)])), (67, (15, []), (0, [(7, 1)])), (67, (16, []), (0, [(8, 1)])), (67, (17, []), (0, [(9, 1)])), (67, (0, []), (0, [(10, 1)])), (67, (1, []), (0, [(11, 1)])), (67, (2, []), (0, [(12, 1)])), (67, (3, []), (0, [(13, 1)])), (67, (4, []), (0, [(14, 1)])), (67, (5, []), (0, [(15, 1)]))], [2]), [(16, [], none, [], [0])], [], 0, 0)
def ceFW_3_0 : ck_N := (9999, (16, [(0, [(0, 1), (1, (-1))]), (0, [(0, (-1)), (1, 1)]), (0, [(2, 1), (3, (-1))]), (0, [(2, (-1)), (3, 1)]), (0, [(4, 1), (10, (-1))]), (0, [(4, (-1)), (10, 1)]), (0, [(5, 1), (11, (-1))]), (0, [(5, (-1)), (11, 1)]), (0, [(6, 1), (12, (-1))]), (0, [(6, (-1)), (12, 1)]), (0, [(7, 1), (13, (-1))]), (0, [(7, (-1)), (13, 1)]), (0, [(8, 1), (14, (-1))]), (0, [(8, (-1)), (14, 1)]), (0, [(9, 1), (15, (-1))]), (0, [(9, (-1)), (15, 1)])], [], [(65, (3, []), (0, [(0, 1)])), (65, (0, []), (0, [(1, 1)])), (70, (7, []), (0, [(2, 1)])), (70, (1, []), (0, [(3, 1)])), (67, (18, []), (0, [(4, 1)])), (67, (19, []), (0, [(5, 1)])), (67, (20, []), (0, [(6, 1)])), (67, (21, []), (0, [(7, 1)])), (67, (22, []), (0, [(8, 1)])), (67, (23, []), (0, [(9, 1)])), (67, (0, []), (0, [(10, 1)])), (67, (1, []), (0, [(11, 1)])), (67, (2, []), (0, [(12, 1)])), (67, (3, []), (0, [(13, 1)])), (67, (4, []), (0, [(14, 1)])), (67, (5, []), (0, [(15, 1)]))], [3]), [(16, [], none, [], [0])], [], 0, 0)
def ceFC : ck_N := (9999, (6, [((-1), [(0, 1)]), ((-1), [(1, 1)]), ((-1), [(2, 1)]), ((-1), [(3, 1)]), ((-1), [(4, 1)]), ((-1), [(5, 1)])], [], [(67, (24, []), (0, [(0, 1)])), (67, (25, []), (0, [(1, 1)])), (67, (26, []), (0, [(2, 1)])), (67, (27, []), (0, [(3, 1)])), (67, (28, []), (0, [(4, 1)])), (67, (29, []), (0, [(5, 1)]))], []), [(6, [], none, [], [14])], [], 0, 0)
def ceV0 : ck_N := (9999, (2, [(0, [(0, 1)]), (3, [(0, (-1))]), (0, [(1, 1)]), (6, [(1, (-1))])], [], [], []), [(2, [], none, [(106, (0, [(0, 1000), (1, 1)]), (1, []))], [])], [], 0, 0)
def ceV1 : ck_N := (9999, (6, [(0, [(0, 1)]), (3, [(0, (-1))]), (0, [(1, 1)]), (59, [(1, (-1))]), (0, [(2, 1)]), (6, [(2, (-1))]), ((-1), [(3, 1)]), (0, [(4, 1)]), (99, [(4, (-1))]), ((-1), [(2, 1), (5, (-1))])], [], [(106, (0, [(0, 1000), (1, 10), (2, 1)]), (0, [(3, 1)])), (61, (0, [(0, 60), (1, 1)]), (0, [(4, 1)])), (207, (170141183460469231731687303715884105738, [(4, 18446744073709551616)]), (0, [(5, 1)]))], []), [(6, [], none, [(106, (10, [(0, 1000), (1, 10), (2, 1)]), (1, []))], [])], [], 0, 0)
def ceV2 : ck_N := (9999, (6, [(0, [(0, 1)]), (3, [(0, (-1))]), (0, [(1, 1)]), ((-1), [(1, (-1)), (3, 1)]), (60, [(3, (-1))]), (0, [(2, 1)]), (6, [(2, (-1))]), ((-1), [(4, 1)])], [], [(60, (0, [(0, 1)]), (0, [(3, 1)])), (106, (0, [(0, 1000), (2, 1), (3, 10)]), (0, [(4, 1)])), (61, (0, [(0, 60), (1, 1)]), (0, [(5, 1)]))], []), [(6, [(0, [(5, 1)]), (99, [(5, (-1))])], none, [], [])], [], 0, 0)
def ceV3 : ck_N := (9999, (7, [(0, [(0, 1)]), (3, [(0, (-1))]), (0, [(1, 1)]), ((-1), [(1, (-1)), (3, 1)]), (60, [(3, (-1))]), (0, [(2, 1)]), (6, [(2, (-1))]), ((-1), [(4, 1)]), (0, [(5, 1)]), (99, [(5, (-1))])], [], [(60, (0, [(0, 1)]), (0, [(3, 1)])), (106, (0, [(0, 1000), (2, 1), (3, 10)]), (0, [(4, 1)])), (61, (0, [(0, 60), (1, 1)]), (0, [(5, 1)])), (201, (9223372036854775818, [(5, 4294967296)]), (0, [(6, 1)]))], []), [(7, [((-1), [(2, 1), (6, (-1))])], none, [], [])], [], 0, 0)
def ceWU_0 : ck_N := (9999, (0, [], [], [], []), [(1, [(0, [(0, 1)]), (1, [(0, (-1))])], none, [(108, (0, []), (0, [(0, 1)]))], [])], [], 0, 0)
def ceWU_1 : ck_N := (9999, (0, [], [], [], []), [(1, [(0, [(0, 1)]), (1, [(0, (-1))])], none, [(108, (1, []), (0, [(0, 1)]))], [])], [], 0, 0)
def ceWU_2 : ck_N := (9999, (0, [], [], [], []), [(1, [(0, [(0, 1)]), (1, [(0, (-1))])], none, [(108, (2, []), (0, [(0, 1)]))], [])], [], 0, 0)
def ceWU_3 : ck_N := (9999, (0, [], [], [], []), [(1, [(0, [(0, 1)]), (1, [(0, (-1))])], none, [(108, (3, []), (0, [(0, 1)]))], [])], [], 0, 0)
def ceWU_4 : ck_N := (9999, (0, [], [], [], []), [(1, [(0, [(0, 1)]), (1, [(0, (-1))])], none, [(108, (4, []), (0, [(0, 1)]))], [])], [], 0, 0)
def ceWU_5 : ck_N := (9999, (0, [], [], [], []), [(1, [(0, [(0, 1)]), (1, [(0, (-1))])], none, [(108, (5, []), (0, [(0, 1)]))], [])], [], 0, 0)
def ceWS_65_0 : ck_N := (10065, (7, [(0, [(0, 1)]), (0, [(0, (-1))])], [.inl (.inl (0, [(0, 1)])), .inl (.inl (0, [(1, 1)]))], [(108, (1, []), (0, [(2, 1)])), (108, (2, []), (0, [(3, 1)])), (108, (3, []), (0, [(4, 1)])), (108, (4, []), (0, [(5, 1)])), (108, (5, []), (0, [(6, 1)]))], []), [(7, [], none, [(108, (1, []), (0, [(2, 1)])), (108, (2, []), (0, [(3, 1)])), (108, (3, []), (0, [(4, 1)])), (108, (4, []), (0, [(5, 1)])), (108, (5, []), (0, [(6, 1)]))], [])], [], 0, 0)
def ceWS_67_0 : ck_N := (10067, (7, [(0, [(0, 1)]), (5, [(0, (-1))])], [.inl (.inl (0, [(0, 1)])), .inl (.inl (0, [(1, 1)]))], [(108, (1, []), (0, [(2, 1)])), (108, (2, []), (0, [(3, 1)])), (108, (3, []), (0, [(4, 1)])), (108, (4, []), (0, [(5, 1)])), (108, (5, []), (0, [(6, 1)]))], []), [(7, [], none, [(108, (1, []), (0, [(2, 1)])), (108, (2, []), (0, [(3, 1)])), (108, (3, []), (0, [(4, 1)])), (108, (4, []), (0, [(5, 1)])), (108, (5, []), (0, [(6, 1)]))], [])], [], 0, 0)
def ceWS_69_0 : ck_N := (10069, (7, [(0, [(0, 1)]), (47, [(0, (-1))])], [.inl (.inl (0, [(0, 1)])), .inl (.inl (0, [(1, 1)]))], [(108, (1, []), (0, [(2, 1)])), (108, (2, []), (0, [(3, 1)])), (108, (3, []), (0, [(4, 1)])), (108, (4, []), (0, [(5, 1)])), (108, (5, []), (0, [(6, 1)]))], []), [(7, [], none, [(108, (1, []), (0, [(2, 1)])), (108, (2, []), (0, [(3, 1)])), (108, (3, []), (0, [(4, 1)])), (108, (4, []), (0, [(5, 1)])), (108, (5, []), (0, [(6, 1)]))], [])], [], 0, 0)
def ceWS_70_0 : ck_N := (10070, (7, [(0, [(0, 1)]), (1, [(0, (-1))])], [.inl (.inl (0, [(0, 1)])), .inl (.inl (0, [(1, 1)]))], [(108, (1, []), (0, [(2, 1)])), (108, (2, []), (0, [(3, 1)])), (108, (3, []), (0, [(4, 1)])), (108, (4, []), (0, [(5, 1)])), (108, (5, []), (0, [(6, 1)]))], []), [(7, [], none, [(108, (1, []), (0, [(2, 1)])), (108, (2, []), (0, [(3, 1)])), (108, (3, []), (0, [(4, 1)])), (108, (4, []), (0, [(5, 1)])), (108, (5, []), (0, [(6, 1)]))], [])], [], 0, 0)
def ceWS_72_0 : ck_N := (10072, (7, [(0, [(0, 1)]), (23, [(0, (-1))])], [.inl (.inl (0, [(0, 1)])), .inl (.inl (0, [(1, 1)]))], [(108, (1, []), (0, [(2, 1)])), (108, (2, []), (0, [(3, 1)])), (108, (3, []), (0, [(4, 1)])), (108, (4, []), (0, [(5, 1)])), (108, (5, []), (0, [(6, 1)]))], []), [(7, [], none, [(108, (1, []), (0, [(2, 1)])), (108, (2, []), (0, [(3, 1)])), (108, (3, []), (0, [(4, 1)])), (108, (4, []), (0, [(5, 1)])), (108, (5, []), (0, [(6, 1)]))], [])], [], 0, 0)
def ceWS_65_1 : ck_N := (10065, (7, [((-1), [(0, 1)]), (1, [(0, (-1))])], [.inl (.inl (0, [(0, 1)])), .inl (.inl (0, [(1, 1)]))], [(108, (0, []), (0, [(2, 1)])), (108, (2, []), (0, [(3, 1)])), (108, (3, []), (0, [(4, 1)])), (108, (4, []), (0, [(5, 1)])), (108, (5, []), (0, [(6, 1)]))], []), [(7, [], none, [(108, (0, []), (0, [(2, 1)])), (108, (2, []), (0, [(3, 1)])), (108, (3, []), (0, [(4, 1)])), (108, (4, []), (0, [(5, 1)])), (108, (5, []), (0, [(6, 1)]))], [])], [], 0, 0)
def ceWS_67_1 : ck_N := (10067, (7, [((-6), [(0, 1)]), (11, [(0, (-1))])], [.inl (.inl (0, [(0, 1)])), .inl (.inl (0, [(1, 1)]))], [(108, (0, []), (0, [(2, 1)])), (108, (2, []), (0, [(3, 1)])), (108, (3, []), (0, [(4, 1)])), (108, (4, []), (0, [(5, 1)])), (108, (5, []), (0, [(6, 1)]))], []), [(7, [], none, [(108, (0, []), (0, [(2, 1)])), (108, (2, []), (0, [(3, 1)])), (108, (3, []), (0, [(4, 1)])), (108, (4, []), (0, [(5, 1)])), (108, (5, []), (0, [(6, 1)]))], [])], [], 0, 0)
def ceWS_69_1 : ck_N := (10069, (7, [((-48), [(0, 1)]), (95, [(0, (-1))])], [.inl (.inl (0, [(0, 1)])), .inl (.inl (0, [(1, 1)]))], [(108, (0, []), (0, [(2, 1)])), (108, (2, []), (0, [(3, 1)])), (108, (3, []), (0, [(4, 1)])), (108, (4, []), (0, [(5, 1)])), (108, (5, []), (0, [(6, 1)]))], []), [(7, [], none, [(108, (0, []), (0, [(2, 1)])), (108, (2, []), (0, [(3, 1)])), (108, (3, []), (0, [(4, 1)])), (108, (4, []), (0, [(5, 1)])), (108, (5, []), (0, [(6, 1)]))], [])], [], 0, 0)
def ceWS_70_1 : ck_N := (10070, (7, [((-2), [(0, 1)]), (3, [(0, (-1))])], [.inl (.inl (0, [(0, 1)])), .inl (.inl (0, [(1, 1)]))], [(108, (0, []), (0, [(2, 1)])), (108, (2, []), (0, [(3, 1)])), (108, (3, []), (0, [(4, 1)])), (108, (4, []), (0, [(5, 1)])), (108, (5, []), (0, [(6, 1)]))], []), [(7, [], none, [(108, (0, []), (0, [(2, 1)])), (108, (2, []), (0, [(3, 1)])), (108, (3, []), (0, [(4, 1)])), (108, (4, []), (0, [(5, 1)])), (108, (5, []), (0, [(6, 1)]))], [])], [], 0, 0)
def ceWS_72_1 : ck_N := (10072, (7, [((-24), [(0, 1)]), (47, [(0, (-1))])], [.inl (.inl (0, [(0, 1)])), .inl (.inl (0, [(1, 1)]))], [(108, (0, []), (0, [(2, 1)])), (108, (2, []), (0, [(3, 1)])), (108, (3, []), (0, [(4, 1)])), (108, (4, []), (0, [(5, 1)])), (108, (5, []), (0, [(6, 1)]))], []), [(7, [], none, [(108, (0, []), (0, [(2, 1)])), (108, (2, []), (0, [(3, 1)])), (108, (3, []), (0, [(4, 1)])), (108, (4, []), (0, [(5, 1)])), (108, (5, []), (0, [(6, 1)]))], [])], [], 0, 0)
def ceWS_65_2 : ck_N := (10065, (7, [((-2), [(0, 1)]), (2, [(0, (-1))])], [.inl (.inl (0, [(0, 1)])), .inl (.inl (0, [(1, 1)]))], [(108, (0, []), (0, [(2, 1)])), (108, (1, []), (0, [(3, 1)])), (108, (3, []), (0, [(4, 1)])), (108, (4, []), (0, [(5, 1)])), (108, (5, []), (0, [(6, 1)]))], []), [(7, [], none, [(108, (0, []), (0, [(2, 1)])), (108, (1, []), (0, [(3, 1)])), (108, (3, []), (0, [(4, 1)])), (108, (4, []), (0, [(5, 1)])), (108, (5, []), (0, [(6, 1)]))], [])], [], 0, 0)
def ceWS_67_2 : ck_N := (10067, (7, [((-12), [(0, 1)]), (17, [(0, (-1))])], [.inl (.inl (0, [(0, 1)])), .inl (.inl (0, [(1, 1)]))], [(108, (0, []), (0, [(2, 1)])), (108, (1, []), (0, [(3, 1)])), (108, (3, []), (0, [(4, 1)])), (108, (4, []), (0, [(5, 1)])), (108, (5, []), (0, [(6, 1)]))], []), [(7, [], none, [(108, (0, []), (0, [(2, 1)])), (108, (1, []), (0, [(3, 1)])), (108, (3, []), (0, [(4, 1)])), (108, (4, []), (0, [(5, 1)])), (108, (5, []), (0, [(6, 1)]))], [])], [], 0, 0)
def ceWS_69_2 : ck_N := (10069, (7, [((-96), [(0, 1)]), (143, [(0, (-1))])], [.inl (.inl (0, [(0, 1)])), .inl (.inl (0, [(1, 1)]))], [(108, (0, []), (0, [(2, 1)])), (108, (1, []), (0, [(3, 1)])), (108, (3, []), (0, [(4, 1)])), (108, (4, []), (0, [(5, 1)])), (108, (5, []), (0, [(6, 1)]))], []), [(7, [], none, [(108, (0, []), (0, [(2, 1)])), (108, (1, []), (0, [(3, 1)])), (108, (3, []), (0, [(4, 1)])), (108, (4, []), (0, [(5, 1)])), (108, (5, []), (0, [(6, 1)]))], [])], [], 0, 0)
def ceWS_70_2 : ck_N := (10070, (7, [((-4), [(0, 1)]), (5, [(0, (-1))])], [.inl (.inl (0, [(0, 1)])), .inl (.inl (0, [(1, 1)]))], [(108, (0, []), (0, [(2, 1)])), (108, (1, []), (0, [(3, 1)])), (108, (3, []), (0, [(4, 1)])), (108, (4, []), (0, [(5, 1)])), (108, (5, []), (0, [(6, 1)]))], []), [(7, [], none, [(108, (0, []), (0, [(2, 1)])), (108, (1, []), (0, [(3, 1)])), (108, (3, []), (0, [(4, 1)])), (108, (4, []), (0, [(5, 1)])), (108, (5, []), (0, [(6, 1)]))], [])], [], 0, 0)
def ceWS_72_2 : ck_N := (10072, (7, [((-48), [(0, 1)]), (71, [(0, (-1))])], [.inl (.inl (0, [(0, 1)])), .inl (.inl (0, [(1, 1)]))], [(108, (0, []), (0, [(2, 1)])), (108, (1, []), (0, [(3, 1)])), (108, (3, []), (0, [(4, 1)])), (108, (4, []), (0, [(5, 1)])), (108, (5, []), (0, [(6, 1)]))], []), [(7, [], none, [(108, (0, []), (0, [(2, 1)])), (108, (1, []), (0, [(3, 1)])), (108, (3, []), (0, [(4, 1)])), (108, (4, []), (0, [(5, 1)])), (108, (5, []), (0, [(6, 1)]))], [])], [], 0, 0)
def ceWS_65_3 : ck_N := (10065, (7, [((-3), [(0, 1)]), (3, [(0, (-1))])], [.inl (.inl (0, [(0, 1)])), .inl (.inl (0, [(1, 1)]))], [(108, (0, []), (0, [(2, 1)])), (108, (1, []), (0, [(3, 1)])), (108, (2, []), (0, [(4, 1)])), (108, (4, []), (0, [(5, 1)])), (108, (5, []), (0, [(6, 1)]))], []), [(7, [], none, [(108, (0, []), (0, [(2, 1)])), (108, (1, []), (0, [(3, 1)])), (108, (2, []), (0, [(4, 1)])), (108, (4, []), (0, [(5, 1)])), (108, (5, []), (0, [(6, 1)]))], [])], [], 0, 0)
def ceWS_67_3 : ck_N := (10067, (7, [((-18), [(0, 1)]), (23, [(0, (-1))])], [.inl (.inl (0, [(0, 1)])), .inl (.inl (0, [(1, 1)]))], [(108, (0, []), (0, [(2, 1)])), (108, (1, []), (0, [(3, 1)])), (108, (2, []), (0, [(4, 1)])), (108, (4, []), (0, [(5, 1)])), (108, (5, []), (0, [(6, 1)]))], []), [(7, [], none, [(108, (0, []), (0, [(2, 1)])), (108, (1, []), (0, [(3, 1)])), (108, (2, []), (0, [(4, 1)])), (108, (4, []), (0, [(5, 1)])), (108, (5, []), (0, [(6, 1)]))], [])], [], 0, 0)
def ceWS_69_3 : ck_N := (10069, (7, [((-144), [(0, 1)]), (191, [(0, (-1))])], [.inl (.inl (0, [(0, 1)])), .inl (.inl (0, [(1, 1)]))], [(108, (0, []), (0, [(2, 1)])), (108, (1, []), (0, [(3, 1)])), (108, (2, []), (0, [(4, 1)])), (108, (4, []), (0, [(5, 1)])), (108, (5, []), (0, [(6, 1)]))], []), [(7, [], none, [(108, (0, []), (0, [(2, 1)])), (108, (1, []), (0, [(3, 1)])), (108, (2, []), (0, [(4, 1)])), (108, (4, []), (0, [(5, 1)])), (108, (5, []), (0, [(6, 1)]))], [])], [], 0, 0)
def ceWS_70_3 : ck_N := (10070, (7, [((-6), [(0, 1)]), (7, [(0, (-1))])], [.inl (.inl (0, [(0, 1)])), .inl (.inl (0, [(1, 1)]))], [(108, (0, []), (0, [(2, 1)])), (108, (1, []), (0, [(3, 1)])), (108, (2, []), (0, [(4, 1)])), (108, (4, []), (0, [(5, 1)])), (108, (5, []), (0, [(6, 1)]))], []), [(7, [], none, [(108, (0, []), (0, [(2, 1)])), (108, (1, []), (0, [(3, 1)])), (108, (2, []), (0, [(4, 1)])), (108, (4, []), (0, [(5, 1)])), (108, (5, []), (0, [(6, 1)]))], [])], [], 0, 0)
def ceWS_72_3 : ck_N := (10072, (7, [((-72), [(0, 1)]), (95, [(0, (-1))])], [.inl (.inl (0, [(0, 1)])), .inl (.inl (0, [(1, 1)]))], [(108, (0, []), (0, [(2, 1)])), (108, (1, []), (0, [(3, 1)])), (108, (2, []), (0, [(4, 1)])), (108, (4, []), (0, [(5, 1)])), (108, (5, []), (0, [(6, 1)]))], []), [(7, [], none, [(108, (0, []), (0, [(2, 1)])), (108, (1, []), (0, [(3, 1)])), (108, (2, []), (0, [(4, 1)])), (108, (4, []), (0, [(5, 1)])), (108, (5, []), (0, [(6, 1)]))], [])], [], 0, 0)
def ceWS_65_4 : ck_N := (10065, (7, [((-4), [(0, 1)]), (4, [(0, (-1))])], [.inl (.inl (0, [(0, 1)])), .inl (.inl (0, [(1, 1)]))], [(108, (0, []), (0, [(2, 1)])), (108, (1, []), (0, [(3, 1)])), (108, (2, []), (0, [(4, 1)])), (108, (3, []), (0, [(5, 1)])), (108, (5, []), (0, [(6, 1)]))], []), [(7, [], none, [(108, (0, []), (0, [(2, 1)])), (108, (1, []), (0, [(3, 1)])), (108, (2, []), (0, [(4, 1)])), (108, (3, []), (0, [(5, 1)])), (108, (5, []), (0, [(6, 1)]))], [])], [], 0, 0)
def ceWS_67_4 : ck_N := (10067, (7, [((-24), [(0, 1)]), (29, [(0, (-1))])], [.inl (.inl (0, [(0, 1)])), .inl (.inl (0, [(1, 1)]))], [(108, (0, []), (0, [(2, 1)])), (108, (1, []), (0, [(3, 1)])), (108, (2, []), (0, [(4, 1)])), (108, (3, []), (0, [(5, 1)])), (108, (5, []), (0, [(6, 1)]))], []), [(7, [], none, [(108, (0, []), (0, [(2, 1)])), (108, (1, []), (0, [(3, 1)])), (108, (2, []), (0, [(4, 1)])), (108, (3, []), (0, [(5, 1)])), (108, (5, []), (0, [(6, 1)]))], [])], [], 0, 0)
def ceWS_69_4 : ck_N := (10069, (7, [((-192), [(0, 1)]), (239, [(0, (-1))])], [.inl (.inl (0, [(0, 1)])), .inl (.inl (0, [(1, 1)]))], [(108, (0, []), (0, [(2, 1)])), (108, (1, []), (0, [(3, 1)])), (108, (2, []), (0, [(4, 1)])), (108, (3, []), (0, [(5, 1)])), (108, (5, []), (0, [(6, 1)]))], []), [(7, [], none, [(108, (0, []), (0, [(2, 1)])), (108, (1, []), (0, [(3, 1)])), (108, (2, []), (0, [(4, 1)])), (108, (3, []), (0, [(5, 1)])), (108, (5, []), (0, [(6, 1)]))], [])], [], 0, 0)
def ceWS_70_4 : ck_N := (10070, (7, [((-8), [(0, 1)]), (9, [(0, (-1))])], [.inl (.inl (0, [(0, 1)])), .inl (.inl (0, [(1, 1)]))], [(108, (0, []), (0, [(2, 1)])), (108, (1, []), (0, [(3, 1)])), (108, (2, []), (0, [(4, 1)])), (108, (3, []), (0, [(5, 1)])), (108, (5, []), (0, [(6, 1)]))], []), [(7, [], none, [(108, (0, []), (0, [(2, 1)])), (108, (1, []), (0, [(3, 1)])), (108, (2, []), (0, [(4, 1)])), (108, (3, []), (0, [(5, 1)])), (108, (5, []), (0, [(6, 1)]))], [])], [], 0, 0)
def ceWS_72_4 : ck_N := (10072, (7, [((-96), [(0, 1)]), (119, [(0, (-1))])], [.inl (.inl (0, [(0, 1)])), .inl (.inl (0, [(1, 1)]))], [(108, (0, []), (0, [(2, 1)])), (108, (1, []), (0, [(3, 1)])), (108, (2, []), (0, [(4, 1)])), (108, (3, []), (0, [(5, 1)])), (108, (5, []), (0, [(6, 1)]))], []), [(7, [], none, [(108, (0, []), (0, [(2, 1)])), (108, (1, []), (0, [(3, 1)])), (108, (2, []), (0, [(4, 1)])), (108, (3, []), (0, [(5, 1)])), (108, (5, []), (0, [(6, 1)]))], [])], [], 0, 0)
def ceWS_65_5 : ck_N := (10065, (7, [((-5), [(0, 1)]), (5, [(0, (-1))])], [.inl (.inl (0, [(0, 1)])), .inl (.inl (0, [(1, 1)]))], [(108, (0, []), (0, [(2, 1)])), (108, (1, []), (0, [(3, 1)])), (108, (2, []), (0, [(4, 1)])), (108, (3, []), (0, [(5, 1)])), (108, (4, []), (0, [(6, 1)]))], []), [(7, [], none, [(108, (0, []), (0, [(2, 1)])), (108, (1, []), (0, [(3, 1)])), (108, (2, []), (0, [(4, 1)])), (108, (3, []), (0, [(5, 1)])), (108, (4, []), (0, [(6, 1)]))], [])], [], 0, 0)
def ceWS_67_5 : ck_N := (10067, (7, [((-30), [(0, 1)]), (35, [(0, (-1))])], [.inl (.inl (0, [(0, 1)])), .inl (.inl (0, [(1, 1)]))], [(108, (0, []), (0, [(2, 1)])), (108, (1, []), (0, [(3, 1)])), (108, (2, []), (0, [(4, 1)])), (108, (3, []), (0, [(5, 1)])), (108, (4, []), (0, [(6, 1)]))], []), [(7, [], none, [(108, (0, []), (0, [(2, 1)])), (108, (1, []), (0, [(3, 1)])), (108, (2, []), (0, [(4, 1)])), (108, (3, []), (0, [(5, 1)])), (108, (4, []), (0, [(6, 1)]))], [])], [], 0, 0)
def ceWS_69_5 : ck_N := (10069, (7, [((-240), [(0, 1)]), (287, [(0, (-1))])], [.inl (.inl (0, [(0, 1)])), .inl (.inl (0, [(1, 1)]))], [(108, (0, []), (0, [(2, 1)])), (108, (1, []), (0, [(3, 1)])), (108, (2, []), (0, [(4, 1)])), (108, (3, []), (0, [(5, 1)])), (108, (4, []), (0, [(6, 1)]))], []), [(7, [], none, [(108, (0, []), (0, [(2, 1)])), (108, (1, []), (0, [(3, 1)])), (108, (2, []), (0, [(4, 1)])), (108, (3, []), (0, [(5, 1)])), (108, (4, []), (0, [(6, 1)]))], [])], [], 0, 0)
def ceWS_70_5 : ck_N := (10070, (7, [((-10), [(0, 1)]), (11, [(0, (-1))])], [.inl (.inl (0, [(0, 1)])), .inl (.inl (0, [(1, 1)]))], [(108, (0, []), (0, [(2, 1)])), (108, (1, []), (0, [(3, 1)])), (108, (2, []), (0, [(4, 1)])), (108, (3, []), (0, [(5, 1)])), (108, (4, []), (0, [(6, 1)]))], []), [(7, [], none, [(108, (0, []), (0, [(2, 1)])), (108, (1, []), (0, [(3, 1)])), (108, (2, []), (0, [(4, 1)])), (108, (3, []), (0, [(5, 1)])), (108, (4, []), (0, [(6, 1)]))], [])], [], 0, 0)
def ceWS_72_5 : ck_N := (10072, (7, [((-120), [(0, 1)]), (143, [(0, (-1))])], [.inl (.inl (0, [(0, 1)])), .inl (.inl (0, [(1, 1)]))], [(108, (0, []), (0, [(2, 1)])), (108, (1, []), (0, [(3, 1)])), (108, (2, []), (0, [(4, 1)])), (108, (3, []), (0, [(5, 1)])), (108, (4, []), (0, [(6, 1)]))], []), [(7, [], none, [(108, (0, []), (0, [(2, 1)])), (108, (1, []), (0, [(3, 1)])), (108, (2, []), (0, [(4, 1)])), (108, (3, []), (0, [(5, 1)])), (108, (4, []), (0, [(6, 1)]))], [])], [], 0, 0)
def ceWG_0 : ck_N := (10069, (9, [(0, [(0, 1)]), (47, [(0, (-1))]), ((-1), [(2, 1)]), ((-1), [(1, (-1)), (8, 1)])], [.inl (.inl (0, [(0, 1)])), .inl (.inl (0, [(1, 1)]))], [(108, (0, []), (0, [(2, 1)])), (108, (1, []), (0, [(3, 1)])), (108, (2, []), (0, [(4, 1)])), (108, (3, []), (0, [(5, 1)])), (108, (4, []), (0, [(6, 1)])), (108, (5, []), (0, [(7, 1)])), (65, (0, []), (0, [(8, 1)]))], []), [(9, [], none, [(108, (0, []), (1, [])), (108, (1, []), (0, [(3, 1)])), (108, (2, []), (0, [(4, 1)])), (108, (3, []), (0, [(5, 1)])), (108, (4, []), (0, [(6, 1)])), (108, (5, []), (0, [(7, 1)]))], [])], [], 0, 0)
def ceWGp_0 : ck_N := (10069, (12, [(0, [(0, 1)]), (5, [(0, (-1))]), (0, [(1, 1)]), (7, [(1, (-1))]), (0, [(0, (-8)), (1, (-1)), (3, 1)]), (0, [(0, 8), (1, 1), (3, (-1))]), ((-1), [(4, 1)]), ((-1), [(2, (-1)), (10, 1)]), ((-1), [(11, 1)])], [.inl (.inl (0, [(3, 1)])), .inl (.inl (0, [(2, 1)]))], [(108, (0, []), (0, [(4, 1)])), (108, (1, []), (0, [(5, 1)])), (108, (2, []), (0, [(6, 1)])), (108, (3, []), (0, [(7, 1)])), (108, (4, []), (0, [(8, 1)])), (108, (5, []), (0, [(9, 1)])), (65, (0, []), (0, [(10, 1)])), (109, (0, [(0, 10), (1, 1)]), (0, [(11, 1)]))], []), [(12, [], none, [(108, (0, []), (1, [])), (108, (1, []), (0, [(5, 1)])), (108, (2, []), (0, [(6, 1)])), (108, (3, []), (0, [(7, 1)])), (108, (4, []), (0, [(8, 1)])), (108, (5, []), (0, [(9, 1)])), (109, (1, [(0, 10), (1, 1)]), (1, []))], [])], [], 0, 0)
def ceWGq_0 : ck_N := (10069, (12, [(0, [(0, 1)]), (5, [(0, (-1))]), (0, [(1, 1)]), (7, [(1, (-1))]), (0, [(0, (-8)), (1, (-1)), (3, 1)]), (0, [(0, 8), (1, 1), (3, (-1))]), ((-1), [(4, 1)]), ((-1), [(2, (-1)), (10, 1)]), ((-1), [(11, 1)])], [.inl (.inl (0, [(3, 1)])), .inl (.inl (0, [(2, 1)]))], [(108, (0, []), (0, [(4, 1)])), (108, (1, []), (0, [(5, 1)])), (108, (2, []), (0, [(6, 1)])), (108, (3, []), (0, [(7, 1)])), (108, (4, []), (0, [(8, 1)])), (108, (5, []), (0, [(9, 1)])), (65, (0, []), (0, [(10, 1)])), (109, (1, [(0, 10), (1, 1)]), (0, [(11, 1)]))], []), [(12, [], none, [(108, (0, []), (1, [])), (108, (1, []), (0, [(5, 1)])), (108, (2, []), (0, [(6, 1)])), (108, (3, []), (0, [(7, 1)])), (108, (4, []), (0, [(8, 1)])), (108, (5, []), (0, [(9, 1)])), (109, (1, [(0, 10), (1, 1)]), (1, []))], [])], [], 0, 0)
def ceWP_0 : ck_N := (10067, (10, [(0, [(0, 1)]), (5, [(0, (-1))]), (0, [(1, 1)]), (8, [(1, (-1))]), (0, [(0, (-1)), (2, 1)]), (0, [(0, 1), (2, (-1))]), ((-1), [(3, 1)]), ((-1), [(9, 1)])], [.inl (.inl (0, [(2, 1)])), .inl (.inl (0, [(1, 1)]))], [(108, (0, []), (0, [(3, 1)])), (108, (1, []), (0, [(4, 1)])), (108, (2, []), (0, [(5, 1)])), (108, (3, []), (0, [(6, 1)])), (108, (4, []), (0, [(7, 1)])), (108, (5, []), (0, [(8, 1)])), (109, (0, [(0, 10), (1, 1)]), (0, [(9, 1)]))], []), [(10, [], none, [(108, (0, []), (1, [])), (108, (1, []), (0, [(4, 1)])), (108, (2, []), (0, [(5, 1)])), (108, (3, []), (0, [(6, 1)])), (108, (4, []), (0, [(7, 1)])), (108, (5, []), (0, [(8, 1)]))], [])], [], 0, 0)
def cePX_0 : ck_N := (9999, (1, [(0, [(0, 1)]), (5, [(0, (-1))])], [], [], []), [(1, [], none, [(109, (0, [(0, 10)]), (1, []))], [])], [], 0, 0)
def ceWG_4 : ck_N := (10069, (9, [((-192), [(0, 1)]), (239, [(0, (-1))]), ((-1), [(6, 1)]), ((-1), [(1, (-1)), (8, 1)])], [.inl (.inl (0, [(0, 1)])), .inl (.inl (0, [(1, 1)]))], [(108, (0, []), (0, [(2, 1)])), (108, (1, []), (0, [(3, 1)])), (108, (2, []), (0, [(4, 1)])), (108, (3, []), (0, [(5, 1)])), (108, (4, []), (0, [(6, 1)])), (108, (5, []), (0, [(7, 1)])), (65, (4, []), (0, [(8, 1)]))], []), [(9, [], none, [(108, (0, []), (0, [(2, 1)])), (108, (1, []), (0, [(3, 1)])), (108, (2, []), (0, [(4, 1)])), (108, (3, []), (0, [(5, 1)])), (108, (4, []), (1, [])), (108, (5, []), (0, [(7, 1)]))], [])], [], 0, 0)
def ceWGp_4 : ck_N := (10069, (12, [(0, [(0, 1)]), (5, [(0, (-1))]), (0, [(1, 1)]), (7, [(1, (-1))]), ((-192), [(0, (-8)), (1, (-1)), (3, 1)]), (192, [(0, 8), (1, 1), (3, (-1))]), ((-1), [(8, 1)]), ((-1), [(2, (-1)), (10, 1)]), ((-1), [(11, 1)])], [.inl (.inl (0, [(3, 1)])), .inl (.inl (0, [(2, 1)]))], [(108, (0, []), (0, [(4, 1)])), (108, (1, []), (0, [(5, 1)])), (108, (2, []), (0, [(6, 1)])), (108, (3, []), (0, [(7, 1)])), (108, (4, []), (0, [(8, 1)])), (108, (5, []), (0, [(9, 1)])), (65, (4, []), (0, [(10, 1)])), (109, (4000, [(0, 10), (1, 1)]), (0, [(11, 1)]))], []), [(12, [], none, [(108, (0, []), (0, [(4, 1)])), (108, (1, []), (0, [(5, 1)])), (108, (2, []), (0, [(6, 1)])), (108, (3, []), (0, [(7, 1)])), (108, (4, []), (1, [])), (108, (5, []), (0, [(9, 1)])), (109, (4001, [(0, 10), (1, 1)]), (1, []))], [])], [], 0, 0)
def ceWGq_4 : ck_N := (10069, (12, [(0, [(0, 1)]), (5, [(0, (-1))]), (0, [(1, 1)]), (7, [(1, (-1))]), ((-192), [(0, (-8)), (1, (-1)), (3, 1)]), (192, [(0, 8), (1, 1), (3, (-1))]), ((-1), [(8, 1)]), ((-1), [(2, (-1)), (10, 1)]), ((-1), [(11, 1)])], [.inl (.inl (0, [(3, 1)])), .inl (.inl (0, [(2, 1)]))], [(108, (0, []), (0, [(4, 1)])), (108, (1, []), (0, [(5, 1)])), (108, (2, []), (0, [(6, 1)])), (108, (3, []), (0, [(7, 1)])), (108, (4, []), (0, [(8, 1)])), (108, (5, []), (0, [(9, 1)])), (65, (4, []), (0, [(10, 1)])), (109, (4001, [(0, 10), (1, 1)]), (0, [(11, 1)]))], []), [(12, [], none, [(108, (0, []), (0, [(4, 1)])), (108, (1, []), (0, [(5, 1)])), (108, (2, []), (0, [(6, 1)])), (108, (3, []), (0, [(7, 1)])), (108, (4, []), (1, [])), (108, (5, []), (0, [(9, 1)])), (109, (4001, [(0, 10), (1, 1)]), (1, []))], [])], [], 0, 0)
def ceWP_4 : ck_N := (10067, (10, [(0, [(0, 1)]), (5, [(0, (-1))]), (0, [(1, 1)]), (8, [(1, (-1))]), ((-24), [(0, (-1)), (2, 1)]), (24, [(0, 1), (2, (-1))]), ((-1), [(7, 1)]), ((-1), [(9, 1)])], [.inl (.inl (0, [(2, 1)])), .inl (.inl (0, [(1, 1)]))], [(108, (0, []), (0, [(3, 1)])), (108, (1, []), (0, [(4, 1)])), (108, (2, []), (0, [(5, 1)])), (108, (3, []), (0, [(6, 1)])), (108, (4, []), (0, [(7, 1)])), (108, (5, []), (0, [(8, 1)])), (109, (4000, [(0, 10), (1, 1)]), (0, [(9, 1)]))], []), [(10, [], none, [(108, (0, []), (0, [(3, 1)])), (108, (1, []), (0, [(4, 1)])), (108, (2, []), (0, [(5, 1)])), (108, (3, []), (0, [(6, 1)])), (108, (4, []), (1, [])), (108, (5, []), (0, [(8, 1)]))], [])], [], 0, 0)
def cePX_4 : ck_N := (9999, (1, [(0, [(0, 1)]), (5, [(0, (-1))])], [], [], []), [(1, [], none, [(109, (4000, [(0, 10)]), (1, []))], [])], [], 0, 0)
def ceWG_5 : ck_N := (10069, (9, [((-240), [(0, 1)]), (287, [(0, (-1))]), ((-1), [(7, 1)]), ((-1), [(1, (-1)), (8, 1)])], [.inl (.inl (0, [(0, 1)])), .inl (.inl (0, [(1, 1)]))], [(108, (0, []), (0, [(2, 1)])), (108, (1, []), (0, [(3, 1)])), (108, (2, []), (0, [(4, 1)])), (108, (3, []), (0, [(5, 1)])), (108, (4, []), (0, [(6, 1)])), (108, (5, []), (0, [(7, 1)])), (65, (5, []), (0, [(8, 1)]))], []), [(9, [], none, [(108, (0, []), (0, [(2, 1)])), (108, (1, []), (0, [(3, 1)])), (108, (2, []), (0, [(4, 1)])), (108, (3, []), (0, [(5, 1)])), (108, (4, []), (0, [(6, 1)])), (108, (5, []), (1, []))], [])], [], 0, 0)
def ceWGp_5 : ck_N := (10069, (12, [(0, [(0, 1)]), (5, [(0, (-1))]), (0, [(1, 1)]), (7, [(1, (-1))]), ((-240), [(0, (-8)), (1, (-1)), (3, 1)]), (240, [(0, 8), (1, 1), (3, (-1))]), ((-1), [(9, 1)]), ((-1), [(2, (-1)), (10, 1)]), ((-1), [(11, 1)])], [.inl (.inl (0, [(3, 1)])), .inl (.inl (0, [(2, 1)]))], [(108, (0, []), (0, [(4, 1)])), (108, (1, []), (0, [(5, 1)])), (108, (2, []), (0, [(6, 1)])), (108, (3, []), (0, [(7, 1)])), (108, (4, []), (0, [(8, 1)])), (108, (5, []), (0, [(9, 1)])), (65, (5, []), (0, [(10, 1)])), (109, (5000, [(0, 10), (1, 1)]), (0, [(11, 1)]))], []), [(12, [], none, [(108, (0, []), (0, [(4, 1)])), (108, (1, []), (0, [(5, 1)])), (108, (2, []), (0, [(6, 1)])), (108, (3, []), (0, [(7, 1)])), (108, (4, []), (0, [(8, 1)])), (108, (5, []), (1, [])), (109, (5001, [(0, 10), (1, 1)]), (1, []))], [])], [], 0, 0)
def ceWGq_5 : ck_N := (10069, (12, [(0, [(0, 1)]), (5, [(0, (-1))]), (0, [(1, 1)]), (7, [(1, (-1))]), ((-240), [(0, (-8)), (1, (-1)), (3, 1)]), (240, [(0, 8), (1, 1), (3, (-1))]), ((-1), [(9, 1)]), ((-1), [(2, (-1)), (10, 1)]), ((-1), [(11, 1)])], [.inl (.inl (0, [(3, 1)])), .inl (.inl (0, [(2, 1)]))], [(108, (0, []), (0, [(4, 1)])), (108, (1, []), (0, [(5, 1)])), (108, (2, []), (0, [(6, 1)])), (108, (3, []), (0, [(7, 1)])), (108, (4, []), (0, [(8, 1)])), (108, (5, []), (0, [(9, 1)])), (65, (5, []), (0, [(10, 1)])), (109, (5001, [(0, 10), (1, 1)]), (0, [(11, 1)]))], []), [(12, [], none, [(108, (0, []), (0, [(4, 1)])), (108, (1, []), (0, [(5, 1)])), (108, (2, []), (0, [(6, 1)])), (108, (3, []), (0, [(7, 1)])), (108, (4, []), (0, [(8, 1)])), (108, (5, []), (1, [])), (109, (5001, [(0, 10), (1, 1)]), (1, []))], [])], [], 0, 0)
def ceWP_5 : ck_N := (10067, (10, [(0, [(0, 1)]), (5, [(0, (-1))]), (0, [(1, 1)]), (8, [(1, (-1))]), ((-30), [(0, (-1)), (2, 1)]), (30, [(0, 1), (2, (-1))]), ((-1), [(8, 1)]), ((-1), [(9, 1)])], [.inl (.inl (0, [(2, 1)])), .inl (.inl (0, [(1, 1)]))], [(108, (0, []), (0, [(3, 1)])), (108, (1, []), (0, [(4, 1)])), (108, (2, []), (0, [(5, 1)])), (108, (3, []), (0, [(6, 1)])), (108, (4, []), (0, [(7, 1)])), (108, (5, []), (0, [(8, 1)])), (109, (5000, [(0, 10), (1, 1)]), (0, [(9, 1)]))], []), [(10, [], none, [(108, (0, []), (0, [(3, 1)])), (108, (1, []), (0, [(4, 1)])), (108, (2, []), (0, [(5, 1)])), (108, (3, []), (0, [(6, 1)])), (108, (4, []), (0, [(7, 1)])), (108, (5, []), (1, []))], [])], [], 0, 0)
def cePX_5 : ck_N := (9999, (1, [(0, [(0, 1)]), (5, [(0, (-1))])], [], [], []), [(1, [], none, [(109, (5000, [(0, 10)]), (1, []))], [])], [], 0, 0)
def ceWT : ck_N := (10067, (8, [(0, [(0, 1)]), (5, [(0, (-1))]), ((-1), [(2, 1)])], [.inl (.inl (0, [(0, 1)])), .inl (.inl (0, [(1, 1)]))], [(108, (0, []), (0, [(2, 1)])), (108, (1, []), (0, [(3, 1)])), (108, (2, []), (0, [(4, 1)])), (108, (3, []), (0, [(5, 1)])), (108, (4, []), (0, [(6, 1)])), (108, (5, []), (0, [(7, 1)]))], []), [(8, [], none, [(108, (1, []), (0, [(3, 1)])), (108, (2, []), (0, [(4, 1)])), (108, (3, []), (0, [(5, 1)])), (108, (4, []), (0, [(6, 1)])), (108, (5, []), (0, [(7, 1)])), (112, (0, [(0, 1)]), (1, []))], [])], [], 0, 0)
def ceWX : ck_N := (10069, (12, [(0, [(0, 1)]), (5, [(0, (-1))]), (0, [(1, 1)]), (7, [(1, (-1))]), (0, [(0, (-8)), (1, (-1)), (3, 1)]), (0, [(0, 8), (1, 1), (3, (-1))]), ((-1), [(2, (-1)), (9, 1)]), ((-1), [(10, 1)]), ((-1), [(11, 1)])], [.inl (.inl (0, [(3, 1)])), .inl (.inl (0, [(2, 1)]))], [(108, (1, []), (0, [(4, 1)])), (108, (2, []), (0, [(5, 1)])), (108, (3, []), (0, [(6, 1)])), (108, (4, []), (0, [(7, 1)])), (108, (5, []), (0, [(8, 1)])), (65, (0, []), (0, [(9, 1)])), (112, (0, [(0, 1)]), (0, [(10, 1)])), (109, (0, [(0, 10), (1, 1)]), (0, [(11, 1)]))], []), [(12, [], none, [(108, (1, []), (0, [(4, 1)])), (108, (2, []), (0, [(5, 1)])), (108, (3, []), (0, [(6, 1)])), (108, (4, []), (0, [(7, 1)])), (108, (5, []), (0, [(8, 1)])), (112, (0, [(0, 1)]), (1, [])), (109, (1, [(0, 10), (1, 1)]), (1, []))], [])], [], 0, 0)
def ceWE : ck_N := (9999, (4, [(0, [(0, 1)]), (5, [(0, (-1))]), (0, [(2, 1)]), (8, [(2, (-1))]), ((-1), [(1, 1)]), ((-1), [(3, 1)])], [], [(112, (0, [(0, 1)]), (0, [(1, 1)])), (67, (0, [(0, 1)]), (0, [(2, 1)])), (109, (0, [(0, 10), (2, 1)]), (0, [(3, 1)]))], []), [(4, [], none, [(108, (0, []), (1, []))], [])], [], 0, 0)
def ceWR : ck_N := (9999, (6, [((-1), [(2, 1)]), (0, [(0, 1)]), ((-1), [(0, (-1)), (3, 1)]), (0, [(1, 1)]), ((-1), [(1, (-1)), (4, 1)])], [], [(108, (0, []), (0, [(2, 1)])), (65, (0, []), (0, [(3, 1)])), (67, (0, [(0, 1)]), (0, [(4, 1)])), (69, (0, [(0, 8), (1, 1)]), (0, [(5, 1)]))], []), [(6, [((-1), [(3, 1), (5, (-1))])], none, [], [])], [], 0, 0)
def ceWLr : ck_N := (9999, (6, [((-1), [(1, 1)]), (0, [(0, 1)]), ((-1), [(0, (-1)), (3, 1)])], [], [(108, (0, []), (0, [(1, 1)])), (65, (0, []), (0, [(2, 1)])), (70, (1, []), (0, [(3, 1)])), (72, (0, [(0, 3)]), (0, [(4, 1)])), (72, (2, [(0, 3)]), (0, [(5, 1)]))], []), [(6, [((-1), [(2, 1), (4, (-1))]), ((-1), [(2, 1), (5, (-1))])], none, [], [])], [], 0, 0)
def ceWH0 : ck_N := (9999, (0, [], [], [], []), [(0, [], none, [(113, (0, []), (1, []))], [])], [], 0, 0)
def ceWH : ck_N := (10076, (4, [(0, [(0, 1)]), (7, [(0, (-1))]), ((-1), [(2, 1)]), ((-1), [(1, (-1)), (3, 1)])], [.inl (.inl (0, [(0, 1)])), .inl (.inl (0, [(1, 1)]))], [(113, (0, [(0, 1)]), (0, [(2, 1)])), (65, (0, []), (0, [(3, 1)]))], []), [(4, [], none, [(113, (1, [(0, 1)]), (1, []))], [])], [], 0, 0)
def ceWI : ck_N := (9999, (5, [(0, [(0, 1)]), ((-1), [(0, (-1)), (1, 1)]), ((-1), [(2, 1)])], [], [(113, (0, [(1, 1)]), (0, [(2, 1)])), (76, (0, [(0, 1)]), (0, [(3, 1)])), (65, (0, []), (0, [(4, 1)]))], []), [(5, [((-1), [(3, (-1)), (4, 1)])], none, [], [])], [], 0, 0)
def ceW4 : ck_N := (9999, (2, [(0, [(0, (-1))]), (0, [(1, (-1))])], [], [(65, (4, []), (0, [(0, 1)])), (70, (9, []), (0, [(1, 1)]))], []), [(2, [], none, [(108, (4, []), (1, []))], [])], [], 0, 0)
def ceCLr : ck_N := (9999, (13, [((-1), [(0, 1)]), (1, [(0, (-1))]), (0, [(6, 1)]), (0, [(6, (-1))]), ((-1), [(1, 1)]), (1, [(1, (-1))]), ((-1), [(7, 1)]), (1, [(7, (-1))]), ((-1), [(2, 1)]), (1, [(2, (-1))]), ((-2), [(8, 1)]), (2, [(8, (-1))]), ((-1), [(3, 1)]), (1, [(3, (-1))]), ((-3), [(9, 1)]), (3, [(9, (-1))]), ((-1), [(4, 1)]), (1, [(4, (-1))]), ((-4), [(10, 1)]), (4, [(10, (-1))]), ((-1), [(5, 1)]), (1, [(5, (-1))]), ((-5), [(11, 1)]), (5, [(11, (-1))]), (0, [(12, 1)]), (0, [(12, (-1))])], [], [(67, (24, []), (0, [(0, 1)])), (67, (25, []), (0, [(1, 1)])), (67, (26, []), (0, [(2, 1)])), (67, (27, []), (0, [(3, 1)])), (67, (28, []), (0, [(4, 1)])), (67, (29, []), (0, [(5, 1)])), (69, (192, []), (0, [(6, 1)])), (69, (200, []), (0, [(7, 1)])), (69, (208, []), (0, [(8, 1)])), (69, (216, []), (0, [(9, 1)])), (69, (224, []), (0, [(10, 1)])), (69, (232, []), (0, [(11, 1)])), (70, (9, []), (0, [(12, 1)]))], []), [(13, [], none, [(110, (0, []), (1, []))], [])], [], 0, 0)
def ceCU : ck_N := (9999, (0, [], [], [], []), [(1, [(0, [(0, 1)]), (1, [(0, (-1))])], none, [(110, (0, []), (0, [(0, 1)]))], [])], [], 0, 0)
def ceWB : ck_N := (10065, (7, [((-1), [(0, 1)]), (6, [(0, (-1))]), ((-1), [(6, 1)])], [.inl (.inl (4, [])), .inl (.inl (0, [(0, 1)]))], [(108, (0, []), (0, [(1, 1)])), (108, (1, []), (0, [(2, 1)])), (108, (2, []), (0, [(3, 1)])), (108, (3, []), (0, [(4, 1)])), (108, (5, []), (0, [(5, 1)])), (110, (0, []), (0, [(6, 1)]))], []), [(7, [], none, [(108, (0, []), (0, [(1, 1)])), (108, (1, []), (0, [(2, 1)])), (108, (2, []), (0, [(3, 1)])), (108, (3, []), (0, [(4, 1)])), (108, (5, []), (0, [(5, 1)])), (108, (4, []), (1, []))], [])], [], 0, 0)
def ceWL : ck_N := (10072, (9, [((-96), [(0, 1), (8, (-3))]), (119, [(0, (-1))]), ((-1), [(6, 1)])], [.inl (.inl (0, [(0, 1)])), .inl (.inl (0, [(1, 1)]))], [(108, (0, []), (0, [(2, 1)])), (108, (1, []), (0, [(3, 1)])), (108, (2, []), (0, [(4, 1)])), (108, (3, []), (0, [(5, 1)])), (108, (4, []), (0, [(6, 1)])), (108, (5, []), (0, [(7, 1)])), (70, (9, []), (0, [(8, 1)]))], []), [(9, [], none, [(108, (0, []), (0, [(2, 1)])), (108, (1, []), (0, [(3, 1)])), (108, (2, []), (0, [(4, 1)])), (108, (3, []), (0, [(5, 1)])), (108, (4, []), (1, [])), (108, (5, []), (0, [(7, 1)]))], [])], [], 0, 0)
def ceWN : ck_N := (10070, (11, [((-1), [(0, 1), (8, (-1))]), (1, [(0, (-1)), (8, 1)]), (0, [(8, 1)]), (7, [(8, (-1))]), ((-1), [(5, 1)]), ((-1), [(7, 1), (9, (-1))]), ((-1), [(7, 1), (10, (-1))])], [.inl (.inl (9, [])), .inl (.inl (0, [(0, 1)]))], [(108, (0, []), (0, [(1, 1)])), (108, (1, []), (0, [(2, 1)])), (108, (2, []), (0, [(3, 1)])), (108, (3, []), (0, [(4, 1)])), (108, (4, []), (0, [(5, 1)])), (108, (5, []), (0, [(6, 1)])), (65, (4, []), (0, [(7, 1)])), (70, (9, []), (0, [(8, 1)])), (72, (96, [(8, 3)]), (0, [(9, 1)])), (72, (98, [(8, 3)]), (0, [(10, 1)]))], []), [(11, [], none, [(108, (0, []), (0, [(1, 1)])), (108, (1, []), (0, [(2, 1)])), (108, (2, []), (0, [(3, 1)])), (108, (3, []), (0, [(4, 1)])), (108, (4, []), (1, [])), (108, (5, []), (0, [(6, 1)]))], [])], [], 0, 0)
def ceWK8 : ck_N := (10070, (7, [((-1), [(5, 1)])], [.inl (.inl (8, [])), .inl (.inl (0, [(0, 1)]))], [(108, (0, []), (0, [(1, 1)])), (108, (1, []), (0, [(2, 1)])), (108, (2, []), (0, [(3, 1)])), (108, (3, []), (0, [(4, 1)])), (108, (4, []), (0, [(5, 1)])), (108, (5, []), (0, [(6, 1)]))], []), [(7, [], none, [(108, (0, []), (0, [(1, 1)])), (108, (1, []), (0, [(2, 1)])), (108, (2, []), (0, [(3, 1)])), (108, (3, []), (0, [(4, 1)])), (108, (4, []), (1, [])), (108, (5, []), (0, [(6, 1)]))], [])], [], 0, 0)
def ceC14_4_0 : ck_N := (9999, (0, [], [], [], []), [(0, [], none, [(114, (40000, []), (1, []))], [])], [], 0, 0)
def ceC15_4_0 : ck_N := (9999, (0, [], [], [], []), [(0, [], none, [(115, (40000, []), (1, []))], [])], [], 0, 0)
def ceCW9_4_0 : ck_N := (10069, (8, [(0, [(0, 1)]), (47, [(0, (-1))]), ((-1), [(7, 1)])], [.inl (.inl (0, [(0, 1)])), .inl (.inl (0, [(6, 1)]))], [(108, (1, []), (0, [(1, 1)])), (108, (2, []), (0, [(2, 1)])), (108, (3, []), (0, [(3, 1)])), (108, (4, []), (0, [(4, 1)])), (108, (5, []), (0, [(5, 1)])), (69, (192, [(0, 1)]), (0, [(6, 1)])), (114, (40000, [(0, 1)]), (0, [(7, 1)]))], []), [(8, [], none, [(108, (1, []), (0, [(1, 1)])), (108, (2, []), (0, [(2, 1)])), (108, (3, []), (0, [(3, 1)])), (108, (4, []), (0, [(4, 1)])), (108, (5, []), (0, [(5, 1)])), (114, (40001, [(0, 1)]), (1, []))], [])], [], 0, 0)
def ceCW2_4_0 : ck_N := (10072, (8, [(0, [(0, 1)]), (23, [(0, (-1))]), ((-1), [(7, 1)])], [.inl (.inl (0, [(0, 1)])), .inl (.inl (0, [(6, 1)]))], [(108, (1, []), (0, [(1, 1)])), (108, (2, []), (0, [(2, 1)])), (108, (3, []), (0, [(3, 1)])), (108, (4, []), (0, [(4, 1)])), (108, (5, []), (0, [(5, 1)])), (72, (96, [(0, 1)]), (0, [(6, 1)])), (115, (40000, [(0, 1)]), (0, [(7, 1)]))], []), [(8, [], none, [(108, (1, []), (0, [(1, 1)])), (108, (2, []), (0, [(2, 1)])), (108, (3, []), (0, [(3, 1)])), (108, (4, []), (0, [(4, 1)])), (108, (5, []), (0, [(5, 1)])), (115, (40001, [(0, 1)]), (1, []))], [])], [], 0, 0)
def ceWC_4_0 : ck_N := (9999, (19, [((-1), [(0, 1)]), ((-1), [(17, 1)]), ((-1), [(18, 1)]), (0, [(1, 1), (2, (-1))]), (0, [(1, (-1)), (2, 1)]), (0, [(3, 1), (4, (-1))]), (0, [(3, (-1)), (4, 1)]), (0, [(5, 1), (11, (-1))]), (0, [(5, (-1)), (11, 1)]), (0, [(6, 1), (12, (-1))]), (0, [(6, (-1)), (12, 1)]), (0, [(7, 1), (13, (-1))]), (0, [(7, (-1)), (13, 1)]), (0, [(8, 1), (14, (-1))]), (0, [(8, (-1)), (14, 1)]), (0, [(9, 1), (15, (-1))]), (0, [(9, (-1)), (15, 1)]), (0, [(10, 1), (16, (-1))]), (0, [(10, (-1)), (16, 1)])], [], [(108, (4, []), (0, [(0, 1)])), (65, (4, []), (0, [(1, 1)])), (65, (0, []), (0, [(2, 1)])), (70, (9, []), (0, [(3, 1)])), (70, (1, []), (0, [(4, 1)])), (67, (24, []), (0, [(5, 1)])), (67, (25, []), (0, [(6, 1)])), (67, (26, []), (0, [(7, 1)])), (67, (27, []), (0, [(8, 1)])), (67, (28, []), (0, [(9, 1)])), (67, (29, []), (0, [(10, 1)])), (67, (0, []), (0, [(11, 1)])), (67, (1, []), (0, [(12, 1)])), (67, (2, []), (0, [(13, 1)])), (67, (3, []), (0, [(14, 1)])), (67, (4, []), (0, [(15, 1)])), (67, (5, []), (0, [(16, 1)])), (114, (40048, []), (0, [(17, 1)])), (115, (40024, []), (0, [(18, 1)]))], []), [(19, [], none, [(108, (0, []), (1, []))], [])], [], 0, 0)
def ceC14_0_5 : ck_N := (9999, (0, [], [], [], []), [(0, [], none, [(114, (5000, []), (1, []))], [])], [], 0, 0)
def ceC15_0_5 : ck_N := (9999, (0, [], [], [], []), [(0, [], none, [(115, (5000, []), (1, []))], [])], [], 0, 0)
def ceCW9_0_5 : ck_N := (10069, (8, [(0, [(0, 1)]), (47, [(0, (-1))]), ((-1), [(7, 1)])], [.inl (.inl (240, [(0, 1)])), .inl (.inl (0, [(6, 1)]))], [(108, (0, []), (0, [(1, 1)])), (108, (1, []), (0, [(2, 1)])), (108, (2, []), (0, [(3, 1)])), (108, (3, []), (0, [(4, 1)])), (108, (4, []), (0, [(5, 1)])), (69, (0, [(0, 1)]), (0, [(6, 1)])), (114, (5000, [(0, 1)]), (0, [(7, 1)]))], []), [(8, [], none, [(108, (0, []), (0, [(1, 1)])), (108, (1, []), (0, [(2, 1)])), (108, (2, []), (0, [(3, 1)])), (108, (3, []), (0, [(4, 1)])), (108, (4, []), (0, [(5, 1)])), (114, (5001, [(0, 1)]), (1, []))], [])], [], 0, 0)
def ceCW2_0_5 : ck_N := (10072, (8, [(0, [(0, 1)]), (23, [(0, (-1))]), ((-1), [(7, 1)])], [.inl (.inl (120, [(0, 1)])), .inl (.inl (0, [(6, 1)]))], [(108, (0, []), (0, [(1, 1)])), (108, (1, []), (0, [(2, 1)])), (108, (2, []), (0, [(3, 1)])), (108, (3, []), (0, [(4, 1)])), (108, (4, []), (0, [(5, 1)])), (72, (0, [(0, 1)]), (0, [(6, 1)])), (115, (5000, [(0, 1)]), (0, [(7, 1)]))], []), [(8, [], none, [(108, (0, []), (0, [(1, 1)])), (108, (1, []), (0, [(2, 1)])), (108, (2, []), (0, [(3, 1)])), (108, (3, []), (0, [(4, 1)])), (108, (4, []), (0, [(5, 1)])), (115, (5001, [(0, 1)]), (1, []))], [])], [], 0, 0)
def ceWC_0_5 : ck_N := (9999, (19, [((-1), [(0, 1)]), ((-1), [(17, 1)]), ((-1), [(18, 1)]), (0, [(1, 1), (2, (-1))]), (0, [(1, (-1)), (2, 1)]), (0, [(3, 1), (4, (-1))]), (0, [(3, (-1)), (4, 1)]), (0, [(5, 1), (11, (-1))]), (0, [(5, (-1)), (11, 1)]), (0, [(6, 1), (12, (-1))]), (0, [(6, (-1)), (12, 1)]), (0, [(7, 1), (13, (-1))]), (0, [(7, (-1)), (13, 1)]), (0, [(8, 1), (14, (-1))]), (0, [(8, (-1)), (14, 1)]), (0, [(9, 1), (15, (-1))]), (0, [(9, (-1)), (15, 1)]), (0, [(10, 1), (16, (-1))]), (0, [(10, (-1)), (16, 1)])], [], [(108, (0, []), (0, [(0, 1)])), (65, (0, []), (0, [(1, 1)])), (65, (5, []), (0, [(2, 1)])), (70, (1, []), (0, [(3, 1)])), (70, (11, []), (0, [(4, 1)])), (67, (0, []), (0, [(5, 1)])), (67, (1, []), (0, [(6, 1)])), (67, (2, []), (0, [(7, 1)])), (67, (3, []), (0, [(8, 1)])), (67, (4, []), (0, [(9, 1)])), (67, (5, []), (0, [(10, 1)])), (67, (30, []), (0, [(11, 1)])), (67, (31, []), (0, [(12, 1)])), (67, (32, []), (0, [(13, 1)])), (67, (33, []), (0, [(14, 1)])), (67, (34, []), (0, [(15, 1)])), (67, (35, []), (0, [(16, 1)])), (114, (5048, []), (0, [(17, 1)])), (115, (5024, []), (0, [(18, 1)]))], []), [(19, [], none, [(108, (5, []), (1, []))], [])], [], 0, 0)
def ceC14_5_0 : ck_N := (9999, (0, [], [], [], []), [(0, [], none, [(114, (50000, []), (1, []))], [])], [], 0, 0)
def ceC15_5_0 : ck_N := (9999, (0, [], [], [], []), [(0, [], none, [(115, (50000, []), (1, []))], [])], [], 0, 0)
def ceCW9_5_0 : ck_N := (10069, (8, [(0, [(0, 1)]), (47, [(0, (-1))]), ((-1), [(7, 1)])], [.inl (.inl (0, [(0, 1)])), .inl (.inl (0, [(6, 1)]))], [(108, (1, []), (0, [(1, 1)])), (108, (2, []), (0, [(2, 1)])), (108, (3, []), (0, [(3, 1)])), (108, (4, []), (0, [(4, 1)])), (108, (5, []), (0, [(5, 1)])), (69, (240, [(0, 1)]), (0, [(6, 1)])), (114, (50000, [(0, 1)]), (0, [(7, 1)]))], []), [(8, [], none, [(108, (1, []), (0, [(1, 1)])), (108, (2, []), (0, [(2, 1)])), (108, (3, []), (0, [(3, 1)])), (108, (4, []), (0, [(4, 1)])), (108, (5, []), (0, [(5, 1)])), (114, (50001, [(0, 1)]), (1, []))], [])], [], 0, 0)
def ceCW2_5_0 : ck_N := (10072, (8, [(0, [(0, 1)]), (23, [(0, (-1))]), ((-1), [(7, 1)])], [.inl (.inl (0, [(0, 1)])), .inl (.inl (0, [(6, 1)]))], [(108, (1, []), (0, [(1, 1)])), (108, (2, []), (0, [(2, 1)])), (108, (3, []), (0, [(3, 1)])), (108, (4, []), (0, [(4, 1)])), (108, (5, []), (0, [(5, 1)])), (72, (120, [(0, 1)]), (0, [(6, 1)])), (115, (50000, [(0, 1)]), (0, [(7, 1)]))], []), [(8, [], none, [(108, (1, []), (0, [(1, 1)])), (108, (2, []), (0, [(2, 1)])), (108, (3, []), (0, [(3, 1)])), (108, (4, []), (0, [(4, 1)])), (108, (5, []), (0, [(5, 1)])), (115, (50001, [(0, 1)]), (1, []))], [])], [], 0, 0)
def ceWC_5_0 : ck_N := (9999, (19, [((-1), [(0, 1)]), ((-1), [(17, 1)]), ((-1), [(18, 1)]), (0, [(1, 1), (2, (-1))]), (0, [(1, (-1)), (2, 1)]), (0, [(3, 1), (4, (-1))]), (0, [(3, (-1)), (4, 1)]), (0, [(5, 1), (11, (-1))]), (0, [(5, (-1)), (11, 1)]), (0, [(6, 1), (12, (-1))]), (0, [(6, (-1)), (12, 1)]), (0, [(7, 1), (13, (-1))]), (0, [(7, (-1)), (13, 1)]), (0, [(8, 1), (14, (-1))]), (0, [(8, (-1)), (14, 1)]), (0, [(9, 1), (15, (-1))]), (0, [(9, (-1)), (15, 1)]), (0, [(10, 1), (16, (-1))]), (0, [(10, (-1)), (16, 1)])], [], [(108, (5, []), (0, [(0, 1)])), (65, (5, []), (0, [(1, 1)])), (65, (0, []), (0, [(2, 1)])), (70, (11, []), (0, [(3, 1)])), (70, (1, []), (0, [(4, 1)])), (67, (30, []), (0, [(5, 1)])), (67, (31, []), (0, [(6, 1)])), (67, (32, []), (0, [(7, 1)])), (67, (33, []), (0, [(8, 1)])), (67, (34, []), (0, [(9, 1)])), (67, (35, []), (0, [(10, 1)])), (67, (0, []), (0, [(11, 1)])), (67, (1, []), (0, [(12, 1)])), (67, (2, []), (0, [(13, 1)])), (67, (3, []), (0, [(14, 1)])), (67, (4, []), (0, [(15, 1)])), (67, (5, []), (0, [(16, 1)])), (114, (50048, []), (0, [(17, 1)])), (115, (50024, []), (0, [(18, 1)]))], []), [(19, [], none, [(108, (0, []), (1, []))], [])], [], 0, 0)
def ceC14_0_1 : ck_N := (9999, (0, [], [], [], []), [(0, [], none, [(114, (1000, []), (1, []))], [])], [], 0, 0)
def ceC15_0_1 : ck_N := (9999, (0, [], [], [], []), [(0, [], none, [(115, (1000, []), (1, []))], [])], [], 0, 0)
def ceCW9_0_1 : ck_N := (10069, (8, [(0, [(0, 1)]), (47, [(0, (-1))]), ((-1), [(7, 1)])], [.inl (.inl (48, [(0, 1)])), .inl (.inl (0, [(6, 1)]))], [(108, (0, []), (0, [(1, 1)])), (108, (2, []), (0, [(2, 1)])), (108, (3, []), (0, [(3, 1)])), (108, (4, []), (0, [(4, 1)])), (108, (5, []), (0, [(5, 1)])), (69, (0, [(0, 1)]), (0, [(6, 1)])), (114, (1000, [(0, 1)]), (0, [(7, 1)]))], []), [(8, [], none, [(108, (0, []), (0, [(1, 1)])), (108, (2, []), (0, [(2, 1)])), (108, (3, []), (0, [(3, 1)])), (108, (4, []), (0, [(4, 1)])), (108, (5, []), (0, [(5, 1)])), (114, (1001, [(0, 1)]), (1, []))], [])], [], 0, 0)
def ceCW2_0_1 : ck_N := (10072, (8, [(0, [(0, 1)]), (23, [(0, (-1))]), ((-1), [(7, 1)])], [.inl (.inl (24, [(0, 1)])), .inl (.inl (0, [(6, 1)]))], [(108, (0, []), (0, [(1, 1)])), (108, (2, []), (0, [(2, 1)])), (108, (3, []), (0, [(3, 1)])), (108, (4, []), (0, [(4, 1)])), (108, (5, []), (0, [(5, 1)])), (72, (0, [(0, 1)]), (0, [(6, 1)])), (115, (1000, [(0, 1)]), (0, [(7, 1)]))], []), [(8, [], none, [(108, (0, []), (0, [(1, 1)])), (108, (2, []), (0, [(2, 1)])), (108, (3, []), (0, [(3, 1)])), (108, (4, []), (0, [(4, 1)])), (108, (5, []), (0, [(5, 1)])), (115, (1001, [(0, 1)]), (1, []))], [])], [], 0, 0)
def ceWC_0_1 : ck_N := (9999, (19, [((-1), [(0, 1)]), ((-1), [(17, 1)]), ((-1), [(18, 1)]), (0, [(1, 1), (2, (-1))]), (0, [(1, (-1)), (2, 1)]), (0, [(3, 1), (4, (-1))]), (0, [(3, (-1)), (4, 1)]), (0, [(5, 1), (11, (-1))]), (0, [(5, (-1)), (11, 1)]), (0, [(6, 1), (12, (-1))]), (0, [(6, (-1)), (12, 1)]), (0, [(7, 1), (13, (-1))]), (0, [(7, (-1)), (13, 1)]), (0, [(8, 1), (14, (-1))]), (0, [(8, (-1)), (14, 1)]), (0, [(9, 1), (15, (-1))]), (0, [(9, (-1)), (15, 1)]), (0, [(10, 1), (16, (-1))]), (0, [(10, (-1)), (16, 1)])], [], [(108, (0, []), (0, [(0, 1)])), (65, (0, []), (0, [(1, 1)])), (65, (1, []), (0, [(2, 1)])), (70, (1, []), (0, [(3, 1)])), (70, (3, []), (0, [(4, 1)])), (67, (0, []), (0, [(5, 1)])), (67, (1, []), (0, [(6, 1)])), (67, (2, []), (0, [(7, 1)])), (67, (3, []), (0, [(8, 1)])), (67, (4, []), (0, [(9, 1)])), (67, (5, []), (0, [(10, 1)])), (67, (6, []), (0, [(11, 1)])), (67, (7, []), (0, [(12, 1)])), (67, (8, []), (0, [(13, 1)])), (67, (9, []), (0, [(14, 1)])), (67, (10, []), (0, [(15, 1)])), (67, (11, []), (0, [(16, 1)])), (114, (1048, []), (0, [(17, 1)])), (115, (1024, []), (0, [(18, 1)]))], []), [(19, [], none, [(108, (1, []), (1, []))], [])], [], 0, 0)
def ceC14_0_2 : ck_N := (9999, (0, [], [], [], []), [(0, [], none, [(114, (2000, []), (1, []))], [])], [], 0, 0)
def ceC15_0_2 : ck_N := (9999, (0, [], [], [], []), [(0, [], none, [(115, (2000, []), (1, []))], [])], [], 0, 0)
def ceCW9_0_2 : ck_N := (10069, (8, [(0, [(0, 1)]), (47, [(0, (-1))]), ((-1), [(7, 1)])], [.inl (.inl (96, [(0, 1)])), .inl (.inl (0, [(6, 1)]))], [(108, (0, []), (0, [(1, 1)])), (108, (1, []), (0, [(2, 1)])), (108, (3, []), (0, [(3, 1)])), (108, (4, []), (0, [(4, 1)])), (108, (5, []), (0, [(5, 1)])), (69, (0, [(0, 1)]), (0, [(6, 1)])), (114, (2000, [(0, 1)]), (0, [(7, 1)]))], []), [(8, [], none, [(108, (0, []), (0, [(1, 1)])), (108, (1, []), (0, [(2, 1)])), (108, (3, []), (0, [(3, 1)])), (108, (4, []), (0, [(4, 1)])), (108, (5, []), (0, [(5, 1)])), (114, (2001, [(0, 1)]), (1, []))], [])], [], 0, 0)
def ceCW2_0_2 : ck_N := (10072, (8, [(0, [(0, 1)]), (23, [(0, (-1))]), ((-1), [(7, 1)])], [.inl (.inl (48, [(0, 1)])), .inl (.inl (0, [(6, 1)]))], [(108, (0, []), (0, [(1, 1)])), (108, (1, []), (0, [(2, 1)])), (108, (3, []), (0, [(3, 1)])), (108, (4, []), (0, [(4, 1)])), (108, (5, []), (0, [(5, 1)])), (72, (0, [(0, 1)]), (0, [(6, 1)])), (115, (2000, [(0, 1)]), (0, [(7, 1)]))], []), [(8, [], none, [(108, (0, []), (0, [(1, 1)])), (108, (1, []), (0, [(2, 1)])), (108, (3, []), (0, [(3, 1)])), (108, (4, []), (0, [(4, 1)])), (108, (5, []), (0, [(5, 1)])), (115, (2001, [(0, 1)]), (1, []))], [])], [], 0, 0)
def ceWC_0_2 : ck_N := (9999, (19, [((-1), [(0, 1)]), ((-1), [(17, 1)]), ((-1), [(18, 1)]), (0, [(1, 1), (2, (-1))]), (0, [(1, (-1)), (2, 1)]), (0, [(3, 1), (4, (-1))]), (0, [(3, (-1)), (4, 1)]), (0, [(5, 1), (11, (-1))]), (0, [(5, (-1)), (11, 1)]), (0, [(6, 1), (12, (-1))]), (0, [(6, (-1)), (12, 1)]), (0, [(7, 1), (13, (-1))]), (0, [(7, (-1)), (13, 1)]), (0, [(8, 1), (14, (-1))]), (0, [(8, (-1)), (14, 1)]), (0, [(9, 1), (15, (-1))]), (0, [(9, (-1)), (15, 1)]), (0, [(10, 1), (16, (-1))]), (0, [(10, (-1)), (16, 1)])], [], [(108, (0, []), (0, [(0, 1)])), (65, (0, []), (0, [(1, 1)])), (65, (2, []), (0, [(2, 1)])), (70, (1, []), (0, [(3, 1)])), (70, (5, []), (0, [(4, 1)])), (67, (0, []), (0, [(5, 1)])), (67, (1, []), (0, [(6, 1)])), (67, (2, []), (0, [(7, 1)])), (67, (3, []), (0, [(8, 1)])), (67, (4, []), (0, [(9, 1)])), (67, (5, []), (0, [(10, 1)])), (67, (12, []), (0, [(11, 1)])), (67, (13, []), (0, [(12, 1)])), (67, (14, []), (0, [(13, 1)])), (67, (15, []), (0, [(14, 1)])), (67, (16, []), (0, [(15, 1)])), (67, (17, []), (0, [(16, 1)])), (114, (2048, []), (0, [(17, 1)])), (115, (2024, []), (0, [(18, 1)]))], []), [(19, [], none, [(108, (2, []), (1, []))], [])], [], 0, 0)
def ceC14_0_3 : ck_N := (9999, (0, [], [], [], []), [(0, [], none, [(114, (3000, []), (1, []))], [])], [], 0, 0)
def ceC15_0_3 : ck_N := (9999, (0, [], [], [], []), [(0, [], none, [(115, (3000, []), (1, []))], [])], [], 0, 0)
def ceCW9_0_3 : ck_N := (10069, (8, [(0, [(0, 1)]), (47, [(0, (-1))]), ((-1), [(7, 1)])], [.inl (.inl (144, [(0, 1)])), .inl (.inl (0, [(6, 1)]))], [(108, (0, []), (0, [(1, 1)])), (108, (1, []), (0, [(2, 1)])), (108, (2, []), (0, [(3, 1)])), (108, (4, []), (0, [(4, 1)])), (108, (5, []), (0, [(5, 1)])), (69, (0, [(0, 1)]), (0, [(6, 1)])), (114, (3000, [(0, 1)]), (0, [(7, 1)]))], []), [(8, [], none, [(108, (0, []), (0, [(1, 1)])), (108, (1, []), (0, [(2, 1)])), (108, (2, []), (0, [(3, 1)])), (108, (4, []), (0, [(4, 1)])), (108, (5, []), (0, [(5, 1)])), (114, (3001, [(0, 1)]), (1, []))], [])], [], 0, 0)
def ceCW2_0_3 : ck_N := (10072, (8, [(0, [(0, 1)]), (23, [(0, (-1))]), ((-1), [(7, 1)])], [.inl (.inl (72, [(0, 1)])), .inl (.inl (0, [(6, 1)]))], [(108, (0, []), (0, [(1, 1)])), (108, (1, []), (0, [(2, 1)])), (108, (2, []), (0, [(3, 1)])), (108, (4, []), (0, [(4, 1)])), (108, (5, []), (0, [(5, 1)])), (72, (0, [(0, 1)]), (0, [(6, 1)])), (115, (3000, [(0, 1)]), (0, [(7, 1)]))], []), [(8, [], none, [(108, (0, []), (0, [(1, 1)])), (108, (1, []), (0, [(2, 1)])), (108, (2, []), (0, [(3, 1)])), (108, (4, []), (0, [(4, 1)])), (108, (5, []), (0, [(5, 1)])), (115, (3001, [(0, 1)]), (1, []))], [])], [], 0, 0)
def ceWC_0_3 : ck_N := (9999, (19, [((-1), [(0, 1)]), ((-1), [(17, 1)]), ((-1), [(18, 1)]), (0, [(1, 1), (2, (-1))]), (0, [(1, (-1)), (2, 1)]), (0, [(3, 1), (4, (-1))]), (0, [(3, (-1)), (4, 1)]), (0, [(5, 1), (11, (-1))]), (0, [(5, (-1)), (11, 1)]), (0, [(6, 1), (12, (-1))]), (0, [(6, (-1)), (12, 1)]), (0, [(7, 1), (13, (-1))]), (0, [(7, (-1)), (13, 1)]), (0, [(8, 1), (14, (-1))]), (0, [(8, (-1)), (14, 1)]), (0, [(9, 1), (15, (-1))]), (0, [(9, (-1)), (15, 1)]), (0, [(10, 1), (16, (-1))]), (0, [(10, (-1)), (16, 1)])], [], [(108, (0, []), (0, [(0, 1)])), (65, (0, []), (0, [(1, 1)])), (65, (3, []), (0, [(2, 1)])), (70, (1, []), (0, [(3, 1)])), (70, (7, []), (0, [(4, 1)])), (67, (0, []), (0, [(5, 1)])), (67, (1, []), (0, [(6, 1)])), (67, (2, []), (0, [(7, 1)])), (67, (3, []), (0, [(8, 1)])), (67, (4, []), (0, [(9, 1)])), (67, (5, []), (0, [(10, 1)])), (67, (18, []), (0, [(11, 1)])), (67, (19, []), (0, [(12, 1)])), (67, (20, []), (0, [(13, 1)])), (67, (21, []), (0, [(14, 1)])), (67, (22, []), (0, [(15, 1)])), (67, (23, []), (0, [(16, 1)])), (114, (3048, []), (0, [(17, 1)])), (115, (3024, []), (0, [(18, 1)]))], []), [(19, [], none, [(108, (3, []), (1, []))], [])], [], 0, 0)
def ceC14_1_0 : ck_N := (9999, (0, [], [], [], []), [(0, [], none, [(114, (10000, []), (1, []))], [])], [], 0, 0)
def ceC15_1_0 : ck_N := (9999, (0, [], [], [], []), [(0, [], none, [(115, (10000, []), (1, []))], [])], [], 0, 0)
def ceCW9_1_0 : ck_N := (10069, (8, [(0, [(0, 1)]), (47, [(0, (-1))]), ((-1), [(7, 1)])], [.inl (.inl (0, [(0, 1)])), .inl (.inl (0, [(6, 1)]))], [(108, (1, []), (0, [(1, 1)])), (108, (2, []), (0, [(2, 1)])), (108, (3, []), (0, [(3, 1)])), (108, (4, []), (0, [(4, 1)])), (108, (5, []), (0, [(5, 1)])), (69, (48, [(0, 1)]), (0, [(6, 1)])), (114, (10000, [(0, 1)]), (0, [(7, 1)]))], []), [(8, [], none, [(108, (1, []), (0, [(1, 1)])), (108, (2, []), (0, [(2, 1)])), (108, (3, []), (0, [(3, 1)])), (108, (4, []), (0, [(4, 1)])), (108, (5, []), (0, [(5, 1)])), (114, (10001, [(0, 1)]), (1, []))], [])], [], 0, 0)
def ceCW2_1_0 : ck_N := (10072, (8, [(0, [(0, 1)]), (23, [(0, (-1))]), ((-1), [(7, 1)])], [.inl (.inl (0, [(0, 1)])), .inl (.inl (0, [(6, 1)]))], [(108, (1, []), (0, [(1, 1)])), (108, (2, []), (0, [(2, 1)])), (108, (3, []), (0, [(3, 1)])), (108, (4, []), (0, [(4, 1)])), (108, (5, []), (0, [(5, 1)])), (72, (24, [(0, 1)]), (0, [(6, 1)])), (115, (10000, [(0, 1)]), (0, [(7, 1)]))], []), [(8, [], none, [(108, (1, []), (0, [(1, 1)])), (108, (2, []), (0, [(2, 1)])), (108, (3, []), (0, [(3, 1)])), (108, (4, []), (0, [(4, 1)])), (108, (5, []), (0, [(5, 1)])), (115, (10001, [(0, 1)]), (1, []))], [])], [], 0, 0)
def ceWC_1_0 : ck_N := (9999, (19, [((-1), [(0, 1)]), ((-1), [(17, 1)]), ((-1), [(18, 1)]), (0, [(1, 1), (2, (-1))]), (0, [(1, (-1)), (2, 1)]), (0, [(3, 1), (4, (-1))]), (0, [(3, (-1)), (4, 1)]), (0, [(5, 1), (11, (-1))]), (0, [(5, (-1)), (11, 1)]), (0, [(6, 1), (12, (-1))]), (0, [(6, (-1)), (12, 1)]), (0, [(7, 1), (13, (-1))]), (0, [(7, (-1)), (13, 1)]), (0, [(8, 1), (14, (-1))]), (0, [(8, (-1)), (14, 1)]), (0, [(9, 1), (15, (-1))]), (0, [(9, (-1)), (15, 1)]), (0, [(10, 1), (16, (-1))]), (0, [(10, (-1)), (16, 1)])], [], [(108, (1, []), (0, [(0, 1)])), (65, (1, []), (0, [(1, 1)])), (65, (0, []), (0, [(2, 1)])), (70, (3, []), (0, [(3, 1)])), (70, (1, []), (0, [(4, 1)])), (67, (6, []), (0, [(5, 1)])), (67, (7, []), (0, [(6, 1)])), (67, (8, []), (0, [(7, 1)])), (67, (9, []), (0, [(8, 1)])), (67, (10, []), (0, [(9, 1)])), (67, (11, []), (0, [(10, 1)])), (67, (0, []), (0, [(11, 1)])), (67, (1, []), (0, [(12, 1)])), (67, (2, []), (0, [(13, 1)])), (67, (3, []), (0, [(14, 1)])), (67, (4, []), (0, [(15, 1)])), (67, (5, []), (0, [(16, 1)])), (114, (10048, []), (0, [(17, 1)])), (115, (10024, []), (0, [(18, 1)]))], []), [(19, [], none, [(108, (0, []), (1, []))], [])], [], 0, 0)
def ceC14_2_0 : ck_N := (9999, (0, [], [], [], []), [(0, [], none, [(114, (20000, []), (1, []))], [])], [], 0, 0)
def ceC15_2_0 : ck_N := (9999, (0, [], [], [], []), [(0, [], none, [(115, (20000, []), (1, []))], [])], [], 0, 0)
def ceCW9_2_0 : ck_N := (10069, (8, [(0, [(0, 1)]), (47, [(0, (-1))]), ((-1), [(7, 1)])], [.inl (.inl (0, [(0, 1)])), .inl (.inl (0, [(6, 1)]))], [(108, (1, []), (0, [(1, 1)])), (108, (2, []), (0, [(2, 1)])), (108, (3, []), (0, [(3, 1)])), (108, (4, []), (0, [(4, 1)])), (108, (5, []), (0, [(5, 1)])), (69, (96, [(0, 1)]), (0, [(6, 1)])), (114, (20000, [(0, 1)]), (0, [(7, 1)]))], []), [(8, [], none, [(108, (1, []), (0, [(1, 1)])), (108, (2, []), (0, [(2, 1)])), (108, (3, []), (0, [(3, 1)])), (108, (4, []), (0, [(4, 1)])), (108, (5, []), (0, [(5, 1)])), (114, (20001, [(0, 1)]), (1, []))], [])], [], 0, 0)
def ceCW2_2_0 : ck_N := (10072, (8, [(0, [(0, 1)]), (23, [(0, (-1))]), ((-1), [(7, 1)])], [.inl (.inl (0, [(0, 1)])), .inl (.inl (0, [(6, 1)]))], [(108, (1, []), (0, [(1, 1)])), (108, (2, []), (0, [(2, 1)])), (108, (3, []), (0, [(3, 1)])), (108, (4, []), (0, [(4, 1)])), (108, (5, []), (0, [(5, 1)])), (72, (48, [(0, 1)]), (0, [(6, 1)])), (115, (20000, [(0, 1)]), (0, [(7, 1)]))], []), [(8, [], none, [(108, (1, []), (0, [(1, 1)])), (108, (2, []), (0, [(2, 1)])), (108, (3, []), (0, [(3, 1)])), (108, (4, []), (0, [(4, 1)])), (108, (5, []), (0, [(5, 1)])), (115, (20001, [(0, 1)]), (1, []))], [])], [], 0, 0)
def ceWC_2_0 : ck_N := (9999, (19, [((-1), [(0, 1)]), ((-1), [(17, 1)]), ((-1), [(18, 1)]), (0, [(1, 1), (2, (-1))]), (0, [(1, (-1)), (2, 1)]), (0, [(3, 1), (4, (-1))]), (0, [(3, (-1)), (4, 1)]), (0, [(5, 1), (11, (-1))]), (0, [(5, (-1)), (11, 1)]), (0, [(6, 1), (12, (-1))]), (0, [(6, (-1)), (12, 1)]), (0, [(7, 1), (13, (-1))]), (0, [(7, (-1)), (13, 1)]), (0, [(8, 1), (14, (-1))]), (0, [(8, (-1)), (14, 1)]), (0, [(9, 1), (15, (-1))]), (0, [(9, (-1)), (15, 1)]), (0, [(10, 1), (16, (-1))]), (0, [(10, (-1)), (16, 1)])], [], [(108, (2, []), (0, [(0, 1)])), (65, (2, []), (0, [(1, 1)])), (65, (0, []), (0, [(2, 1)])), (70, (5, []), (0, [(3, 1)])), (70, (1, []), (0, [(4, 1)])), (67, (12, []), (0, [(5, 1)])), (67, (13, []), (0, [(6, 1)])), (67, (14, []), (0, [(7, 1)])), (67, (15, []), (0, [(8, 1)])), (67, (16, []), (0, [(9, 1)])), (67, (17, []), (0, [(10, 1)])), (67, (0, []), (0, [(11, 1)])), (67, (1, []), (0, [(12, 1)])), (67, (2, []), (0, [(13, 1)])), (67, (3, []), (0, [(14, 1)])), (67, (4, []), (0, [(15, 1)])), (67, (5, []), (0, [(16, 1)])), (114, (20048, []), (0, [(17, 1)])), (115, (20024, []), (0, [(18, 1)]))], []), [(19, [], none, [(108, (0, []), (1, []))], [])], [], 0, 0)
def ceC14_3_0 : ck_N := (9999, (0, [], [], [], []), [(0, [], none, [(114, (30000, []), (1, []))], [])], [], 0, 0)
def ceC15_3_0 : ck_N := (9999, (0, [], [], [], []), [(0, [], none, [(115, (30000, []), (1, []))], [])], [], 0, 0)
def ceCW9_3_0 : ck_N := (10069, (8, [(0, [(0, 1)]), (47, [(0, (-1))]), ((-1), [(7, 1)])], [.inl (.inl (0, [(0, 1)])), .inl (.inl (0, [(6, 1)]))], [(108, (1, []), (0, [(1, 1)])), (108, (2, []), (0, [(2, 1)])), (108, (3, []), (0, [(3, 1)])), (108, (4, []), (0, [(4, 1)])), (108, (5, []), (0, [(5, 1)])), (69, (144, [(0, 1)]), (0, [(6, 1)])), (114, (30000, [(0, 1)]), (0, [(7, 1)]))], []), [(8, [], none, [(108, (1, []), (0, [(1, 1)])), (108, (2, []), (0, [(2, 1)])), (108, (3, []), (0, [(3, 1)])), (108, (4, []), (0, [(4, 1)])), (108, (5, []), (0, [(5, 1)])), (114, (30001, [(0, 1)]), (1, []))], [])], [], 0, 0)
def ceCW2_3_0 : ck_N := (10072, (8, [(0, [(0, 1)]), (23, [(0, (-1))]), ((-1), [(7, 1)])], [.inl (.inl (0, [(0, 1)])), .inl (.inl (0, [(6, 1)]))], [(108, (1, []), (0, [(1, 1)])), (108, (2, []), (0, [(2, 1)])), (108, (3, []), (0, [(3, 1)])), (108, (4, []), (0, [(4, 1)])), (108, (5, []), (0, [(5, 1)])), (72, (72, [(0, 1)]), (0, [(6, 1)])), (115, (30000, [(0, 1)]), (0, [(7, 1)]))], []), [(8, [], none, [(108, (1, []), (0, [(1, 1)])), (108, (2, []), (0, [(2, 1)])), (108, (3, []), (0, [(3, 1)])), (108, (4, []), (0, [(4, 1)])), (108, (5, []), (0, [(5, 1)])), (115, (30001, [(0, 1)]), (1, []))], [])], [], 0, 0)
def ceWC_3_0 : ck_N := (9999, (19, [((-1), [(0, 1)]), ((-1), [(17, 1)]), ((-1), [(18, 1)]), (0, [(1, 1), (2, (-1))]), (0, [(1, (-1)), (2, 1)]), (0, [(3, 1), (4, (-1))]), (0, [(3, (-1)), (4, 1)]), (0, [(5, 1), (11, (-1))]), (0, [(5, (-1)), (11, 1)]), (0, [(6, 1), (12, (-1))]), (0, [(6, (-1)), (12, 1)]), (0, [(7, 1), (13, (-1))]), (0, [(7, (-1)), (13, 1)]), (0, [(8, 1), (14, (-1))]), (0, [(8, (-1)), (14, 1)]), (0, [(9, 1), (15, (-1))]), (0, [(9, (-1)), (15, 1)]), (0, [(10, 1), (16, (-1))]), (0, [(10, (-1)), (16, 1)])], [], [(108, (3, []), (0, [(0, 1)])), (65, (3, []), (0, [(1, 1)])), (65, (0, []), (0, [(2, 1)])), (70, (7, []), (0, [(3, 1)])), (70, (1, []), (0, [(4, 1)])), (67, (18, []), (0, [(5, 1)])), (67, (19, []), (0, [(6, 1)])), (67, (20, []), (0, [(7, 1)])), (67, (21, []), (0, [(8, 1)])), (67, (22, []), (0, [(9, 1)])), (67, (23, []), (0, [(10, 1)])), (67, (0, []), (0, [(11, 1)])), (67, (1, []), (0, [(12, 1)])), (67, (2, []), (0, [(13, 1)])), (67, (3, []), (0, [(14, 1)])), (67, (4, []), (0, [(15, 1)])), (67, (5, []), (0, [(16, 1)])), (114, (30048, []), (0, [(17, 1)])), (115, (30024, []), (0, [(18, 1)]))], []), [(19, [], none, [(108, (0, []), (1, []))], [])], [], 0, 0)
theorem rpG1a : ck_gcon ceG1a := by
  intro σ E hgi hF hP hΦ
  have f0 : (0 : Int) ≤ 0 + (1 * σ 0 + 0) := hF _ (List.mem_of_getElem? (i := 0) rfl)
  have f1 : (0 : Int) ≤ 5 + ((-1) * σ 0 + 0) := hF _ (List.mem_of_getElem? (i := 1) rfl)
  have f2 : (0 : Int) ≤ 1000 + (1 * σ 1 + 0) := hF _ (List.mem_of_getElem? (i := 2) rfl)
  have f3 : (0 : Int) ≤ 890000 + ((-1) * σ 1 + 0) := hF _ (List.mem_of_getElem? (i := 3) rfl)
  have f4 : (0 : Int) ≤ (-1) + (1 * σ 2 + 0) := hF _ (List.mem_of_getElem? (i := 4) rfl)
  have f5 : (0 : Int) ≤ 8 + ((-1) * σ 2 + 0) := hF _ (List.mem_of_getElem? (i := 5) rfl)
  have f6 : (0 : Int) ≤ 0 + (1 * σ 3 + 0) := hF _ (List.mem_of_getElem? (i := 6) rfl)
  have p0 : ck_lk E 67 (0 + (1 * σ 0 + 0)) = 0 + (1 * σ 2 + 0) := (hP _ (List.mem_of_getElem? (i := 0) rfl)).2.2
  have q0 : (0 : Int) ≤ 0 + (1 * σ 0 + 0) := (hP _ (List.mem_of_getElem? (i := 0) rfl)).2.1
  have p1 : ck_lk E 201 (9223372036854775808 + (4294967296 * σ 1 + (1 * σ 2 + 0))) = 0 + (1 * σ 3 + 0) := (hP _ (List.mem_of_getElem? (i := 1) rfl)).2.2
  have q1 : (0 : Int) ≤ 9223372036854775808 + (4294967296 * σ 1 + (1 * σ 2 + 0)) := (hP _ (List.mem_of_getElem? (i := 1) rfl)).2.1
  have key : (((0 : Int) ≤ 100000 + (1000000 * σ 0 + (1 * σ 1 + 0)) ∧ ck_lk E 86 (100000 + (1000000 * σ 0 + (1 * σ 1 + 0))) = 0 + (8 * σ 0 + (1 * σ 3 + 0))) ∧ True) := by
    rw [ck_lk_c (by decide)] at p0
    rw [k201 (a := σ 1) (b := σ 2) (by omega) (by omega) (by omega)] at p1
    have e0 : ck_loc (E 67) (σ 0) = σ 2 := by rw [← show 0 + (1 * σ 0 + 0) = σ 0 by omega, p0]; omega
    refine ⟨⟨by omega, ?_⟩, trivial⟩
    rw [k86 (r := σ 0) (t := σ 1) (by omega) (by omega) (by omega), e0]
    have h1 := Int.emod_nonneg (σ 1) (show σ 2 ≠ 0 by omega)
    have h2 : (σ 1).tmod (σ 2) = (σ 1) % (σ 2) := by
      by_cases hn : 0 ≤ σ 1
      · exact Int.tmod_eq_emod_of_nonneg hn
      · have h3 := cn_tm_np (a := σ 1) (b := σ 2) (by omega)
        have h4 : (σ 1).tmod (σ 2) = 0 := by omega
        rw [h4]
        exact (Int.emod_eq_zero_of_dvd (Int.dvd_of_tmod_eq_zero h4)).symm
    omega
  obtain ⟨k0, -⟩ := key
  exact ⟨_, (List.mem_of_getElem? (i := 0) rfl), σ, ck_ag_rf, (fun _ h => absurd h List.not_mem_nil), (fun _ h => absurd h List.not_mem_nil), trivial, (List.forall_mem_cons.mpr ⟨⟨⟨ck_wb_ok rfl, ck_wb_ok rfl⟩, k0⟩, (fun _ h => absurd h List.not_mem_nil)⟩), (fun _ h => absurd h List.not_mem_nil)⟩
theorem ccG1a {l : Launch} {D : va_G} {kp : Nat → ClassId} : ck_con l D kp ck_NN ceG1a := ck_con_g rfl rpG1a
theorem rpG1b : ck_gcon ceG1b := by
  intro σ E hgi hF hP hΦ
  have f0 : (0 : Int) ≤ 0 + (1 * σ 0 + 0) := hF _ (List.mem_of_getElem? (i := 0) rfl)
  have f1 : (0 : Int) ≤ 5 + ((-1) * σ 0 + 0) := hF _ (List.mem_of_getElem? (i := 1) rfl)
  have f2 : (0 : Int) ≤ 1000 + (1 * σ 1 + 0) := hF _ (List.mem_of_getElem? (i := 2) rfl)
  have f3 : (0 : Int) ≤ 890000 + ((-1) * σ 1 + 0) := hF _ (List.mem_of_getElem? (i := 3) rfl)
  have f4 : (0 : Int) ≤ (-1) + (1 * σ 2 + 0) := hF _ (List.mem_of_getElem? (i := 4) rfl)
  have f5 : (0 : Int) ≤ 8 + ((-1) * σ 2 + 0) := hF _ (List.mem_of_getElem? (i := 5) rfl)
  have f6 : (0 : Int) ≤ (-1) + ((-1) * σ 3 + 0) := hF _ (List.mem_of_getElem? (i := 6) rfl)
  have p0 : ck_lk E 67 (0 + (1 * σ 0 + 0)) = 0 + (1 * σ 2 + 0) := (hP _ (List.mem_of_getElem? (i := 0) rfl)).2.2
  have q0 : (0 : Int) ≤ 0 + (1 * σ 0 + 0) := (hP _ (List.mem_of_getElem? (i := 0) rfl)).2.1
  have p1 : ck_lk E 201 (9223372036854775808 + (4294967296 * σ 1 + (1 * σ 2 + 0))) = 0 + (1 * σ 3 + 0) := (hP _ (List.mem_of_getElem? (i := 1) rfl)).2.2
  have q1 : (0 : Int) ≤ 9223372036854775808 + (4294967296 * σ 1 + (1 * σ 2 + 0)) := (hP _ (List.mem_of_getElem? (i := 1) rfl)).2.1
  have key : (((0 : Int) ≤ 100000 + (1000000 * σ 0 + (1 * σ 1 + 0)) ∧ ck_lk E 86 (100000 + (1000000 * σ 0 + (1 * σ 1 + 0))) = 0 + (8 * σ 0 + (1 * σ 2 + (1 * σ 3 + 0)))) ∧ True) := by
    rw [ck_lk_c (by decide)] at p0
    rw [k201 (a := σ 1) (b := σ 2) (by omega) (by omega) (by omega)] at p1
    have e0 : ck_loc (E 67) (σ 0) = σ 2 := by rw [← show 0 + (1 * σ 0 + 0) = σ 0 by omega, p0]; omega
    refine ⟨⟨by omega, ?_⟩, trivial⟩
    rw [k86 (r := σ 0) (t := σ 1) (by omega) (by omega) (by omega), e0]
    have h1 := cn_tm_lt (a := σ 1) (b := σ 2) (by omega)
    have h2 := Int.tmod_add_mul_tdiv (σ 1) (σ 2)
    have h3 : σ 1 % σ 2 = (σ 1).tmod (σ 2) + σ 2 := by
      have h4 : ((σ 1).tmod (σ 2) + σ 2 + σ 2 * ((σ 1).tdiv (σ 2) - 1)) % σ 2 = σ 1 % σ 2 := by
        congr 1
        rw [Int.mul_sub, Int.mul_one]
        omega
      rw [Int.add_mul_emod_self_left] at h4
      rw [← h4]
      exact Int.emod_eq_of_lt (by omega) (by omega)
    omega
  obtain ⟨k0, -⟩ := key
  exact ⟨_, (List.mem_of_getElem? (i := 0) rfl), σ, ck_ag_rf, (fun _ h => absurd h List.not_mem_nil), (fun _ h => absurd h List.not_mem_nil), trivial, (List.forall_mem_cons.mpr ⟨⟨⟨ck_wb_ok rfl, ck_wb_ok rfl⟩, k0⟩, (fun _ h => absurd h List.not_mem_nil)⟩), (fun _ h => absurd h List.not_mem_nil)⟩
theorem ccG1b {l : Launch} {D : va_G} {kp : Nat → ClassId} : ck_con l D kp ck_NN ceG1b := ck_con_g rfl rpG1b
theorem rpG2 : ck_gcon ceG2 := by
  intro σ E hgi hF hP hΦ
  have f0 : (0 : Int) ≤ 0 + (1 * σ 0 + 0) := hF _ (List.mem_of_getElem? (i := 0) rfl)
  have f1 : (0 : Int) ≤ 5 + ((-1) * σ 0 + 0) := hF _ (List.mem_of_getElem? (i := 1) rfl)
  have f2 : (0 : Int) ≤ 1000 + (1 * σ 1 + 0) := hF _ (List.mem_of_getElem? (i := 2) rfl)
  have f3 : (0 : Int) ≤ 890000 + ((-1) * σ 1 + 0) := hF _ (List.mem_of_getElem? (i := 3) rfl)
  have p0 : ck_lk E 86 (100000 + (1000000 * σ 0 + (1 * σ 1 + 0))) = 0 + (1 * σ 2 + 0) := (hP _ (List.mem_of_getElem? (i := 0) rfl)).2.2
  have q0 : (0 : Int) ≤ 100000 + (1000000 * σ 0 + (1 * σ 1 + 0)) := (hP _ (List.mem_of_getElem? (i := 0) rfl)).2.1
  have p1 : ck_lk E 68 (0 + (1 * σ 2 + 0)) = 0 + (1 * σ 3 + 0) := (hP _ (List.mem_of_getElem? (i := 1) rfl)).2.2
  have q1 : (0 : Int) ≤ 0 + (1 * σ 2 + 0) := (hP _ (List.mem_of_getElem? (i := 1) rfl)).2.1
  have key : (((0 : Int) ≤ 100000 + (1000000 * σ 0 + (1 * σ 1 + 0)) ∧ ck_lk E 84 (100000 + (1000000 * σ 0 + (1 * σ 1 + 0))) = 0 + (1 * σ 3 + 0)) ∧ True) := by
    rw [ck_lk_c (by decide)] at p1
    rw [k86 (r := σ 0) (t := σ 1) (by omega) (by omega) (by omega)] at p0
    refine ⟨⟨by omega, ?_⟩, trivial⟩
    rw [k84 (r := σ 0) (t := σ 1) (by omega) (by omega) (by omega)]
    unfold vf_h
    rw [show 8 * σ 0 + σ 1 % ck_loc (E 67) (σ 0) = 0 + (1 * σ 2 + 0) by omega, p1]
  obtain ⟨k0, -⟩ := key
  exact ⟨_, (List.mem_of_getElem? (i := 0) rfl), σ, ck_ag_rf, (fun _ h => absurd h List.not_mem_nil), (fun _ h => absurd h List.not_mem_nil), trivial, (List.forall_mem_cons.mpr ⟨⟨⟨ck_wb_ok rfl, ck_wb_ok rfl⟩, k0⟩, (fun _ h => absurd h List.not_mem_nil)⟩), (fun _ h => absurd h List.not_mem_nil)⟩
theorem ccG2 {l : Launch} {D : va_G} {kp : Nat → ClassId} : ck_con l D kp ck_NN ceG2 := ck_con_g rfl rpG2
theorem rpG3 : ck_gcon ceG3 := by
  intro σ E hgi hF hP hΦ
  have f0 : (0 : Int) ≤ 0 + (1 * σ 0 + 0) := hF _ (List.mem_of_getElem? (i := 0) rfl)
  have f1 : (0 : Int) ≤ 5 + ((-1) * σ 0 + 0) := hF _ (List.mem_of_getElem? (i := 1) rfl)
  have f2 : (0 : Int) ≤ 1000 + (1 * σ 1 + 0) := hF _ (List.mem_of_getElem? (i := 2) rfl)
  have f3 : (0 : Int) ≤ 890000 + ((-1) * σ 1 + 0) := hF _ (List.mem_of_getElem? (i := 3) rfl)
  have p0 : ck_lk E 86 (100000 + (1000000 * σ 0 + (1 * σ 1 + 0))) = 0 + (1 * σ 2 + 0) := (hP _ (List.mem_of_getElem? (i := 0) rfl)).2.2
  have q0 : (0 : Int) ≤ 100000 + (1000000 * σ 0 + (1 * σ 1 + 0)) := (hP _ (List.mem_of_getElem? (i := 0) rfl)).2.1
  have p1 : ck_lk E 69 (0 + (1 * σ 2 + 0)) = 0 + (1 * σ 3 + 0) := (hP _ (List.mem_of_getElem? (i := 1) rfl)).2.2
  have q1 : (0 : Int) ≤ 0 + (1 * σ 2 + 0) := (hP _ (List.mem_of_getElem? (i := 1) rfl)).2.1
  have key : (((0 : Int) ≤ 100000 + (1000000 * σ 0 + (1 * σ 1 + 0)) ∧ ck_lk E 85 (100000 + (1000000 * σ 0 + (1 * σ 1 + 0))) = 0 + (1 * σ 3 + 0)) ∧ True) := by
    rw [ck_lk_c (by decide)] at p1
    rw [k86 (r := σ 0) (t := σ 1) (by omega) (by omega) (by omega)] at p0
    refine ⟨⟨by omega, ?_⟩, trivial⟩
    rw [k85 (r := σ 0) (t := σ 1) (by omega) (by omega) (by omega)]
    unfold vf_g
    rw [show 8 * σ 0 + σ 1 % ck_loc (E 67) (σ 0) = 0 + (1 * σ 2 + 0) by omega, p1]
  obtain ⟨k0, -⟩ := key
  exact ⟨_, (List.mem_of_getElem? (i := 0) rfl), σ, ck_ag_rf, (fun _ h => absurd h List.not_mem_nil), (fun _ h => absurd h List.not_mem_nil), trivial, (List.forall_mem_cons.mpr ⟨⟨⟨ck_wb_ok rfl, ck_wb_ok rfl⟩, k0⟩, (fun _ h => absurd h List.not_mem_nil)⟩), (fun _ h => absurd h List.not_mem_nil)⟩
theorem ccG3 {l : Launch} {D : va_G} {kp : Nat → ClassId} : ck_con l D kp ck_NN ceG3 := ck_con_g rfl rpG3
theorem rpPB : ck_gcon cePB := by
  intro σ E hgi hF hP hΦ
  have f0 : (0 : Int) ≤ 0 + (1 * σ 0 + 0) := hF _ (List.mem_of_getElem? (i := 0) rfl)
  have f1 : (0 : Int) ≤ 5 + ((-1) * σ 0 + 0) := hF _ (List.mem_of_getElem? (i := 1) rfl)
  have f2 : (0 : Int) ≤ (-1) + (1 * σ 1 + 0) := hF _ (List.mem_of_getElem? (i := 2) rfl)
  have p0 : ck_lk E 65 (0 + 0) = 0 + (1 * σ 1 + 0) := (hP _ (List.mem_of_getElem? (i := 0) rfl)).2.2
  have q0 : (0 : Int) ≤ 0 + 0 := (hP _ (List.mem_of_getElem? (i := 0) rfl)).2.1
  have p1 : ck_lk E 67 (0 + (1 * σ 0 + 0)) = 0 + (1 * σ 2 + 0) := (hP _ (List.mem_of_getElem? (i := 1) rfl)).2.2
  have q1 : (0 : Int) ≤ 0 + (1 * σ 0 + 0) := (hP _ (List.mem_of_getElem? (i := 1) rfl)).2.1
  have g0 : ck_FL 0 E := hΦ _ (List.mem_of_getElem? (i := 0) rfl)
  have key : ((0 : Int) ≤ (-1) + (1 * σ 2 + 0) ∧ True) := by
    unfold ck_FL at g0
    rw [if_pos (by decide)] at g0
    rw [kc (i := 0) (by decide) (by omega)] at p0
    rw [kc (i := σ 0) (by decide) (by omega)] at p1
    rcases g0 with ⟨a, -⟩ | h
    · have a : ck_loc (E 65) 0 = 0 := a
      omega
    · have h := h (σ 0) (by omega) (by omega)
      have h : 1 ≤ ck_loc (E 67) (0 + σ 0) := h
      rw [show (0 : Int) + σ 0 = σ 0 by omega] at h
      exact ⟨by omega, trivial⟩
  obtain ⟨k0, -⟩ := key
  exact ⟨_, (List.mem_of_getElem? (i := 0) rfl), σ, ck_ag_rf, (List.forall_mem_cons.mpr ⟨k0, (fun _ h => absurd h List.not_mem_nil)⟩), (fun f hf => ck_wb_ok (List.all_eq_true.mp (show List.all _ (ck_wb 3) = true from rfl) f hf)), trivial, (fun _ h => absurd h List.not_mem_nil), (fun _ h => absurd h List.not_mem_nil)⟩
theorem ccPB {l : Launch} {D : va_G} {kp : Nat → ClassId} : ck_con l D kp ck_NN cePB := ck_con_g rfl rpPB
theorem rpL0 : ck_gcon ceL0 := by
  intro σ E hgi hF hP hΦ
  have key : (((0 : Int) ≤ 0 + 0 ∧ ck_lk E 88 (0 + 0) = 1 + 0) ∧ True) := by
    refine ⟨⟨by decide, ?_⟩, trivial⟩
    rw [k88]
    rfl
  obtain ⟨k0, -⟩ := key
  exact ⟨_, (List.mem_of_getElem? (i := 0) rfl), σ, ck_ag_rf, (fun _ h => absurd h List.not_mem_nil), (fun _ h => absurd h List.not_mem_nil), trivial, (List.forall_mem_cons.mpr ⟨⟨⟨ck_wb_ok rfl, ck_wb_ok rfl⟩, k0⟩, (fun _ h => absurd h List.not_mem_nil)⟩), (fun _ h => absurd h List.not_mem_nil)⟩
theorem ccL0 {l : Launch} {D : va_G} {kp : Nat → ClassId} : ck_con l D kp ck_NN ceL0 := ck_con_g rfl rpL0
theorem rpL1 : ck_gcon ceL1 := by
  intro σ E hgi hF hP hΦ
  have f0 : (0 : Int) ≤ 0 + (1 * σ 0 + 0) := hF _ (List.mem_of_getElem? (i := 0) rfl)
  have f1 : (0 : Int) ≤ 5 + ((-1) * σ 0 + 0) := hF _ (List.mem_of_getElem? (i := 1) rfl)
  have f2 : (0 : Int) ≤ (-1) + (1 * σ 1 + 0) := hF _ (List.mem_of_getElem? (i := 2) rfl)
  have f3 : (0 : Int) ≤ (-1) + (1 * σ 2 + 0) := hF _ (List.mem_of_getElem? (i := 3) rfl)
  have p0 : ck_lk E 88 (0 + (1 * σ 0 + 0)) = 0 + (1 * σ 1 + 0) := (hP _ (List.mem_of_getElem? (i := 0) rfl)).2.2
  have q0 : (0 : Int) ≤ 0 + (1 * σ 0 + 0) := (hP _ (List.mem_of_getElem? (i := 0) rfl)).2.1
  have p1 : ck_lk E 67 (0 + (1 * σ 0 + 0)) = 0 + (1 * σ 2 + 0) := (hP _ (List.mem_of_getElem? (i := 1) rfl)).2.2
  have q1 : (0 : Int) ≤ 0 + (1 * σ 0 + 0) := (hP _ (List.mem_of_getElem? (i := 1) rfl)).2.1
  have key : (∃ v0 : Int, (0 : Int) ≤ 0 + ((-1) * σ 1 + (1 * v0 + 0)) ∧ (0 : Int) ≤ 840 + ((-1) * v0 + 0) ∧ ((0 : Int) ≤ 1 + (1 * σ 0 + 0) ∧ ck_lk E 88 (1 + (1 * σ 0 + 0)) = 0 + (1 * v0 + 0)) ∧ ((0 : Int) ≤ 0 + (1000001 * σ 1 + 0) ∧ ck_lk E 202 (0 + (1000001 * σ 1 + 0)) = 1 + 0) ∧ True) := by
    rw [k88, show (0 + (1 * σ 0 + 0)).toNat = (σ 0).toNat by omega] at p0
    rw [kc (i := σ 0) (by decide) (by omega)] at p1
    have e : vf_lc E ((σ 0).toNat + 1) = Nat.lcm (vf_lc E (σ 0).toNat) (ck_loc (E 67) (((σ 0).toNat : Nat) : Int)).toNat := rfl
    rw [Int.toNat_of_nonneg (by omega), p1] at e
    have hpos : 0 < Nat.lcm (vf_lc E (σ 0).toNat) (0 + (1 * σ 2 + 0)).toNat := Nat.lcm_pos (by omega) (by omega)
    have h1 : vf_lc E (σ 0).toNat ≤ Nat.lcm (vf_lc E (σ 0).toNat) (0 + (1 * σ 2 + 0)).toNat := Nat.le_of_dvd hpos (Nat.dvd_lcm_left _ _)
    have h2 : vf_lc E ((σ 0).toNat + 1) ≤ 840 := Nat.le_of_dvd (by decide) (vf_lc840 hgi _ (by omega) (by rw [e]; exact hpos))
    refine ⟨(vf_lc E ((σ 0).toNat + 1) : Int), by omega, by omega, ⟨by omega, ?_⟩, ⟨by omega, ?_⟩, trivial⟩
    · rw [k88, show (1 + (1 * σ 0 + 0)).toNat = (σ 0).toNat + 1 by omega]
      omega
    · rw [k202 (m := σ 1) (n := σ 1) (by omega) (by omega) (by omega), cb_t (Int.dvd_refl _)]
      rfl
  obtain ⟨v0, k0, k1, k2, k3, -⟩ := key
  exact ⟨_, (List.mem_of_getElem? (i := 0) rfl), (fun i => if i = 3 then v0 else σ i), (fun i hi => by show (if i = 3 then v0 else σ i) = σ i; rw [if_neg (show ¬ i = 3 by have : i < 3 := hi; omega)]), (List.forall_mem_cons.mpr ⟨k0, (List.forall_mem_cons.mpr ⟨k1, (fun _ h => absurd h List.not_mem_nil)⟩)⟩), (fun f hf => ck_wb_ok (List.all_eq_true.mp (show List.all _ (ck_wb 4) = true from rfl) f hf)), trivial, (List.forall_mem_cons.mpr ⟨⟨⟨ck_wb_ok rfl, ck_wb_ok rfl⟩, k2⟩, (List.forall_mem_cons.mpr ⟨⟨⟨ck_wb_ok rfl, ck_wb_ok rfl⟩, k3⟩, (fun _ h => absurd h List.not_mem_nil)⟩)⟩), (fun _ h => absurd h List.not_mem_nil)⟩
theorem ccL1 {l : Launch} {D : va_G} {kp : Nat → ClassId} : ck_con l D kp ck_NN ceL1 := ck_con_g rfl rpL1
theorem rpL2 : ck_gcon ceL2 := by
  intro σ E hgi hF hP hΦ
  have f0 : (0 : Int) ≤ 0 + (1 * σ 0 + 0) := hF _ (List.mem_of_getElem? (i := 0) rfl)
  have f1 : (0 : Int) ≤ 5 + ((-1) * σ 0 + 0) := hF _ (List.mem_of_getElem? (i := 1) rfl)
  have f2 : (0 : Int) ≤ (-1) + (1 * σ 1 + 0) := hF _ (List.mem_of_getElem? (i := 2) rfl)
  have f3 : (0 : Int) ≤ 840 + ((-1) * σ 1 + 0) := hF _ (List.mem_of_getElem? (i := 3) rfl)
  have f4 : (0 : Int) ≤ (-1) + (1 * σ 2 + 0) := hF _ (List.mem_of_getElem? (i := 4) rfl)
  have f5 : (0 : Int) ≤ 840 + ((-1) * σ 2 + 0) := hF _ (List.mem_of_getElem? (i := 5) rfl)
  have f6 : (0 : Int) ≤ (-1) + (1 * σ 3 + 0) := hF _ (List.mem_of_getElem? (i := 6) rfl)
  have f7 : (0 : Int) ≤ 8 + ((-1) * σ 3 + 0) := hF _ (List.mem_of_getElem? (i := 7) rfl)
  have f8 : (0 : Int) ≤ 0 + ((-1) * σ 1 + (1 * σ 4 + 0)) := hF _ (List.mem_of_getElem? (i := 8) rfl)
  have f9 : (0 : Int) ≤ (-1) + (1 * σ 5 + 0) := hF _ (List.mem_of_getElem? (i := 9) rfl)
  have f10 : (0 : Int) ≤ (-1) + (1 * σ 6 + 0) := hF _ (List.mem_of_getElem? (i := 10) rfl)
  have p0 : ck_lk E 88 (0 + (1 * σ 0 + 0)) = 0 + (1 * σ 2 + 0) := (hP _ (List.mem_of_getElem? (i := 0) rfl)).2.2
  have q0 : (0 : Int) ≤ 0 + (1 * σ 0 + 0) := (hP _ (List.mem_of_getElem? (i := 0) rfl)).2.1
  have p1 : ck_lk E 67 (0 + (1 * σ 0 + 0)) = 0 + (1 * σ 3 + 0) := (hP _ (List.mem_of_getElem? (i := 1) rfl)).2.2
  have q1 : (0 : Int) ≤ 0 + (1 * σ 0 + 0) := (hP _ (List.mem_of_getElem? (i := 1) rfl)).2.1
  have p2 : ck_lk E 88 (1 + (1 * σ 0 + 0)) = 0 + (1 * σ 4 + 0) := (hP _ (List.mem_of_getElem? (i := 2) rfl)).2.2
  have q2 : (0 : Int) ≤ 1 + (1 * σ 0 + 0) := (hP _ (List.mem_of_getElem? (i := 2) rfl)).2.1
  have p3 : ck_lk E 202 (0 + (1000000 * σ 1 + (1 * σ 2 + 0))) = 0 + (1 * σ 5 + 0) := (hP _ (List.mem_of_getElem? (i := 3) rfl)).2.2
  have q3 : (0 : Int) ≤ 0 + (1000000 * σ 1 + (1 * σ 2 + 0)) := (hP _ (List.mem_of_getElem? (i := 3) rfl)).2.1
  have p4 : ck_lk E 201 (9223372036854775808 + (4294967296 * σ 1 + (1 * σ 3 + 0))) = 0 + (1 * σ 6 + 0) := (hP _ (List.mem_of_getElem? (i := 4) rfl)).2.2
  have q4 : (0 : Int) ≤ 9223372036854775808 + (4294967296 * σ 1 + (1 * σ 3 + 0)) := (hP _ (List.mem_of_getElem? (i := 4) rfl)).2.1
  have key : ((0 : Int) ≤ 0 + ((-1) * σ 1 + ((-1) * σ 2 + (1 * σ 4 + 0))) ∧ ((0 : Int) ≤ 0 + (1000000 * σ 1 + (1000001 * σ 2 + 0)) ∧ ck_lk E 202 (0 + (1000000 * σ 1 + (1000001 * σ 2 + 0))) = 1 + 0) ∧ True) := by
    rw [k88, show (0 + (1 * σ 0 + 0)).toNat = (σ 0).toNat by omega] at p0
    rw [kc (i := σ 0) (by decide) (by omega)] at p1
    rw [k88, show (1 + (1 * σ 0 + 0)).toNat = (σ 0).toNat + 1 by omega] at p2
    rw [k202 (m := σ 1) (n := σ 2) (by omega) (by omega) (by omega)] at p3
    rw [k201 (a := σ 1) (b := σ 3) (by omega) (by omega) (by omega)] at p4
    have e : vf_lc E ((σ 0).toNat + 1) = Nat.lcm (vf_lc E (σ 0).toNat) (ck_loc (E 67) (((σ 0).toNat : Nat) : Int)).toNat := rfl
    rw [Int.toNat_of_nonneg (by omega), p1] at e
    have hd : σ 2 ∣ σ 1 := cb_ge p3 (by omega)
    have d1 : σ 2 ∣ σ 4 := by
      have := Int.ofNat_dvd.mpr (Nat.dvd_lcm_left (vf_lc E (σ 0).toNat) (0 + (1 * σ 3 + 0)).toNat)
      rw [← e] at this
      rw [show σ 2 = (vf_lc E (σ 0).toNat : Int) by omega, show σ 4 = (vf_lc E ((σ 0).toNat + 1) : Int) by omega]
      exact this
    have d2 : σ 3 ∣ σ 4 := by
      have := Int.ofNat_dvd.mpr (Nat.dvd_lcm_right (vf_lc E (σ 0).toNat) (0 + (1 * σ 3 + 0)).toNat)
      rw [← e, Int.toNat_of_nonneg (by omega)] at this
      rw [show σ 4 = (vf_lc E ((σ 0).toNat + 1) : Int) by omega, show σ 3 = 0 + (1 * σ 3 + 0) by omega]
      exact this
    have hne : ¬ σ 1 = σ 4 := fun q => by
      rw [← q] at d2
      have := Int.tmod_eq_zero_of_dvd d2
      omega
    have d3 : σ 2 ∣ σ 4 - σ 1 := Int.dvd_sub d1 hd
    have h3 := Int.le_of_dvd (by omega) d3
    refine ⟨by omega, ⟨by omega, ?_⟩, trivial⟩
    rw [k202 (m := σ 1 + σ 2) (n := σ 2) (by omega) (by omega) (by omega), cb_t (Int.dvd_add hd (Int.dvd_refl _))]
    rfl
  obtain ⟨k0, k1, -⟩ := key
  exact ⟨_, (List.mem_of_getElem? (i := 0) rfl), σ, ck_ag_rf, (List.forall_mem_cons.mpr ⟨k0, (fun _ h => absurd h List.not_mem_nil)⟩), (fun f hf => ck_wb_ok (List.all_eq_true.mp (show List.all _ (ck_wb 7) = true from rfl) f hf)), trivial, (List.forall_mem_cons.mpr ⟨⟨⟨ck_wb_ok rfl, ck_wb_ok rfl⟩, k1⟩, (fun _ h => absurd h List.not_mem_nil)⟩), (fun _ h => absurd h List.not_mem_nil)⟩
theorem ccL2 {l : Launch} {D : va_G} {kp : Nat → ClassId} : ck_con l D kp ck_NN ceL2 := ck_con_g rfl rpL2
theorem rpL3 : ck_gcon ceL3 := by
  intro σ E hgi hF hP hΦ
  have f0 : (0 : Int) ≤ 0 + (1 * σ 0 + 0) := hF _ (List.mem_of_getElem? (i := 0) rfl)
  have f1 : (0 : Int) ≤ 5 + ((-1) * σ 0 + 0) := hF _ (List.mem_of_getElem? (i := 1) rfl)
  have f2 : (0 : Int) ≤ (-1) + (1 * σ 1 + 0) := hF _ (List.mem_of_getElem? (i := 2) rfl)
  have f3 : (0 : Int) ≤ 840 + ((-1) * σ 1 + 0) := hF _ (List.mem_of_getElem? (i := 3) rfl)
  have f4 : (0 : Int) ≤ (-1) + (1 * σ 2 + 0) := hF _ (List.mem_of_getElem? (i := 4) rfl)
  have f5 : (0 : Int) ≤ 840 + ((-1) * σ 2 + 0) := hF _ (List.mem_of_getElem? (i := 5) rfl)
  have f6 : (0 : Int) ≤ (-1) + (1 * σ 3 + 0) := hF _ (List.mem_of_getElem? (i := 6) rfl)
  have f7 : (0 : Int) ≤ 8 + ((-1) * σ 3 + 0) := hF _ (List.mem_of_getElem? (i := 7) rfl)
  have f8 : (0 : Int) ≤ 0 + ((-1) * σ 1 + (1 * σ 4 + 0)) := hF _ (List.mem_of_getElem? (i := 8) rfl)
  have f9 : (0 : Int) ≤ (-1) + (1 * σ 5 + 0) := hF _ (List.mem_of_getElem? (i := 9) rfl)
  have f10 : (0 : Int) ≤ 0 + (1 * σ 6 + 0) := hF _ (List.mem_of_getElem? (i := 10) rfl)
  have f11 : (0 : Int) ≤ 0 + ((-1) * σ 6 + 0) := hF _ (List.mem_of_getElem? (i := 11) rfl)
  have p0 : ck_lk E 88 (0 + (1 * σ 0 + 0)) = 0 + (1 * σ 2 + 0) := (hP _ (List.mem_of_getElem? (i := 0) rfl)).2.2
  have q0 : (0 : Int) ≤ 0 + (1 * σ 0 + 0) := (hP _ (List.mem_of_getElem? (i := 0) rfl)).2.1
  have p1 : ck_lk E 67 (0 + (1 * σ 0 + 0)) = 0 + (1 * σ 3 + 0) := (hP _ (List.mem_of_getElem? (i := 1) rfl)).2.2
  have q1 : (0 : Int) ≤ 0 + (1 * σ 0 + 0) := (hP _ (List.mem_of_getElem? (i := 1) rfl)).2.1
  have p2 : ck_lk E 88 (1 + (1 * σ 0 + 0)) = 0 + (1 * σ 4 + 0) := (hP _ (List.mem_of_getElem? (i := 2) rfl)).2.2
  have q2 : (0 : Int) ≤ 1 + (1 * σ 0 + 0) := (hP _ (List.mem_of_getElem? (i := 2) rfl)).2.1
  have p3 : ck_lk E 202 (0 + (1000000 * σ 1 + (1 * σ 2 + 0))) = 0 + (1 * σ 5 + 0) := (hP _ (List.mem_of_getElem? (i := 3) rfl)).2.2
  have q3 : (0 : Int) ≤ 0 + (1000000 * σ 1 + (1 * σ 2 + 0)) := (hP _ (List.mem_of_getElem? (i := 3) rfl)).2.1
  have p4 : ck_lk E 201 (9223372036854775808 + (4294967296 * σ 1 + (1 * σ 3 + 0))) = 0 + (1 * σ 6 + 0) := (hP _ (List.mem_of_getElem? (i := 4) rfl)).2.2
  have q4 : (0 : Int) ≤ 9223372036854775808 + (4294967296 * σ 1 + (1 * σ 3 + 0)) := (hP _ (List.mem_of_getElem? (i := 4) rfl)).2.1
  have key : ((0 : Int) ≤ 0 + (1 * σ 1 + ((-1) * σ 4 + 0)) ∧ (0 : Int) ≤ 0 + ((-1) * σ 1 + (1 * σ 4 + 0)) ∧ True) := by
    rw [k88, show (0 + (1 * σ 0 + 0)).toNat = (σ 0).toNat by omega] at p0
    rw [kc (i := σ 0) (by decide) (by omega)] at p1
    rw [k88, show (1 + (1 * σ 0 + 0)).toNat = (σ 0).toNat + 1 by omega] at p2
    rw [k202 (m := σ 1) (n := σ 2) (by omega) (by omega) (by omega)] at p3
    rw [k201 (a := σ 1) (b := σ 3) (by omega) (by omega) (by omega)] at p4
    have e : vf_lc E ((σ 0).toNat + 1) = Nat.lcm (vf_lc E (σ 0).toNat) (ck_loc (E 67) (((σ 0).toNat : Nat) : Int)).toNat := rfl
    rw [Int.toNat_of_nonneg (by omega), p1] at e
    have hd : σ 2 ∣ σ 1 := cb_ge p3 (by omega)
    have hd2 : σ 3 ∣ σ 1 := Int.dvd_of_tmod_eq_zero (by omega)
    have n1 : vf_lc E (σ 0).toNat ∣ (σ 1).toNat := by
      apply Int.ofNat_dvd.mp
      rw [Int.toNat_of_nonneg (by omega), show (vf_lc E (σ 0).toNat : Int) = σ 2 by omega]
      exact hd
    have n2 : (0 + (1 * σ 3 + 0)).toNat ∣ (σ 1).toNat := by
      apply Int.ofNat_dvd.mp
      rw [Int.toNat_of_nonneg (by omega), Int.toNat_of_nonneg (by omega), show 0 + (1 * σ 3 + 0) = σ 3 by omega]
      exact hd2
    have n3 := Nat.le_of_dvd (by omega) (Nat.lcm_dvd n1 n2)
    rw [← e] at n3
    exact ⟨by omega, by omega, trivial⟩
  obtain ⟨k0, k1, -⟩ := key
  exact ⟨_, (List.mem_of_getElem? (i := 0) rfl), σ, ck_ag_rf, (List.forall_mem_cons.mpr ⟨k0, (List.forall_mem_cons.mpr ⟨k1, (fun _ h => absurd h List.not_mem_nil)⟩)⟩), (fun f hf => ck_wb_ok (List.all_eq_true.mp (show List.all _ (ck_wb 7) = true from rfl) f hf)), trivial, (fun _ h => absurd h List.not_mem_nil), (fun _ h => absurd h List.not_mem_nil)⟩
theorem ccL3 {l : Launch} {D : va_G} {kp : Nat → ClassId} : ck_con l D kp ck_NN ceL3 := ck_con_g rfl rpL3
theorem rpL4 : ck_gcon ceL4 := by
  intro σ E hgi hF hP hΦ
  have p0 : ck_lk E 65 (0 + 0) = 0 + (1 * σ 0 + 0) := (hP _ (List.mem_of_getElem? (i := 0) rfl)).2.2
  have q0 : (0 : Int) ≤ 0 + 0 := (hP _ (List.mem_of_getElem? (i := 0) rfl)).2.1
  have p1 : ck_lk E 88 (0 + (1 * σ 0 + 0)) = 0 + (1 * σ 1 + 0) := (hP _ (List.mem_of_getElem? (i := 1) rfl)).2.2
  have q1 : (0 : Int) ≤ 0 + (1 * σ 0 + 0) := (hP _ (List.mem_of_getElem? (i := 1) rfl)).2.1
  have key : (((0 : Int) ≤ 0 + 0 ∧ ck_lk E 87 (0 + 0) = 0 + (1 * σ 1 + 0)) ∧ True) := by
    rw [kc (i := 0) (by decide) (by omega)] at p0
    rw [k88, show (0 + (1 * σ 0 + 0)).toNat = (σ 0).toNat by omega] at p1
    refine ⟨⟨by decide, ?_⟩, trivial⟩
    rw [k87, show vf_rf E = σ 0 by unfold vf_rf; omega]
    exact p1
  obtain ⟨k0, -⟩ := key
  exact ⟨_, (List.mem_of_getElem? (i := 0) rfl), σ, ck_ag_rf, (fun _ h => absurd h List.not_mem_nil), (fun _ h => absurd h List.not_mem_nil), trivial, (List.forall_mem_cons.mpr ⟨⟨⟨ck_wb_ok rfl, ck_wb_ok rfl⟩, k0⟩, (fun _ h => absurd h List.not_mem_nil)⟩), (fun _ h => absurd h List.not_mem_nil)⟩
theorem ccL4 {l : Launch} {D : va_G} {kp : Nat → ClassId} : ck_con l D kp ck_NN ceL4 := ck_con_g rfl rpL4
theorem rpC0 : ck_gcon ceC0 := by
  intro σ E hgi hF hP hΦ
  have f0 : (0 : Int) ≤ 0 + (1 * σ 0 + 0) := hF _ (List.mem_of_getElem? (i := 0) rfl)
  have f1 : (0 : Int) ≤ 5 + ((-1) * σ 0 + 0) := hF _ (List.mem_of_getElem? (i := 1) rfl)
  have f2 : (0 : Int) ≤ 900 + (1 * σ 1 + 0) := hF _ (List.mem_of_getElem? (i := 2) rfl)
  have f3 : (0 : Int) ≤ 800000 + ((-1) * σ 1 + 0) := hF _ (List.mem_of_getElem? (i := 3) rfl)
  have key : (((0 : Int) ≤ 770001 + (77 * σ 0 + (770 * σ 1 + 0)) ∧ ck_lk E 90 (770001 + (77 * σ 0 + (770 * σ 1 + 0))) = 0 + 0) ∧ True) := by
    refine ⟨⟨by omega, ?_⟩, trivial⟩
    rw [k90 (t := σ 1) (r := σ 0) (q := 0) (h := 1) (by omega) (by omega) (by omega) (by omega) (by omega) (by omega) (by omega)]
    rfl
  obtain ⟨k0, -⟩ := key
  exact ⟨_, (List.mem_of_getElem? (i := 0) rfl), σ, ck_ag_rf, (fun _ h => absurd h List.not_mem_nil), (fun _ h => absurd h List.not_mem_nil), trivial, (List.forall_mem_cons.mpr ⟨⟨⟨ck_wb_ok rfl, ck_wb_ok rfl⟩, k0⟩, (fun _ h => absurd h List.not_mem_nil)⟩), (fun _ h => absurd h List.not_mem_nil)⟩
theorem ccC0 {l : Launch} {D : va_G} {kp : Nat → ClassId} : ck_con l D kp ck_NN ceC0 := ck_con_g rfl rpC0
theorem rpC1a : ck_gcon ceC1a := by
  intro σ E hgi hF hP hΦ
  have f0 : (0 : Int) ≤ 0 + (1 * σ 0 + 0) := hF _ (List.mem_of_getElem? (i := 0) rfl)
  have f1 : (0 : Int) ≤ 5 + ((-1) * σ 0 + 0) := hF _ (List.mem_of_getElem? (i := 1) rfl)
  have f2 : (0 : Int) ≤ 900 + (1 * σ 1 + 0) := hF _ (List.mem_of_getElem? (i := 2) rfl)
  have f3 : (0 : Int) ≤ 800000 + ((-1) * σ 1 + 0) := hF _ (List.mem_of_getElem? (i := 3) rfl)
  have f4 : (0 : Int) ≤ 0 + (1 * σ 2 + 0) := hF _ (List.mem_of_getElem? (i := 4) rfl)
  have f5 : (0 : Int) ≤ 5 + ((-1) * σ 2 + 0) := hF _ (List.mem_of_getElem? (i := 5) rfl)
  have f6 : (0 : Int) ≤ (-1) + (1 * σ 3 + 0) := hF _ (List.mem_of_getElem? (i := 6) rfl)
  have f7 : (0 : Int) ≤ 9 + ((-1) * σ 3 + 0) := hF _ (List.mem_of_getElem? (i := 7) rfl)
  have f8 : (0 : Int) ≤ (-1) + ((-1) * σ 3 + (1 * σ 5 + 0)) := hF _ (List.mem_of_getElem? (i := 8) rfl)
  have p0 : ck_lk E 90 (770000 + (77 * σ 0 + (770 * σ 1 + (11 * σ 2 + (1 * σ 3 + 0))))) = 0 + (1 * σ 4 + 0) := (hP _ (List.mem_of_getElem? (i := 0) rfl)).2.2
  have q0 : (0 : Int) ≤ 770000 + (77 * σ 0 + (770 * σ 1 + (11 * σ 2 + (1 * σ 3 + 0)))) := (hP _ (List.mem_of_getElem? (i := 0) rfl)).2.1
  have p1 : ck_lk E 84 (100000 + (1 * σ 1 + (1000000 * σ 2 + ((-1) * σ 3 + 0)))) = 0 + (1 * σ 5 + 0) := (hP _ (List.mem_of_getElem? (i := 1) rfl)).2.2
  have q1 : (0 : Int) ≤ 100000 + (1 * σ 1 + (1000000 * σ 2 + ((-1) * σ 3 + 0))) := (hP _ (List.mem_of_getElem? (i := 1) rfl)).2.1
  have key : (((0 : Int) ≤ 770001 + (77 * σ 0 + (770 * σ 1 + (11 * σ 2 + (1 * σ 3 + 0)))) ∧ ck_lk E 90 (770001 + (77 * σ 0 + (770 * σ 1 + (11 * σ 2 + (1 * σ 3 + 0))))) = 0 + (1 * σ 4 + 0)) ∧ True) := by
    rw [k90 (t := σ 1) (r := σ 0) (q := σ 2) (h := σ 3) (by omega) (by omega) (by omega) (by omega) (by omega) (by omega) (by omega)] at p0
    rw [k84 (r := σ 2) (t := σ 1 - σ 3) (by omega) (by omega) (by omega)] at p1
    refine ⟨⟨by omega, ?_⟩, trivial⟩
    rw [k90 (t := σ 1) (r := σ 0) (q := σ 2) (h := σ 3 + 1) (by omega) (by omega) (by omega) (by omega) (by omega) (by omega) (by omega), vf_cd1 (by omega)]
    have e : vf_b E (σ 1) (σ 0) (σ 2) (σ 3) = 0 := by unfold vf_b; rw [if_neg (fun q => by omega)]
    omega
  obtain ⟨k0, -⟩ := key
  exact ⟨_, (List.mem_of_getElem? (i := 0) rfl), σ, ck_ag_rf, (fun _ h => absurd h List.not_mem_nil), (fun _ h => absurd h List.not_mem_nil), trivial, (List.forall_mem_cons.mpr ⟨⟨⟨ck_wb_ok rfl, ck_wb_ok rfl⟩, k0⟩, (fun _ h => absurd h List.not_mem_nil)⟩), (fun _ h => absurd h List.not_mem_nil)⟩
theorem ccC1a {l : Launch} {D : va_G} {kp : Nat → ClassId} : ck_con l D kp ck_NN ceC1a := ck_con_g rfl rpC1a
theorem rpC1b : ck_gcon ceC1b := by
  intro σ E hgi hF hP hΦ
  have f0 : (0 : Int) ≤ 0 + (1 * σ 0 + 0) := hF _ (List.mem_of_getElem? (i := 0) rfl)
  have f1 : (0 : Int) ≤ 5 + ((-1) * σ 0 + 0) := hF _ (List.mem_of_getElem? (i := 1) rfl)
  have f2 : (0 : Int) ≤ 900 + (1 * σ 1 + 0) := hF _ (List.mem_of_getElem? (i := 2) rfl)
  have f3 : (0 : Int) ≤ 800000 + ((-1) * σ 1 + 0) := hF _ (List.mem_of_getElem? (i := 3) rfl)
  have f4 : (0 : Int) ≤ 0 + (1 * σ 2 + 0) := hF _ (List.mem_of_getElem? (i := 4) rfl)
  have f5 : (0 : Int) ≤ 5 + ((-1) * σ 2 + 0) := hF _ (List.mem_of_getElem? (i := 5) rfl)
  have f6 : (0 : Int) ≤ (-1) + (1 * σ 3 + 0) := hF _ (List.mem_of_getElem? (i := 6) rfl)
  have f7 : (0 : Int) ≤ 9 + ((-1) * σ 3 + 0) := hF _ (List.mem_of_getElem? (i := 7) rfl)
  have f8 : (0 : Int) ≤ (-1) + (1 * σ 3 + ((-1) * σ 5 + 0)) := hF _ (List.mem_of_getElem? (i := 8) rfl)
  have p0 : ck_lk E 90 (770000 + (77 * σ 0 + (770 * σ 1 + (11 * σ 2 + (1 * σ 3 + 0))))) = 0 + (1 * σ 4 + 0) := (hP _ (List.mem_of_getElem? (i := 0) rfl)).2.2
  have q0 : (0 : Int) ≤ 770000 + (77 * σ 0 + (770 * σ 1 + (11 * σ 2 + (1 * σ 3 + 0)))) := (hP _ (List.mem_of_getElem? (i := 0) rfl)).2.1
  have p1 : ck_lk E 84 (100000 + (1 * σ 1 + (1000000 * σ 2 + ((-1) * σ 3 + 0)))) = 0 + (1 * σ 5 + 0) := (hP _ (List.mem_of_getElem? (i := 1) rfl)).2.2
  have q1 : (0 : Int) ≤ 100000 + (1 * σ 1 + (1000000 * σ 2 + ((-1) * σ 3 + 0))) := (hP _ (List.mem_of_getElem? (i := 1) rfl)).2.1
  have key : (((0 : Int) ≤ 770001 + (77 * σ 0 + (770 * σ 1 + (11 * σ 2 + (1 * σ 3 + 0)))) ∧ ck_lk E 90 (770001 + (77 * σ 0 + (770 * σ 1 + (11 * σ 2 + (1 * σ 3 + 0))))) = 0 + (1 * σ 4 + 0)) ∧ True) := by
    rw [k90 (t := σ 1) (r := σ 0) (q := σ 2) (h := σ 3) (by omega) (by omega) (by omega) (by omega) (by omega) (by omega) (by omega)] at p0
    rw [k84 (r := σ 2) (t := σ 1 - σ 3) (by omega) (by omega) (by omega)] at p1
    refine ⟨⟨by omega, ?_⟩, trivial⟩
    rw [k90 (t := σ 1) (r := σ 0) (q := σ 2) (h := σ 3 + 1) (by omega) (by omega) (by omega) (by omega) (by omega) (by omega) (by omega), vf_cd1 (by omega)]
    have e : vf_b E (σ 1) (σ 0) (σ 2) (σ 3) = 0 := by unfold vf_b; rw [if_neg (fun q => by omega)]
    omega
  obtain ⟨k0, -⟩ := key
  exact ⟨_, (List.mem_of_getElem? (i := 0) rfl), σ, ck_ag_rf, (fun _ h => absurd h List.not_mem_nil), (fun _ h => absurd h List.not_mem_nil), trivial, (List.forall_mem_cons.mpr ⟨⟨⟨ck_wb_ok rfl, ck_wb_ok rfl⟩, k0⟩, (fun _ h => absurd h List.not_mem_nil)⟩), (fun _ h => absurd h List.not_mem_nil)⟩
theorem ccC1b {l : Launch} {D : va_G} {kp : Nat → ClassId} : ck_con l D kp ck_NN ceC1b := ck_con_g rfl rpC1b
theorem rpC2a : ck_gcon ceC2a := by
  intro σ E hgi hF hP hΦ
  have f0 : (0 : Int) ≤ 0 + (1 * σ 0 + 0) := hF _ (List.mem_of_getElem? (i := 0) rfl)
  have f1 : (0 : Int) ≤ 5 + ((-1) * σ 0 + 0) := hF _ (List.mem_of_getElem? (i := 1) rfl)
  have f2 : (0 : Int) ≤ 900 + (1 * σ 1 + 0) := hF _ (List.mem_of_getElem? (i := 2) rfl)
  have f3 : (0 : Int) ≤ 800000 + ((-1) * σ 1 + 0) := hF _ (List.mem_of_getElem? (i := 3) rfl)
  have f4 : (0 : Int) ≤ 0 + (1 * σ 2 + 0) := hF _ (List.mem_of_getElem? (i := 4) rfl)
  have f5 : (0 : Int) ≤ 5 + ((-1) * σ 2 + 0) := hF _ (List.mem_of_getElem? (i := 5) rfl)
  have f6 : (0 : Int) ≤ (-1) + (1 * σ 3 + 0) := hF _ (List.mem_of_getElem? (i := 6) rfl)
  have f7 : (0 : Int) ≤ 9 + ((-1) * σ 3 + 0) := hF _ (List.mem_of_getElem? (i := 7) rfl)
  have f8 : (0 : Int) ≤ (-1) + ((-1) * σ 0 + (1 * σ 6 + 0)) := hF _ (List.mem_of_getElem? (i := 8) rfl)
  have p0 : ck_lk E 90 (770000 + (77 * σ 0 + (770 * σ 1 + (11 * σ 2 + (1 * σ 3 + 0))))) = 0 + (1 * σ 4 + 0) := (hP _ (List.mem_of_getElem? (i := 0) rfl)).2.2
  have q0 : (0 : Int) ≤ 770000 + (77 * σ 0 + (770 * σ 1 + (11 * σ 2 + (1 * σ 3 + 0)))) := (hP _ (List.mem_of_getElem? (i := 0) rfl)).2.1
  have p1 : ck_lk E 84 (100000 + (1 * σ 1 + (1000000 * σ 2 + ((-1) * σ 3 + 0)))) = 0 + (1 * σ 5 + 0) := (hP _ (List.mem_of_getElem? (i := 1) rfl)).2.2
  have q1 : (0 : Int) ≤ 100000 + (1 * σ 1 + (1000000 * σ 2 + ((-1) * σ 3 + 0))) := (hP _ (List.mem_of_getElem? (i := 1) rfl)).2.1
  have p2 : ck_lk E 85 (100000 + (1 * σ 1 + (1000000 * σ 2 + ((-1) * σ 3 + 0)))) = 0 + (1 * σ 6 + 0) := (hP _ (List.mem_of_getElem? (i := 2) rfl)).2.2
  have q2 : (0 : Int) ≤ 100000 + (1 * σ 1 + (1000000 * σ 2 + ((-1) * σ 3 + 0))) := (hP _ (List.mem_of_getElem? (i := 2) rfl)).2.1
  have key : (((0 : Int) ≤ 770001 + (77 * σ 0 + (770 * σ 1 + (11 * σ 2 + (1 * σ 3 + 0)))) ∧ ck_lk E 90 (770001 + (77 * σ 0 + (770 * σ 1 + (11 * σ 2 + (1 * σ 3 + 0))))) = 0 + (1 * σ 4 + 0)) ∧ True) := by
    rw [k90 (t := σ 1) (r := σ 0) (q := σ 2) (h := σ 3) (by omega) (by omega) (by omega) (by omega) (by omega) (by omega) (by omega)] at p0
    rw [k85 (r := σ 2) (t := σ 1 - σ 3) (by omega) (by omega) (by omega)] at p2
    refine ⟨⟨by omega, ?_⟩, trivial⟩
    rw [k90 (t := σ 1) (r := σ 0) (q := σ 2) (h := σ 3 + 1) (by omega) (by omega) (by omega) (by omega) (by omega) (by omega) (by omega), vf_cd1 (by omega)]
    have e : vf_b E (σ 1) (σ 0) (σ 2) (σ 3) = 0 := by unfold vf_b; rw [if_neg (fun q => by omega)]
    omega
  obtain ⟨k0, -⟩ := key
  exact ⟨_, (List.mem_of_getElem? (i := 0) rfl), σ, ck_ag_rf, (fun _ h => absurd h List.not_mem_nil), (fun _ h => absurd h List.not_mem_nil), trivial, (List.forall_mem_cons.mpr ⟨⟨⟨ck_wb_ok rfl, ck_wb_ok rfl⟩, k0⟩, (fun _ h => absurd h List.not_mem_nil)⟩), (fun _ h => absurd h List.not_mem_nil)⟩
theorem ccC2a {l : Launch} {D : va_G} {kp : Nat → ClassId} : ck_con l D kp ck_NN ceC2a := ck_con_g rfl rpC2a
theorem rpC2b : ck_gcon ceC2b := by
  intro σ E hgi hF hP hΦ
  have f0 : (0 : Int) ≤ 0 + (1 * σ 0 + 0) := hF _ (List.mem_of_getElem? (i := 0) rfl)
  have f1 : (0 : Int) ≤ 5 + ((-1) * σ 0 + 0) := hF _ (List.mem_of_getElem? (i := 1) rfl)
  have f2 : (0 : Int) ≤ 900 + (1 * σ 1 + 0) := hF _ (List.mem_of_getElem? (i := 2) rfl)
  have f3 : (0 : Int) ≤ 800000 + ((-1) * σ 1 + 0) := hF _ (List.mem_of_getElem? (i := 3) rfl)
  have f4 : (0 : Int) ≤ 0 + (1 * σ 2 + 0) := hF _ (List.mem_of_getElem? (i := 4) rfl)
  have f5 : (0 : Int) ≤ 5 + ((-1) * σ 2 + 0) := hF _ (List.mem_of_getElem? (i := 5) rfl)
  have f6 : (0 : Int) ≤ (-1) + (1 * σ 3 + 0) := hF _ (List.mem_of_getElem? (i := 6) rfl)
  have f7 : (0 : Int) ≤ 9 + ((-1) * σ 3 + 0) := hF _ (List.mem_of_getElem? (i := 7) rfl)
  have f8 : (0 : Int) ≤ (-1) + (1 * σ 0 + ((-1) * σ 6 + 0)) := hF _ (List.mem_of_getElem? (i := 8) rfl)
  have p0 : ck_lk E 90 (770000 + (77 * σ 0 + (770 * σ 1 + (11 * σ 2 + (1 * σ 3 + 0))))) = 0 + (1 * σ 4 + 0) := (hP _ (List.mem_of_getElem? (i := 0) rfl)).2.2
  have q0 : (0 : Int) ≤ 770000 + (77 * σ 0 + (770 * σ 1 + (11 * σ 2 + (1 * σ 3 + 0)))) := (hP _ (List.mem_of_getElem? (i := 0) rfl)).2.1
  have p1 : ck_lk E 84 (100000 + (1 * σ 1 + (1000000 * σ 2 + ((-1) * σ 3 + 0)))) = 0 + (1 * σ 5 + 0) := (hP _ (List.mem_of_getElem? (i := 1) rfl)).2.2
  have q1 : (0 : Int) ≤ 100000 + (1 * σ 1 + (1000000 * σ 2 + ((-1) * σ 3 + 0))) := (hP _ (List.mem_of_getElem? (i := 1) rfl)).2.1
  have p2 : ck_lk E 85 (100000 + (1 * σ 1 + (1000000 * σ 2 + ((-1) * σ 3 + 0)))) = 0 + (1 * σ 6 + 0) := (hP _ (List.mem_of_getElem? (i := 2) rfl)).2.2
  have q2 : (0 : Int) ≤ 100000 + (1 * σ 1 + (1000000 * σ 2 + ((-1) * σ 3 + 0))) := (hP _ (List.mem_of_getElem? (i := 2) rfl)).2.1
  have key : (((0 : Int) ≤ 770001 + (77 * σ 0 + (770 * σ 1 + (11 * σ 2 + (1 * σ 3 + 0)))) ∧ ck_lk E 90 (770001 + (77 * σ 0 + (770 * σ 1 + (11 * σ 2 + (1 * σ 3 + 0))))) = 0 + (1 * σ 4 + 0)) ∧ True) := by
    rw [k90 (t := σ 1) (r := σ 0) (q := σ 2) (h := σ 3) (by omega) (by omega) (by omega) (by omega) (by omega) (by omega) (by omega)] at p0
    rw [k85 (r := σ 2) (t := σ 1 - σ 3) (by omega) (by omega) (by omega)] at p2
    refine ⟨⟨by omega, ?_⟩, trivial⟩
    rw [k90 (t := σ 1) (r := σ 0) (q := σ 2) (h := σ 3 + 1) (by omega) (by omega) (by omega) (by omega) (by omega) (by omega) (by omega), vf_cd1 (by omega)]
    have e : vf_b E (σ 1) (σ 0) (σ 2) (σ 3) = 0 := by unfold vf_b; rw [if_neg (fun q => by omega)]
    omega
  obtain ⟨k0, -⟩ := key
  exact ⟨_, (List.mem_of_getElem? (i := 0) rfl), σ, ck_ag_rf, (fun _ h => absurd h List.not_mem_nil), (fun _ h => absurd h List.not_mem_nil), trivial, (List.forall_mem_cons.mpr ⟨⟨⟨ck_wb_ok rfl, ck_wb_ok rfl⟩, k0⟩, (fun _ h => absurd h List.not_mem_nil)⟩), (fun _ h => absurd h List.not_mem_nil)⟩
theorem ccC2b {l : Launch} {D : va_G} {kp : Nat → ClassId} : ck_con l D kp ck_NN ceC2b := ck_con_g rfl rpC2b
theorem rpC3 : ck_gcon ceC3 := by
  intro σ E hgi hF hP hΦ
  have f0 : (0 : Int) ≤ 0 + (1 * σ 0 + 0) := hF _ (List.mem_of_getElem? (i := 0) rfl)
  have f1 : (0 : Int) ≤ 5 + ((-1) * σ 0 + 0) := hF _ (List.mem_of_getElem? (i := 1) rfl)
  have f2 : (0 : Int) ≤ 900 + (1 * σ 1 + 0) := hF _ (List.mem_of_getElem? (i := 2) rfl)
  have f3 : (0 : Int) ≤ 800000 + ((-1) * σ 1 + 0) := hF _ (List.mem_of_getElem? (i := 3) rfl)
  have f4 : (0 : Int) ≤ 0 + (1 * σ 2 + 0) := hF _ (List.mem_of_getElem? (i := 4) rfl)
  have f5 : (0 : Int) ≤ 5 + ((-1) * σ 2 + 0) := hF _ (List.mem_of_getElem? (i := 5) rfl)
  have f6 : (0 : Int) ≤ (-1) + (1 * σ 3 + 0) := hF _ (List.mem_of_getElem? (i := 6) rfl)
  have f7 : (0 : Int) ≤ 9 + ((-1) * σ 3 + 0) := hF _ (List.mem_of_getElem? (i := 7) rfl)
  have f8 : (0 : Int) ≤ 0 + ((-1) * σ 3 + (1 * σ 5 + 0)) := hF _ (List.mem_of_getElem? (i := 8) rfl)
  have f9 : (0 : Int) ≤ 0 + (1 * σ 3 + ((-1) * σ 5 + 0)) := hF _ (List.mem_of_getElem? (i := 9) rfl)
  have f10 : (0 : Int) ≤ 0 + ((-1) * σ 0 + (1 * σ 6 + 0)) := hF _ (List.mem_of_getElem? (i := 10) rfl)
  have f11 : (0 : Int) ≤ 0 + (1 * σ 0 + ((-1) * σ 6 + 0)) := hF _ (List.mem_of_getElem? (i := 11) rfl)
  have p0 : ck_lk E 90 (770000 + (77 * σ 0 + (770 * σ 1 + (11 * σ 2 + (1 * σ 3 + 0))))) = 0 + (1 * σ 4 + 0) := (hP _ (List.mem_of_getElem? (i := 0) rfl)).2.2
  have q0 : (0 : Int) ≤ 770000 + (77 * σ 0 + (770 * σ 1 + (11 * σ 2 + (1 * σ 3 + 0)))) := (hP _ (List.mem_of_getElem? (i := 0) rfl)).2.1
  have p1 : ck_lk E 84 (100000 + (1 * σ 1 + (1000000 * σ 2 + ((-1) * σ 3 + 0)))) = 0 + (1 * σ 5 + 0) := (hP _ (List.mem_of_getElem? (i := 1) rfl)).2.2
  have q1 : (0 : Int) ≤ 100000 + (1 * σ 1 + (1000000 * σ 2 + ((-1) * σ 3 + 0))) := (hP _ (List.mem_of_getElem? (i := 1) rfl)).2.1
  have p2 : ck_lk E 85 (100000 + (1 * σ 1 + (1000000 * σ 2 + ((-1) * σ 3 + 0)))) = 0 + (1 * σ 6 + 0) := (hP _ (List.mem_of_getElem? (i := 2) rfl)).2.2
  have q2 : (0 : Int) ≤ 100000 + (1 * σ 1 + (1000000 * σ 2 + ((-1) * σ 3 + 0))) := (hP _ (List.mem_of_getElem? (i := 2) rfl)).2.1
  have key : (((0 : Int) ≤ 770001 + (77 * σ 0 + (770 * σ 1 + (11 * σ 2 + (1 * σ 3 + 0)))) ∧ ck_lk E 90 (770001 + (77 * σ 0 + (770 * σ 1 + (11 * σ 2 + (1 * σ 3 + 0))))) = 1 + (1 * σ 4 + 0)) ∧ True) := by
    rw [k90 (t := σ 1) (r := σ 0) (q := σ 2) (h := σ 3) (by omega) (by omega) (by omega) (by omega) (by omega) (by omega) (by omega)] at p0
    rw [k84 (r := σ 2) (t := σ 1 - σ 3) (by omega) (by omega) (by omega)] at p1
    rw [k85 (r := σ 2) (t := σ 1 - σ 3) (by omega) (by omega) (by omega)] at p2
    refine ⟨⟨by omega, ?_⟩, trivial⟩
    rw [k90 (t := σ 1) (r := σ 0) (q := σ 2) (h := σ 3 + 1) (by omega) (by omega) (by omega) (by omega) (by omega) (by omega) (by omega), vf_cd1 (by omega)]
    have e : vf_b E (σ 1) (σ 0) (σ 2) (σ 3) = 1 := by unfold vf_b; rw [if_pos ⟨by omega, by omega⟩]
    omega
  obtain ⟨k0, -⟩ := key
  exact ⟨_, (List.mem_of_getElem? (i := 0) rfl), σ, ck_ag_rf, (fun _ h => absurd h List.not_mem_nil), (fun _ h => absurd h List.not_mem_nil), trivial, (List.forall_mem_cons.mpr ⟨⟨⟨ck_wb_ok rfl, ck_wb_ok rfl⟩, k0⟩, (fun _ h => absurd h List.not_mem_nil)⟩), (fun _ h => absurd h List.not_mem_nil)⟩
theorem ccC3 {l : Launch} {D : va_G} {kp : Nat → ClassId} : ck_con l D kp ck_NN ceC3 := ck_con_g rfl rpC3
theorem rpC4 : ck_gcon ceC4 := by
  intro σ E hgi hF hP hΦ
  have f0 : (0 : Int) ≤ 0 + (1 * σ 0 + 0) := hF _ (List.mem_of_getElem? (i := 0) rfl)
  have f1 : (0 : Int) ≤ 5 + ((-1) * σ 0 + 0) := hF _ (List.mem_of_getElem? (i := 1) rfl)
  have f2 : (0 : Int) ≤ 900 + (1 * σ 1 + 0) := hF _ (List.mem_of_getElem? (i := 2) rfl)
  have f3 : (0 : Int) ≤ 800000 + ((-1) * σ 1 + 0) := hF _ (List.mem_of_getElem? (i := 3) rfl)
  have f4 : (0 : Int) ≤ 0 + (1 * σ 2 + 0) := hF _ (List.mem_of_getElem? (i := 4) rfl)
  have f5 : (0 : Int) ≤ 5 + ((-1) * σ 2 + 0) := hF _ (List.mem_of_getElem? (i := 5) rfl)
  have p0 : ck_lk E 90 (770010 + (77 * σ 0 + (770 * σ 1 + (11 * σ 2 + 0)))) = 0 + (1 * σ 3 + 0) := (hP _ (List.mem_of_getElem? (i := 0) rfl)).2.2
  have q0 : (0 : Int) ≤ 770010 + (77 * σ 0 + (770 * σ 1 + (11 * σ 2 + 0))) := (hP _ (List.mem_of_getElem? (i := 0) rfl)).2.1
  have key : (((0 : Int) ≤ 770012 + (77 * σ 0 + (770 * σ 1 + (11 * σ 2 + 0))) ∧ ck_lk E 90 (770012 + (77 * σ 0 + (770 * σ 1 + (11 * σ 2 + 0)))) = 0 + (1 * σ 3 + 0)) ∧ True) := by
    rw [k90 (t := σ 1) (r := σ 0) (q := σ 2) (h := 10) (by omega) (by omega) (by omega) (by omega) (by omega) (by omega) (by omega)] at p0
    refine ⟨⟨by omega, ?_⟩, trivial⟩
    rw [k90 (t := σ 1) (r := σ 0) (q := σ 2 + 1) (h := 1) (by omega) (by omega) (by omega) (by omega) (by omega) (by omega) (by omega), vf_cd10 (by omega)]
    exact p0
  obtain ⟨k0, -⟩ := key
  exact ⟨_, (List.mem_of_getElem? (i := 0) rfl), σ, ck_ag_rf, (fun _ h => absurd h List.not_mem_nil), (fun _ h => absurd h List.not_mem_nil), trivial, (List.forall_mem_cons.mpr ⟨⟨⟨ck_wb_ok rfl, ck_wb_ok rfl⟩, k0⟩, (fun _ h => absurd h List.not_mem_nil)⟩), (fun _ h => absurd h List.not_mem_nil)⟩
theorem ccC4 {l : Launch} {D : va_G} {kp : Nat → ClassId} : ck_con l D kp ck_NN ceC4 := ck_con_g rfl rpC4
theorem rpK1 : ck_gcon ceK1 := by
  intro σ E hgi hF hP hΦ
  have f0 : (0 : Int) ≤ 0 + (1 * σ 0 + 0) := hF _ (List.mem_of_getElem? (i := 0) rfl)
  have f1 : (0 : Int) ≤ 5 + ((-1) * σ 0 + 0) := hF _ (List.mem_of_getElem? (i := 1) rfl)
  have f2 : (0 : Int) ≤ 900 + (1 * σ 1 + 0) := hF _ (List.mem_of_getElem? (i := 2) rfl)
  have f3 : (0 : Int) ≤ 800000 + ((-1) * σ 1 + 0) := hF _ (List.mem_of_getElem? (i := 3) rfl)
  have f4 : (0 : Int) ≤ 0 + (1 * σ 2 + 0) := hF _ (List.mem_of_getElem? (i := 4) rfl)
  have f5 : (0 : Int) ≤ 6 + ((-1) * σ 2 + 0) := hF _ (List.mem_of_getElem? (i := 5) rfl)
  have f6 : (0 : Int) ≤ 0 + ((-1) * σ 4 + 0) := hF _ (List.mem_of_getElem? (i := 6) rfl)
  have p0 : ck_lk E 65 (0 + 0) = 0 + (1 * σ 2 + 0) := (hP _ (List.mem_of_getElem? (i := 0) rfl)).2.2
  have q0 : (0 : Int) ≤ 0 + 0 := (hP _ (List.mem_of_getElem? (i := 0) rfl)).2.1
  have p1 : ck_lk E 90 (770001 + (77 * σ 0 + (770 * σ 1 + (11 * σ 2 + 0)))) = 0 + (1 * σ 3 + 0) := (hP _ (List.mem_of_getElem? (i := 1) rfl)).2.2
  have q1 : (0 : Int) ≤ 770001 + (77 * σ 0 + (770 * σ 1 + (11 * σ 2 + 0))) := (hP _ (List.mem_of_getElem? (i := 1) rfl)).2.1
  have p2 : ck_lk E 84 (100000 + (1000000 * σ 0 + (1 * σ 1 + 0))) = 0 + (1 * σ 4 + 0) := (hP _ (List.mem_of_getElem? (i := 2) rfl)).2.2
  have q2 : (0 : Int) ≤ 100000 + (1000000 * σ 0 + (1 * σ 1 + 0)) := (hP _ (List.mem_of_getElem? (i := 2) rfl)).2.1
  have key : (((0 : Int) ≤ 100000 + (1000000 * σ 0 + (1 * σ 1 + 0)) ∧ ck_lk E 91 (100000 + (1000000 * σ 0 + (1 * σ 1 + 0))) = 1 + 0) ∧ True) := by
    rw [k84 (r := σ 0) (t := σ 1) (by omega) (by omega) (by omega)] at p2
    refine ⟨⟨by omega, ?_⟩, trivial⟩
    rw [k91 (r := σ 0) (t := σ 1) (by omega) (by omega) (by omega), cb_t (show vf_from E (σ 0) (σ 1) from fun h => absurd h (by omega))]
    rfl
  obtain ⟨k0, -⟩ := key
  exact ⟨_, (List.mem_of_getElem? (i := 0) rfl), σ, ck_ag_rf, (fun _ h => absurd h List.not_mem_nil), (fun _ h => absurd h List.not_mem_nil), trivial, (List.forall_mem_cons.mpr ⟨⟨⟨ck_wb_ok rfl, ck_wb_ok rfl⟩, k0⟩, (fun _ h => absurd h List.not_mem_nil)⟩), (fun _ h => absurd h List.not_mem_nil)⟩
theorem ccK1 {l : Launch} {D : va_G} {kp : Nat → ClassId} : ck_con l D kp ck_NN ceK1 := ck_con_g rfl rpK1
theorem rpK2 : ck_gcon ceK2 := by
  intro σ E hgi hF hP hΦ
  have f0 : (0 : Int) ≤ 0 + (1 * σ 0 + 0) := hF _ (List.mem_of_getElem? (i := 0) rfl)
  have f1 : (0 : Int) ≤ 5 + ((-1) * σ 0 + 0) := hF _ (List.mem_of_getElem? (i := 1) rfl)
  have f2 : (0 : Int) ≤ 900 + (1 * σ 1 + 0) := hF _ (List.mem_of_getElem? (i := 2) rfl)
  have f3 : (0 : Int) ≤ 800000 + ((-1) * σ 1 + 0) := hF _ (List.mem_of_getElem? (i := 3) rfl)
  have f4 : (0 : Int) ≤ 0 + (1 * σ 2 + 0) := hF _ (List.mem_of_getElem? (i := 4) rfl)
  have f5 : (0 : Int) ≤ 6 + ((-1) * σ 2 + 0) := hF _ (List.mem_of_getElem? (i := 5) rfl)
  have f6 : (0 : Int) ≤ (-1) + (1 * σ 3 + 0) := hF _ (List.mem_of_getElem? (i := 6) rfl)
  have p0 : ck_lk E 65 (0 + 0) = 0 + (1 * σ 2 + 0) := (hP _ (List.mem_of_getElem? (i := 0) rfl)).2.2
  have q0 : (0 : Int) ≤ 0 + 0 := (hP _ (List.mem_of_getElem? (i := 0) rfl)).2.1
  have p1 : ck_lk E 90 (770001 + (77 * σ 0 + (770 * σ 1 + (11 * σ 2 + 0)))) = 0 + (1 * σ 3 + 0) := (hP _ (List.mem_of_getElem? (i := 1) rfl)).2.2
  have q1 : (0 : Int) ≤ 770001 + (77 * σ 0 + (770 * σ 1 + (11 * σ 2 + 0))) := (hP _ (List.mem_of_getElem? (i := 1) rfl)).2.1
  have p2 : ck_lk E 84 (100000 + (1000000 * σ 0 + (1 * σ 1 + 0))) = 0 + (1 * σ 4 + 0) := (hP _ (List.mem_of_getElem? (i := 2) rfl)).2.2
  have q2 : (0 : Int) ≤ 100000 + (1000000 * σ 0 + (1 * σ 1 + 0)) := (hP _ (List.mem_of_getElem? (i := 2) rfl)).2.1
  have key : (((0 : Int) ≤ 100000 + (1000000 * σ 0 + (1 * σ 1 + 0)) ∧ ck_lk E 91 (100000 + (1000000 * σ 0 + (1 * σ 1 + 0))) = 1 + 0) ∧ True) := by
    rw [kc (i := 0) (by decide) (by omega)] at p0
    rw [k90 (t := σ 1) (r := σ 0) (q := σ 2) (h := 1) (by omega) (by omega) (by omega) (by omega) (by omega) (by omega) (by omega)] at p1
    refine ⟨⟨by omega, ?_⟩, trivial⟩
    rw [k91 (r := σ 0) (t := σ 1) (by omega) (by omega) (by omega), cb_t]
    · rfl
    · intro _
      have e : vf_cd E (σ 1) (σ 0) (σ 2) 1 = vf_cq E (σ 1) (σ 0) (σ 2).toNat + 0 := rfl
      obtain ⟨q, h, a, b, c⟩ := vf_cq_pos (E := E) (t := σ 1) (r := σ 0) (σ 2).toNat (by omega)
      exact ⟨q, h, a, by unfold vf_rf; omega, c⟩
  obtain ⟨k0, -⟩ := key
  exact ⟨_, (List.mem_of_getElem? (i := 0) rfl), σ, ck_ag_rf, (fun _ h => absurd h List.not_mem_nil), (fun _ h => absurd h List.not_mem_nil), trivial, (List.forall_mem_cons.mpr ⟨⟨⟨ck_wb_ok rfl, ck_wb_ok rfl⟩, k0⟩, (fun _ h => absurd h List.not_mem_nil)⟩), (fun _ h => absurd h List.not_mem_nil)⟩
theorem ccK2 {l : Launch} {D : va_G} {kp : Nat → ClassId} : ck_con l D kp ck_NN ceK2 := ck_con_g rfl rpK2
theorem rpU0 : ck_gcon ceU0 := by
  intro σ E hgi hF hP hΦ
  have key : (((0 : Int) ≤ 0 + 0 ∧ ck_lk E 92 (0 + 0) = 1 + 0) ∧ True) := by
    refine ⟨⟨by decide, ?_⟩, trivial⟩
    rw [ck_lk_v (by decide)]
    refine (cb_t ?_).trans rfl
    intro t r h1 h2 h3 h4
    have h4 : 10 * t + r < 0 + 0 := h4
    omega
  obtain ⟨k0, -⟩ := key
  exact ⟨_, (List.mem_of_getElem? (i := 0) rfl), σ, ck_ag_rf, (fun _ h => absurd h List.not_mem_nil), (fun _ h => absurd h List.not_mem_nil), trivial, (List.forall_mem_cons.mpr ⟨⟨⟨ck_wb_ok rfl, ck_wb_ok rfl⟩, k0⟩, (fun _ h => absurd h List.not_mem_nil)⟩), (fun _ h => absurd h List.not_mem_nil)⟩
theorem ccU0 {l : Launch} {D : va_G} {kp : Nat → ClassId} : ck_con l D kp ck_NN ceU0 := ck_con_g rfl rpU0
theorem rpU1 : ck_gcon ceU1 := by
  intro σ E hgi hF hP hΦ
  have f0 : (0 : Int) ≤ 0 + (1 * σ 0 + 0) := hF _ (List.mem_of_getElem? (i := 0) rfl)
  have f1 : (0 : Int) ≤ 5 + ((-1) * σ 0 + 0) := hF _ (List.mem_of_getElem? (i := 1) rfl)
  have f2 : (0 : Int) ≤ 0 + (1 * σ 1 + 0) := hF _ (List.mem_of_getElem? (i := 2) rfl)
  have f3 : (0 : Int) ≤ 800000 + ((-1) * σ 1 + 0) := hF _ (List.mem_of_getElem? (i := 3) rfl)
  have f4 : (0 : Int) ≤ (-1) + (1 * σ 2 + 0) := hF _ (List.mem_of_getElem? (i := 4) rfl)
  have f5 : (0 : Int) ≤ (-1) + (1 * σ 3 + 0) := hF _ (List.mem_of_getElem? (i := 5) rfl)
  have p0 : ck_lk E 92 (0 + (1 * σ 0 + (10 * σ 1 + 0))) = 0 + (1 * σ 2 + 0) := (hP _ (List.mem_of_getElem? (i := 0) rfl)).2.2
  have q0 : (0 : Int) ≤ 0 + (1 * σ 0 + (10 * σ 1 + 0)) := (hP _ (List.mem_of_getElem? (i := 0) rfl)).2.1
  have p1 : ck_lk E 91 (100000 + (1000000 * σ 0 + (1 * σ 1 + 0))) = 0 + (1 * σ 3 + 0) := (hP _ (List.mem_of_getElem? (i := 1) rfl)).2.2
  have q1 : (0 : Int) ≤ 100000 + (1000000 * σ 0 + (1 * σ 1 + 0)) := (hP _ (List.mem_of_getElem? (i := 1) rfl)).2.1
  have key : (((0 : Int) ≤ 1 + (1 * σ 0 + (10 * σ 1 + 0)) ∧ ck_lk E 92 (1 + (1 * σ 0 + (10 * σ 1 + 0))) = 1 + 0) ∧ True) := by
    rw [ck_lk_v (by decide)] at p0
    have hu := cb_ge p0 (by omega)
    rw [k91 (r := σ 0) (t := σ 1) (by omega) (by omega) (by omega)] at p1
    have hf := cb_ge p1 (by omega)
    have hb := vf_rfb hgi
    refine ⟨⟨by omega, ?_⟩, trivial⟩
    rw [ck_lk_v (by decide)]
    refine (cb_t ?_).trans rfl
    intro t r h1 h2 h3 h4
    by_cases h5 : 10 * t + r < 0 + (1 * σ 0 + (10 * σ 1 + 0))
    · exact hu t r h1 h2 h3 h5
    · have h4 : 10 * t + r < 1 + (1 * σ 0 + (10 * σ 1 + 0)) := h4
      have e1 : t = σ 1 := by omega
      have e2 : r = σ 0 := by omega
      rw [e1, e2]; exact hf
  obtain ⟨k0, -⟩ := key
  exact ⟨_, (List.mem_of_getElem? (i := 0) rfl), σ, ck_ag_rf, (fun _ h => absurd h List.not_mem_nil), (fun _ h => absurd h List.not_mem_nil), trivial, (List.forall_mem_cons.mpr ⟨⟨⟨ck_wb_ok rfl, ck_wb_ok rfl⟩, k0⟩, (fun _ h => absurd h List.not_mem_nil)⟩), (fun _ h => absurd h List.not_mem_nil)⟩
theorem ccU1 {l : Launch} {D : va_G} {kp : Nat → ClassId} : ck_con l D kp ck_NN ceU1 := ck_con_g rfl rpU1
theorem rpU2 : ck_gcon ceU2 := by
  intro σ E hgi hF hP hΦ
  have f0 : (0 : Int) ≤ 0 + (1 * σ 0 + 0) := hF _ (List.mem_of_getElem? (i := 0) rfl)
  have f1 : (0 : Int) ≤ 0 + (1 * σ 1 + 0) := hF _ (List.mem_of_getElem? (i := 1) rfl)
  have f2 : (0 : Int) ≤ 6 + ((-1) * σ 1 + 0) := hF _ (List.mem_of_getElem? (i := 2) rfl)
  have f3 : (0 : Int) ≤ (-1) + (1 * σ 2 + 0) := hF _ (List.mem_of_getElem? (i := 3) rfl)
  have p0 : ck_lk E 65 (0 + 0) = 0 + (1 * σ 1 + 0) := (hP _ (List.mem_of_getElem? (i := 0) rfl)).2.2
  have q0 : (0 : Int) ≤ 0 + 0 := (hP _ (List.mem_of_getElem? (i := 0) rfl)).2.1
  have p1 : ck_lk E 92 (0 + (10 * σ 0 + (1 * σ 1 + 0))) = 0 + (1 * σ 2 + 0) := (hP _ (List.mem_of_getElem? (i := 1) rfl)).2.2
  have q1 : (0 : Int) ≤ 0 + (10 * σ 0 + (1 * σ 1 + 0)) := (hP _ (List.mem_of_getElem? (i := 1) rfl)).2.1
  have key : (((0 : Int) ≤ 10 + (10 * σ 0 + 0) ∧ ck_lk E 92 (10 + (10 * σ 0 + 0)) = 1 + 0) ∧ True) := by
    rw [kc (i := 0) (by decide) (by omega)] at p0
    rw [ck_lk_v (by decide)] at p1
    have hu := cb_ge p1 (by omega)
    have hb := vf_rfb hgi
    refine ⟨⟨by omega, ?_⟩, trivial⟩
    rw [ck_lk_v (by decide)]
    refine (cb_t ?_).trans rfl
    intro t r h1 h2 h3 h4
    have h4 : 10 * t + r < 10 + (10 * σ 0 + 0) := h4
    refine hu t r h1 h2 h3 ?_
    show 10 * t + r < 0 + (10 * σ 0 + (1 * σ 1 + 0))
    unfold vf_rf at h3
    omega
  obtain ⟨k0, -⟩ := key
  exact ⟨_, (List.mem_of_getElem? (i := 0) rfl), σ, ck_ag_rf, (fun _ h => absurd h List.not_mem_nil), (fun _ h => absurd h List.not_mem_nil), trivial, (List.forall_mem_cons.mpr ⟨⟨⟨ck_wb_ok rfl, ck_wb_ok rfl⟩, k0⟩, (fun _ h => absurd h List.not_mem_nil)⟩), (fun _ h => absurd h List.not_mem_nil)⟩
theorem ccU2 {l : Launch} {D : va_G} {kp : Nat → ClassId} : ck_con l D kp ck_NN ceU2 := ck_con_g rfl rpU2
theorem rpU3 : ck_gcon ceU3 := by
  intro σ E hgi hF hP hΦ
  have f0 : (0 : Int) ≤ 0 + (1 * σ 1 + 0) := hF _ (List.mem_of_getElem? (i := 0) rfl)
  have f1 : (0 : Int) ≤ 6 + ((-1) * σ 1 + 0) := hF _ (List.mem_of_getElem? (i := 1) rfl)
  have f2 : (0 : Int) ≤ 0 + (1 * σ 0 + ((-1) * σ 2 + 0)) := hF _ (List.mem_of_getElem? (i := 2) rfl)
  have f3 : (0 : Int) ≤ (-1) + (1 * σ 2 + 0) := hF _ (List.mem_of_getElem? (i := 3) rfl)
  have f4 : (0 : Int) ≤ (-1) + (1 * σ 3 + 0) := hF _ (List.mem_of_getElem? (i := 4) rfl)
  have p0 : ck_lk E 65 (0 + 0) = 0 + (1 * σ 1 + 0) := (hP _ (List.mem_of_getElem? (i := 0) rfl)).2.2
  have q0 : (0 : Int) ≤ 0 + 0 := (hP _ (List.mem_of_getElem? (i := 0) rfl)).2.1
  have p1 : ck_lk E 87 (0 + 0) = 0 + (1 * σ 2 + 0) := (hP _ (List.mem_of_getElem? (i := 1) rfl)).2.2
  have q1 : (0 : Int) ≤ 0 + 0 := (hP _ (List.mem_of_getElem? (i := 1) rfl)).2.1
  have p2 : ck_lk E 92 (0 + (10 * σ 0 + 0)) = 0 + (1 * σ 3 + 0) := (hP _ (List.mem_of_getElem? (i := 2) rfl)).2.2
  have q2 : (0 : Int) ≤ 0 + (10 * σ 0 + 0) := (hP _ (List.mem_of_getElem? (i := 2) rfl)).2.1
  have key : (((0 : Int) ≤ 0 + 0 ∧ ck_lk E 93 (0 + 0) = 1 + 0) ∧ True) := by
    rw [kc (i := 0) (by decide) (by omega)] at p0
    rw [k87] at p1
    rw [ck_lk_v (by decide)] at p2
    have hu := cb_ge p2 (by omega)
    have hb := vf_rfb hgi
    refine ⟨⟨by decide, ?_⟩, trivial⟩
    rw [ck_lk_v (by decide)]
    refine (cb_t ?_).trans rfl
    intro t r h1 h2
    have hA : (vf_lc E (vf_rf E).toNat : Int) = σ 2 := by omega
    have m1 := Int.emod_nonneg t (show σ 2 ≠ 0 by omega)
    have m2 := Int.emod_lt_of_pos t (show 0 < σ 2 by omega)
    have m3 := Int.emod_add_mul_ediv t (σ 2)
    have hf := hu (t % σ 2) r m1 h1 h2 (by show 10 * (t % σ 2) + r < 0 + (10 * σ 0 + 0); omega)
    intro h9
    have d1 : ck_loc (E 67) r ∣ σ 2 := by rw [← hA]; exact vf_pd hgi h1 h2
    have h9 : 1 ≤ vf_h E r (t % σ 2) := by
      rw [← m3, vf_hp d1] at h9
      exact h9
    obtain ⟨q, h, a1, a2, a3, a4, a5, a6⟩ := hf h9
    have d2 : ck_loc (E 67) q ∣ σ 2 := by rw [← hA]; exact vf_pd hgi a1 a2
    refine ⟨q, h, a1, a2, a3, a4, ?_, ?_⟩
    · rw [show t - h = (t % σ 2 - h) + σ 2 * (t / σ 2) by omega, vf_hp d2]; exact a5
    · rw [show t - h = (t % σ 2 - h) + σ 2 * (t / σ 2) by omega, vf_gp d2]; exact a6
  obtain ⟨k0, -⟩ := key
  exact ⟨_, (List.mem_of_getElem? (i := 0) rfl), σ, ck_ag_rf, (fun _ h => absurd h List.not_mem_nil), (fun _ h => absurd h List.not_mem_nil), trivial, (List.forall_mem_cons.mpr ⟨⟨⟨ck_wb_ok rfl, ck_wb_ok rfl⟩, k0⟩, (fun _ h => absurd h List.not_mem_nil)⟩), (fun _ h => absurd h List.not_mem_nil)⟩
theorem ccU3 {l : Launch} {D : va_G} {kp : Nat → ClassId} : ck_con l D kp ck_NN ceU3 := ck_con_g rfl rpU3
theorem rpO4 : ck_gcon ceO4 := by
  intro σ E hgi hF hP hΦ
  have f0 : (0 : Int) ≤ 0 + (1 * σ 0 + 0) := hF _ (List.mem_of_getElem? (i := 0) rfl)
  have f1 : (0 : Int) ≤ 5 + ((-1) * σ 0 + 0) := hF _ (List.mem_of_getElem? (i := 1) rfl)
  have f2 : (0 : Int) ≤ 1000 + (1 * σ 1 + 0) := hF _ (List.mem_of_getElem? (i := 2) rfl)
  have f3 : (0 : Int) ≤ 200000 + ((-1) * σ 1 + 0) := hF _ (List.mem_of_getElem? (i := 3) rfl)
  have f4 : (0 : Int) ≤ 0 + (1 * σ 2 + 0) := hF _ (List.mem_of_getElem? (i := 4) rfl)
  have f5 : (0 : Int) ≤ 6 + ((-1) * σ 2 + 0) := hF _ (List.mem_of_getElem? (i := 5) rfl)
  have f6 : (0 : Int) ≤ (-1) + ((-1) * σ 0 + (1 * σ 2 + 0)) := hF _ (List.mem_of_getElem? (i := 6) rfl)
  have f7 : (0 : Int) ≤ (-1) + (1 * σ 3 + 0) := hF _ (List.mem_of_getElem? (i := 7) rfl)
  have f8 : (0 : Int) ≤ (-1) + (1 * σ 4 + 0) := hF _ (List.mem_of_getElem? (i := 8) rfl)
  have f9 : (0 : Int) ≤ 840 + ((-1) * σ 4 + 0) := hF _ (List.mem_of_getElem? (i := 9) rfl)
  have f10 : (0 : Int) ≤ (-1) + (1 * σ 5 + 0) := hF _ (List.mem_of_getElem? (i := 10) rfl)
  have p0 : ck_lk E 65 (0 + 0) = 0 + (1 * σ 2 + 0) := (hP _ (List.mem_of_getElem? (i := 0) rfl)).2.2
  have q0 : (0 : Int) ≤ 0 + 0 := (hP _ (List.mem_of_getElem? (i := 0) rfl)).2.1
  have p1 : ck_lk E 93 (0 + 0) = 0 + (1 * σ 3 + 0) := (hP _ (List.mem_of_getElem? (i := 1) rfl)).2.2
  have q1 : (0 : Int) ≤ 0 + 0 := (hP _ (List.mem_of_getElem? (i := 1) rfl)).2.1
  have p2 : ck_lk E 87 (0 + 0) = 0 + (1 * σ 4 + 0) := (hP _ (List.mem_of_getElem? (i := 2) rfl)).2.2
  have q2 : (0 : Int) ≤ 0 + 0 := (hP _ (List.mem_of_getElem? (i := 2) rfl)).2.1
  have p3 : ck_lk E 84 (100000 + (1000000 * σ 0 + (1 * σ 1 + 0))) = 0 + (1 * σ 5 + 0) := (hP _ (List.mem_of_getElem? (i := 3) rfl)).2.2
  have q3 : (0 : Int) ≤ 100000 + (1000000 * σ 0 + (1 * σ 1 + 0)) := (hP _ (List.mem_of_getElem? (i := 3) rfl)).2.1
  have key : (((0 : Int) ≤ 100000 + (1000000 * σ 0 + (1 * σ 1 + 0)) ∧ ck_lk E 95 (100000 + (1000000 * σ 0 + (1 * σ 1 + 0))) = 1 + 0) ∧ True) := by
    rw [kc (i := 0) (by decide) (by omega)] at p0
    rw [ck_lk_v (by decide)] at p1
    have hu := cb_ge p1 (by omega)
    rw [k87] at p2
    rw [k84 (r := σ 0) (t := σ 1) (by omega) (by omega) (by omega)] at p3
    obtain ⟨a, -⟩ := vf_orb hgi (r := σ 0) (t := σ 1) (A := σ 4) (by omega) (by unfold vf_rf; omega) hu (by omega) (by omega) (by omega) (by omega)
    refine ⟨⟨by omega, ?_⟩, trivial⟩
    rw [k95 (r := σ 0) (t := σ 1) (by omega) (by omega) (by omega), cb_t a]
    rfl
  obtain ⟨k0, -⟩ := key
  exact ⟨_, (List.mem_of_getElem? (i := 0) rfl), σ, ck_ag_rf, (fun _ h => absurd h List.not_mem_nil), (fun _ h => absurd h List.not_mem_nil), trivial, (List.forall_mem_cons.mpr ⟨⟨⟨ck_wb_ok rfl, ck_wb_ok rfl⟩, k0⟩, (fun _ h => absurd h List.not_mem_nil)⟩), (fun _ h => absurd h List.not_mem_nil)⟩
theorem ccO4 {l : Launch} {D : va_G} {kp : Nat → ClassId} : ck_con l D kp ck_NN ceO4 := ck_con_g rfl rpO4
theorem rpO1 : ck_gcon ceO1 := by
  intro σ E hgi hF hP hΦ
  have f0 : (0 : Int) ≤ 0 + (1 * σ 0 + 0) := hF _ (List.mem_of_getElem? (i := 0) rfl)
  have f1 : (0 : Int) ≤ 5 + ((-1) * σ 0 + 0) := hF _ (List.mem_of_getElem? (i := 1) rfl)
  have f2 : (0 : Int) ≤ 1000 + (1 * σ 1 + 0) := hF _ (List.mem_of_getElem? (i := 2) rfl)
  have f3 : (0 : Int) ≤ 200000 + ((-1) * σ 1 + 0) := hF _ (List.mem_of_getElem? (i := 3) rfl)
  have f4 : (0 : Int) ≤ 0 + (1 * σ 2 + 0) := hF _ (List.mem_of_getElem? (i := 4) rfl)
  have f5 : (0 : Int) ≤ 6 + ((-1) * σ 2 + 0) := hF _ (List.mem_of_getElem? (i := 5) rfl)
  have f6 : (0 : Int) ≤ (-1) + ((-1) * σ 0 + (1 * σ 2 + 0)) := hF _ (List.mem_of_getElem? (i := 6) rfl)
  have f7 : (0 : Int) ≤ (-1) + (1 * σ 3 + 0) := hF _ (List.mem_of_getElem? (i := 7) rfl)
  have f8 : (0 : Int) ≤ (-1) + (1 * σ 4 + 0) := hF _ (List.mem_of_getElem? (i := 8) rfl)
  have f9 : (0 : Int) ≤ 840 + ((-1) * σ 4 + 0) := hF _ (List.mem_of_getElem? (i := 9) rfl)
  have f10 : (0 : Int) ≤ (-1) + (1 * σ 5 + 0) := hF _ (List.mem_of_getElem? (i := 10) rfl)
  have p0 : ck_lk E 65 (0 + 0) = 0 + (1 * σ 2 + 0) := (hP _ (List.mem_of_getElem? (i := 0) rfl)).2.2
  have q0 : (0 : Int) ≤ 0 + 0 := (hP _ (List.mem_of_getElem? (i := 0) rfl)).2.1
  have p1 : ck_lk E 93 (0 + 0) = 0 + (1 * σ 3 + 0) := (hP _ (List.mem_of_getElem? (i := 1) rfl)).2.2
  have q1 : (0 : Int) ≤ 0 + 0 := (hP _ (List.mem_of_getElem? (i := 1) rfl)).2.1
  have p2 : ck_lk E 87 (0 + 0) = 0 + (1 * σ 4 + 0) := (hP _ (List.mem_of_getElem? (i := 2) rfl)).2.2
  have q2 : (0 : Int) ≤ 0 + 0 := (hP _ (List.mem_of_getElem? (i := 2) rfl)).2.1
  have p3 : ck_lk E 84 (100000 + (1000000 * σ 0 + (1 * σ 1 + 0))) = 0 + (1 * σ 5 + 0) := (hP _ (List.mem_of_getElem? (i := 3) rfl)).2.2
  have q3 : (0 : Int) ≤ 100000 + (1000000 * σ 0 + (1 * σ 1 + 0)) := (hP _ (List.mem_of_getElem? (i := 3) rfl)).2.1
  have key : (∃ v0 : Int, (0 : Int) ≤ (-1) + (1 * v0 + 0) ∧ (0 : Int) ≤ 5040 + ((-1) * v0 + 0) ∧ ((0 : Int) ≤ 100000100000 + (7000000000000 * σ 0 + (1000001 * σ 1 + 0)) ∧ ck_lk E 94 (100000100000 + (7000000000000 * σ 0 + (1000001 * σ 1 + 0))) = 0 + (1 * v0 + 0)) ∧ True) := by
    rw [kc (i := 0) (by decide) (by omega)] at p0
    rw [ck_lk_v (by decide)] at p1
    have hu := cb_ge p1 (by omega)
    rw [k87] at p2
    rw [k84 (r := σ 0) (t := σ 1) (by omega) (by omega) (by omega)] at p3
    obtain ⟨-, n, n1, n2, n3, n4⟩ := vf_orb hgi (r := σ 0) (t := σ 1) (A := σ 4) (by omega) (by unfold vf_rf; omega) hu (by omega) (by omega) (by omega) (by omega)
    have e := vf_lst_ex (Q := fun j => (vf_it E j (σ 0, σ 1)).1 = σ 0 ∧ (vf_lc E (vf_rf E).toNat : Int) ∣ ((vf_it E j (σ 0, σ 1)).2 - σ 1)) (n := n) 6000 1 (Nat.le_refl _) n1 (by omega) ⟨n3, by rw [show (vf_lc E (vf_rf E).toNat : Int) = σ 4 by omega]; exact n4⟩
    refine ⟨(vf_lst (fun j => (vf_it E j (σ 0, σ 1)).1 = σ 0 ∧ (vf_lc E (vf_rf E).toNat : Int) ∣ ((vf_it E j (σ 0, σ 1)).2 - σ 1)) 6000 1 : Int), by omega, by omega, ⟨by omega, ?_⟩, trivial⟩
    rw [k94 (r0 := σ 0) (t0 := σ 1) (r := σ 0) (t := σ 1) (by omega) (by omega) (by omega) (by omega) (by omega) (by omega) (by omega)]
    omega
  obtain ⟨v0, k0, k1, k2, -⟩ := key
  exact ⟨_, (List.mem_of_getElem? (i := 0) rfl), (fun i => if i = 6 then v0 else σ i), (fun i hi => by show (if i = 6 then v0 else σ i) = σ i; rw [if_neg (show ¬ i = 6 by have : i < 6 := hi; omega)]), (List.forall_mem_cons.mpr ⟨k0, (List.forall_mem_cons.mpr ⟨k1, (fun _ h => absurd h List.not_mem_nil)⟩)⟩), (fun f hf => ck_wb_ok (List.all_eq_true.mp (show List.all _ (ck_wb 7) = true from rfl) f hf)), trivial, (List.forall_mem_cons.mpr ⟨⟨⟨ck_wb_ok rfl, ck_wb_ok rfl⟩, k2⟩, (fun _ h => absurd h List.not_mem_nil)⟩), (fun _ h => absurd h List.not_mem_nil)⟩
theorem ccO1 {l : Launch} {D : va_G} {kp : Nat → ClassId} : ck_con l D kp ck_NN ceO1 := ck_con_g rfl rpO1
theorem rpO5 : ck_gcon ceO5 := by
  intro σ E hgi hF hP hΦ
  have f0 : (0 : Int) ≤ 0 + (1 * σ 0 + 0) := hF _ (List.mem_of_getElem? (i := 0) rfl)
  have f1 : (0 : Int) ≤ 5 + ((-1) * σ 0 + 0) := hF _ (List.mem_of_getElem? (i := 1) rfl)
  have f2 : (0 : Int) ≤ 1000 + (1 * σ 1 + 0) := hF _ (List.mem_of_getElem? (i := 2) rfl)
  have f3 : (0 : Int) ≤ 890000 + ((-1) * σ 1 + 0) := hF _ (List.mem_of_getElem? (i := 3) rfl)
  have f4 : (0 : Int) ≤ (-1) + (1 * σ 2 + 0) := hF _ (List.mem_of_getElem? (i := 4) rfl)
  have p0 : ck_lk E 95 (100000 + (1000000 * σ 0 + (1 * σ 1 + 0))) = 0 + (1 * σ 2 + 0) := (hP _ (List.mem_of_getElem? (i := 0) rfl)).2.2
  have q0 : (0 : Int) ≤ 100000 + (1000000 * σ 0 + (1 * σ 1 + 0)) := (hP _ (List.mem_of_getElem? (i := 0) rfl)).2.1
  have key : (∃ v0 v1 : Int, (0 : Int) ≤ (-1) + (1 * v0 + 0) ∧ (0 : Int) ≤ 9 + ((-1) * v0 + 0) ∧ (0 : Int) ≤ 0 + (1 * v1 + 0) ∧ (0 : Int) ≤ 5 + ((-1) * v1 + 0) ∧ ((0 : Int) ≤ 100000 + (1000000 * σ 0 + (1 * σ 1 + 0)) ∧ ck_lk E 84 (100000 + (1000000 * σ 0 + (1 * σ 1 + 0))) = 0 + (1 * v0 + 0)) ∧ ((0 : Int) ≤ 100000 + (1000000 * σ 0 + (1 * σ 1 + 0)) ∧ ck_lk E 85 (100000 + (1000000 * σ 0 + (1 * σ 1 + 0))) = 0 + (1 * v1 + 0)) ∧ True) := by
    rw [k95 (r := σ 0) (t := σ 1) (by omega) (by omega) (by omega)] at p0
    have h := cb_ge p0 (by omega) 0
    have h1 : 1 ≤ vf_h E (σ 0) (σ 1) := h.1
    have h2 : 1 ≤ ck_loc (E 67) (σ 0) := h.2
    have b1 := vf_hb hgi (r := σ 0) (t := σ 1) (by omega) (by omega) h2
    have b2 := vf_gb hgi (r := σ 0) (t := σ 1) (by omega) (by omega) h2
    refine ⟨vf_h E (σ 0) (σ 1), vf_g E (σ 0) (σ 1), by omega, by omega, by omega, by omega, ⟨by omega, ?_⟩, ⟨by omega, ?_⟩, trivial⟩
    · rw [k84 (r := σ 0) (t := σ 1) (by omega) (by omega) (by omega)]; omega
    · rw [k85 (r := σ 0) (t := σ 1) (by omega) (by omega) (by omega)]; omega
  obtain ⟨v0, v1, k0, k1, k2, k3, k4, k5, -⟩ := key
  exact ⟨_, (List.mem_of_getElem? (i := 0) rfl), (fun i => if i = 3 then v0 else if i = 4 then v1 else σ i), (fun i hi => by show (if i = 3 then v0 else if i = 4 then v1 else σ i) = σ i; rw [if_neg (show ¬ i = 3 by have : i < 3 := hi; omega), if_neg (show ¬ i = 4 by have : i < 3 := hi; omega)]), (List.forall_mem_cons.mpr ⟨k0, (List.forall_mem_cons.mpr ⟨k1, (List.forall_mem_cons.mpr ⟨k2, (List.forall_mem_cons.mpr ⟨k3, (fun _ h => absurd h List.not_mem_nil)⟩)⟩)⟩)⟩), (fun f hf => ck_wb_ok (List.all_eq_true.mp (show List.all _ (ck_wb 5) = true from rfl) f hf)), trivial, (List.forall_mem_cons.mpr ⟨⟨⟨ck_wb_ok rfl, ck_wb_ok rfl⟩, k4⟩, (List.forall_mem_cons.mpr ⟨⟨⟨ck_wb_ok rfl, ck_wb_ok rfl⟩, k5⟩, (fun _ h => absurd h List.not_mem_nil)⟩)⟩), (fun _ h => absurd h List.not_mem_nil)⟩
theorem ccO5 {l : Launch} {D : va_G} {kp : Nat → ClassId} : ck_con l D kp ck_NN ceO5 := ck_con_g rfl rpO5
theorem rpO6 : ck_gcon ceO6 := by
  intro σ E hgi hF hP hΦ
  have f0 : (0 : Int) ≤ 0 + (1 * σ 0 + 0) := hF _ (List.mem_of_getElem? (i := 0) rfl)
  have f1 : (0 : Int) ≤ 5 + ((-1) * σ 0 + 0) := hF _ (List.mem_of_getElem? (i := 1) rfl)
  have f2 : (0 : Int) ≤ 1000 + (1 * σ 1 + 0) := hF _ (List.mem_of_getElem? (i := 2) rfl)
  have f3 : (0 : Int) ≤ 800000 + ((-1) * σ 1 + 0) := hF _ (List.mem_of_getElem? (i := 3) rfl)
  have f4 : (0 : Int) ≤ (-1) + (1 * σ 2 + 0) := hF _ (List.mem_of_getElem? (i := 4) rfl)
  have f5 : (0 : Int) ≤ 0 + (1 * σ 3 + 0) := hF _ (List.mem_of_getElem? (i := 5) rfl)
  have f6 : (0 : Int) ≤ 9 + ((-1) * σ 3 + 0) := hF _ (List.mem_of_getElem? (i := 6) rfl)
  have f7 : (0 : Int) ≤ 0 + (1 * σ 4 + 0) := hF _ (List.mem_of_getElem? (i := 7) rfl)
  have f8 : (0 : Int) ≤ 5 + ((-1) * σ 4 + 0) := hF _ (List.mem_of_getElem? (i := 8) rfl)
  have p0 : ck_lk E 95 (100000 + (1000000 * σ 0 + (1 * σ 1 + 0))) = 0 + (1 * σ 2 + 0) := (hP _ (List.mem_of_getElem? (i := 0) rfl)).2.2
  have q0 : (0 : Int) ≤ 100000 + (1000000 * σ 0 + (1 * σ 1 + 0)) := (hP _ (List.mem_of_getElem? (i := 0) rfl)).2.1
  have p1 : ck_lk E 84 (100000 + (1000000 * σ 0 + (1 * σ 1 + 0))) = 0 + (1 * σ 3 + 0) := (hP _ (List.mem_of_getElem? (i := 1) rfl)).2.2
  have q1 : (0 : Int) ≤ 100000 + (1000000 * σ 0 + (1 * σ 1 + 0)) := (hP _ (List.mem_of_getElem? (i := 1) rfl)).2.1
  have p2 : ck_lk E 85 (100000 + (1000000 * σ 0 + (1 * σ 1 + 0))) = 0 + (1 * σ 4 + 0) := (hP _ (List.mem_of_getElem? (i := 2) rfl)).2.2
  have q2 : (0 : Int) ≤ 100000 + (1000000 * σ 0 + (1 * σ 1 + 0)) := (hP _ (List.mem_of_getElem? (i := 2) rfl)).2.1
  have key : (((0 : Int) ≤ 100000 + (1 * σ 1 + (1 * σ 3 + (1000000 * σ 4 + 0))) ∧ ck_lk E 95 (100000 + (1 * σ 1 + (1 * σ 3 + (1000000 * σ 4 + 0)))) = 1 + 0) ∧ True) := by
    rw [k95 (r := σ 0) (t := σ 1) (by omega) (by omega) (by omega)] at p0
    have h := cb_ge p0 (by omega)
    rw [k84 (r := σ 0) (t := σ 1) (by omega) (by omega) (by omega)] at p1
    rw [k85 (r := σ 0) (t := σ 1) (by omega) (by omega) (by omega)] at p2
    have e : vf_st E (σ 0, σ 1) = (σ 4, σ 1 + σ 3) := by
      show (vf_g E (σ 0) (σ 1), σ 1 + vf_h E (σ 0) (σ 1)) = _
      rw [p1, p2, show 0 + (1 * σ 4 + 0) = σ 4 by omega, show 0 + (1 * σ 3 + 0) = σ 3 by omega]
    refine ⟨⟨by omega, ?_⟩, trivial⟩
    rw [k95 (r := σ 4) (t := σ 1 + σ 3) (by omega) (by omega) (by omega), cb_t]
    · rfl
    · intro j
      have h9 := h (j + 1)
      have e9 : vf_it E (j + 1) (σ 0, σ 1) = vf_it E j (σ 4, σ 1 + σ 3) := by
        show vf_it E j (vf_st E (σ 0, σ 1)) = _
        rw [e]
      rw [e9] at h9
      exact h9
  obtain ⟨k0, -⟩ := key
  exact ⟨_, (List.mem_of_getElem? (i := 0) rfl), σ, ck_ag_rf, (fun _ h => absurd h List.not_mem_nil), (fun _ h => absurd h List.not_mem_nil), trivial, (List.forall_mem_cons.mpr ⟨⟨⟨ck_wb_ok rfl, ck_wb_ok rfl⟩, k0⟩, (fun _ h => absurd h List.not_mem_nil)⟩), (fun _ h => absurd h List.not_mem_nil)⟩
theorem ccO6 {l : Launch} {D : va_G} {kp : Nat → ClassId} : ck_con l D kp ck_NN ceO6 := ck_con_g rfl rpO6
theorem rpO3 : ck_gcon ceO3 := by
  intro σ E hgi hF hP hΦ
  have f0 : (0 : Int) ≤ 0 + (1 * σ 0 + 0) := hF _ (List.mem_of_getElem? (i := 0) rfl)
  have f1 : (0 : Int) ≤ 5 + ((-1) * σ 0 + 0) := hF _ (List.mem_of_getElem? (i := 1) rfl)
  have f2 : (0 : Int) ≤ 1000 + (1 * σ 1 + 0) := hF _ (List.mem_of_getElem? (i := 2) rfl)
  have f3 : (0 : Int) ≤ 200000 + ((-1) * σ 1 + 0) := hF _ (List.mem_of_getElem? (i := 3) rfl)
  have f4 : (0 : Int) ≤ 0 + (1 * σ 2 + 0) := hF _ (List.mem_of_getElem? (i := 4) rfl)
  have f5 : (0 : Int) ≤ 5 + ((-1) * σ 2 + 0) := hF _ (List.mem_of_getElem? (i := 5) rfl)
  have f6 : (0 : Int) ≤ 1000 + (1 * σ 3 + 0) := hF _ (List.mem_of_getElem? (i := 6) rfl)
  have f7 : (0 : Int) ≤ 800000 + ((-1) * σ 3 + 0) := hF _ (List.mem_of_getElem? (i := 7) rfl)
  have f8 : (0 : Int) ≤ (-1) + (1 * σ 4 + 0) := hF _ (List.mem_of_getElem? (i := 8) rfl)
  have f9 : (0 : Int) ≤ 0 + (1 * σ 5 + 0) := hF _ (List.mem_of_getElem? (i := 9) rfl)
  have f10 : (0 : Int) ≤ 9 + ((-1) * σ 5 + 0) := hF _ (List.mem_of_getElem? (i := 10) rfl)
  have f11 : (0 : Int) ≤ 0 + (1 * σ 6 + 0) := hF _ (List.mem_of_getElem? (i := 11) rfl)
  have f12 : (0 : Int) ≤ 5 + ((-1) * σ 6 + 0) := hF _ (List.mem_of_getElem? (i := 12) rfl)
  have f13 : (0 : Int) ≤ (-1) + (1 * σ 7 + 0) := hF _ (List.mem_of_getElem? (i := 13) rfl)
  have f14 : (0 : Int) ≤ 840 + ((-1) * σ 7 + 0) := hF _ (List.mem_of_getElem? (i := 14) rfl)
  have p0 : ck_lk E 94 (100000100000 + (6000000000000 * σ 0 + (1 * σ 1 + (1000000000000 * σ 2 + (1000000 * σ 3 + 0))))) = 0 + (1 * σ 4 + 0) := (hP _ (List.mem_of_getElem? (i := 0) rfl)).2.2
  have q0 : (0 : Int) ≤ 100000100000 + (6000000000000 * σ 0 + (1 * σ 1 + (1000000000000 * σ 2 + (1000000 * σ 3 + 0)))) := (hP _ (List.mem_of_getElem? (i := 0) rfl)).2.1
  have p1 : ck_lk E 84 (100000 + (1000000 * σ 2 + (1 * σ 3 + 0))) = 0 + (1 * σ 5 + 0) := (hP _ (List.mem_of_getElem? (i := 1) rfl)).2.2
  have q1 : (0 : Int) ≤ 100000 + (1000000 * σ 2 + (1 * σ 3 + 0)) := (hP _ (List.mem_of_getElem? (i := 1) rfl)).2.1
  have p2 : ck_lk E 85 (100000 + (1000000 * σ 2 + (1 * σ 3 + 0))) = 0 + (1 * σ 6 + 0) := (hP _ (List.mem_of_getElem? (i := 2) rfl)).2.2
  have q2 : (0 : Int) ≤ 100000 + (1000000 * σ 2 + (1 * σ 3 + 0)) := (hP _ (List.mem_of_getElem? (i := 2) rfl)).2.1
  have p3 : ck_lk E 87 (0 + 0) = 0 + (1 * σ 7 + 0) := (hP _ (List.mem_of_getElem? (i := 3) rfl)).2.2
  have q3 : (0 : Int) ≤ 0 + 0 := (hP _ (List.mem_of_getElem? (i := 3) rfl)).2.1
  have key : ((0 : Int) ≤ (-2) + (1 * σ 4 + 0) ∧ ((0 : Int) ≤ 100000100000 + (6000000000000 * σ 0 + (1 * σ 1 + (1000000 * σ 3 + (1000000 * σ 5 + (1000000000000 * σ 6 + 0))))) ∧ ck_lk E 94 (100000100000 + (6000000000000 * σ 0 + (1 * σ 1 + (1000000 * σ 3 + (1000000 * σ 5 + (1000000000000 * σ 6 + 0)))))) = (-1) + (1 * σ 4 + 0)) ∧ True) ∨ ((0 : Int) ≤ 1 + ((-1) * σ 4 + 0) ∧ (0 : Int) ≤ 0 + ((-1) * σ 0 + (1 * σ 6 + 0)) ∧ (0 : Int) ≤ 0 + (1 * σ 0 + ((-1) * σ 6 + 0)) ∧ ((0 : Int) ≤ 9223372036854775808 + ((-4294967296) * σ 1 + (4294967296 * σ 3 + (4294967296 * σ 5 + (1 * σ 7 + 0)))) ∧ ck_lk E 201 (9223372036854775808 + ((-4294967296) * σ 1 + (4294967296 * σ 3 + (4294967296 * σ 5 + (1 * σ 7 + 0))))) = 0 + 0) ∧ True) := by
    rw [k94 (r0 := σ 0) (t0 := σ 1) (r := σ 2) (t := σ 3) (by omega) (by omega) (by omega) (by omega) (by omega) (by omega) (by omega)] at p0
    rw [k84 (r := σ 2) (t := σ 3) (by omega) (by omega) (by omega)] at p1
    rw [k85 (r := σ 2) (t := σ 3) (by omega) (by omega) (by omega)] at p2
    rw [k87] at p3
    have e : vf_st E (σ 2, σ 3) = (σ 6, σ 3 + σ 5) := by
      show (vf_g E (σ 2) (σ 3), σ 3 + vf_h E (σ 2) (σ 3)) = _
      rw [p1, p2, show 0 + (1 * σ 6 + 0) = σ 6 by omega, show 0 + (1 * σ 5 + 0) = σ 5 by omega]
    have e9 : ∀ j, vf_it E (j + 1) (σ 2, σ 3) = vf_it E j (σ 6, σ 3 + σ 5) := fun j => by
      show vf_it E j (vf_st E (σ 2, σ 3)) = _
      rw [e]
    obtain ⟨a, b, c, d⟩ := vf_lst_of (Q := fun j => (vf_it E j (σ 2, σ 3)).1 = σ 0 ∧ (vf_lc E (vf_rf E).toNat : Int) ∣ ((vf_it E j (σ 2, σ 3)).2 - σ 1)) 6000 1 (Nat.le_refl _) (by omega)
    generalize hR : vf_lst (fun j => (vf_it E j (σ 2, σ 3)).1 = σ 0 ∧ (vf_lc E (vf_rf E).toNat : Int) ∣ ((vf_it E j (σ 2, σ 3)).2 - σ 1)) 6000 1 = R at a b c d p0
    by_cases h2 : 2 ≤ R
    · refine Or.inl ⟨by omega, ⟨by omega, ?_⟩, trivial⟩
      rw [k94 (r0 := σ 0) (t0 := σ 1) (r := σ 6) (t := σ 3 + σ 5) (by omega) (by omega) (by omega) (by omega) (by omega) (by omega) (by omega)]
      rw [vf_lst_is (Q := fun j => (vf_it E j (σ 6, σ 3 + σ 5)).1 = σ 0 ∧ (vf_lc E (vf_rf E).toNat : Int) ∣ ((vf_it E j (σ 6, σ 3 + σ 5)).2 - σ 1)) 6000 1 (R - 1) (by omega) (by omega) ?_ ?_]
      · omega
      · have c : (vf_it E R (σ 2, σ 3)).1 = σ 0 ∧ (vf_lc E (vf_rf E).toNat : Int) ∣ ((vf_it E R (σ 2, σ 3)).2 - σ 1) := c
        rw [show R = (R - 1) + 1 by omega, e9] at c
        exact c
      · intro j j1 j2 hq
        have hq : (vf_it E j (σ 6, σ 3 + σ 5)).1 = σ 0 ∧ (vf_lc E (vf_rf E).toNat : Int) ∣ ((vf_it E j (σ 6, σ 3 + σ 5)).2 - σ 1) := hq
        rw [← e9] at hq
        exact d (j + 1) (by omega) (by omega) hq
    · have hR1 : R = 1 := by omega
      rw [hR1] at c
      have c : (vf_it E (0 + 1) (σ 2, σ 3)).1 = σ 0 ∧ (vf_lc E (vf_rf E).toNat : Int) ∣ ((vf_it E (0 + 1) (σ 2, σ 3)).2 - σ 1) := c
      rw [e9] at c
      have c1 : σ 6 = σ 0 := c.1
      have c2 : (vf_lc E (vf_rf E).toNat : Int) ∣ (σ 3 + σ 5 - σ 1) := c.2
      rw [show (vf_lc E (vf_rf E).toNat : Int) = σ 7 by omega] at c2
      refine Or.inr ⟨by omega, by omega, by omega, ⟨by omega, ?_⟩, trivial⟩
      rw [k201 (a := σ 3 + σ 5 - σ 1) (b := σ 7) (by omega) (by omega) (by omega), Int.tmod_eq_zero_of_dvd c2]
      rfl
  rcases key with key | key
  · obtain ⟨k0, k1, -⟩ := key
    exact ⟨_, (List.mem_of_getElem? (i := 0) rfl), σ, ck_ag_rf, (List.forall_mem_cons.mpr ⟨k0, (fun _ h => absurd h List.not_mem_nil)⟩), (fun f hf => ck_wb_ok (List.all_eq_true.mp (show List.all _ (ck_wb 8) = true from rfl) f hf)), trivial, (List.forall_mem_cons.mpr ⟨⟨⟨ck_wb_ok rfl, ck_wb_ok rfl⟩, k1⟩, (fun _ h => absurd h List.not_mem_nil)⟩), (fun _ h => absurd h List.not_mem_nil)⟩
  · obtain ⟨k0, k1, k2, k3, -⟩ := key
    exact ⟨_, (List.mem_of_getElem? (i := 1) rfl), σ, ck_ag_rf, (List.forall_mem_cons.mpr ⟨k0, (List.forall_mem_cons.mpr ⟨k1, (List.forall_mem_cons.mpr ⟨k2, (fun _ h => absurd h List.not_mem_nil)⟩)⟩)⟩), (fun f hf => ck_wb_ok (List.all_eq_true.mp (show List.all _ (ck_wb 8) = true from rfl) f hf)), trivial, (List.forall_mem_cons.mpr ⟨⟨⟨ck_wb_ok rfl, ck_wb_ok rfl⟩, k3⟩, (fun _ h => absurd h List.not_mem_nil)⟩), (fun _ h => absurd h List.not_mem_nil)⟩
theorem ccO3 {l : Launch} {D : va_G} {kp : Nat → ClassId} : ck_con l D kp ck_NN ceO3 := ck_con_g rfl rpO3
theorem rpS0 : ck_gcon ceS0 := by
  intro σ E hgi hF hP hΦ
  have key : (∃ v0 : Int, (0 : Int) ≤ 0 + (1 * v0 + 0) ∧ (0 : Int) ≤ 5040 + ((-1) * v0 + 0) ∧ ((0 : Int) ≤ 0 + 0 ∧ ck_lk E 96 (0 + 0) = 0 + (1 * v0 + 0)) ∧ True) := by
    obtain ⟨n, hn, e⟩ := vf_s96
    have b := vf_sum_bd (g := ck_loc (E 77)) (hi := 1) n (fun i h1 h2 => ck_ib hgi (k := 77) (t := 2) (z := 5040) rfl (by decide) h1 (by omega))
    have e := e E (0 + 0)
    exact ⟨vf_sum (ck_loc (E 77)) n, by omega, by omega, ⟨by decide, by omega⟩, trivial⟩
  obtain ⟨v0, k0, k1, k2, -⟩ := key
  exact ⟨_, (List.mem_of_getElem? (i := 0) rfl), (fun i => if i = 0 then v0 else σ i), (fun i hi => by show (if i = 0 then v0 else σ i) = σ i; rw [if_neg (show ¬ i = 0 by have : i < 0 := hi; omega)]), (List.forall_mem_cons.mpr ⟨k0, (List.forall_mem_cons.mpr ⟨k1, (fun _ h => absurd h List.not_mem_nil)⟩)⟩), (fun f hf => ck_wb_ok (List.all_eq_true.mp (show List.all _ (ck_wb 1) = true from rfl) f hf)), trivial, (List.forall_mem_cons.mpr ⟨⟨⟨ck_wb_ok rfl, ck_wb_ok rfl⟩, k2⟩, (fun _ h => absurd h List.not_mem_nil)⟩), (fun _ h => absurd h List.not_mem_nil)⟩
theorem ccS0 {l : Launch} {D : va_G} {kp : Nat → ClassId} : ck_con l D kp ck_NN ceS0 := ck_con_g rfl rpS0
theorem rpS1 : ck_scon ceS1 77 := by
  intro σ E e' idx v hargs hgi hF hP hΦ hgi2 h0 l1 l2
  cases hargs
  have h0 : (0 : Int) ≤ 0 + (1 * σ 0 + 0) := h0
  have l1 : ck_loc e' (0 + (1 * σ 0 + 0)) = 1 + 0 := l1
  have l2 : ∀ j, 0 ≤ j → ¬ j = 0 + (1 * σ 0 + 0) → ck_loc e' j = ck_loc (E 77) j := l2
  have f0 : (0 : Int) ≤ 0 + (1 * σ 0 + 0) := hF _ (List.mem_of_getElem? (i := 0) rfl)
  have f1 : (0 : Int) ≤ 5039 + ((-1) * σ 0 + 0) := hF _ (List.mem_of_getElem? (i := 1) rfl)
  have p0 : ck_lk E 96 (0 + 0) = 0 + (1 * σ 1 + 0) := (hP _ (List.mem_of_getElem? (i := 0) rfl)).2.2
  have q0 : (0 : Int) ≤ 0 + 0 := (hP _ (List.mem_of_getElem? (i := 0) rfl)).2.1
  have p1 : ck_lk E 77 (0 + (1 * σ 0 + 0)) = 0 + (1 * σ 2 + 0) := (hP _ (List.mem_of_getElem? (i := 1) rfl)).2.2
  have q1 : (0 : Int) ≤ 0 + (1 * σ 0 + 0) := (hP _ (List.mem_of_getElem? (i := 1) rfl)).2.1
  have key : ((0 : Int) ≤ 5039 + ((-1) * σ 1 + (1 * σ 2 + 0)) ∧ ((0 : Int) ≤ 0 + 0 ∧ ck_lk (va_up E 77 e') 96 (0 + 0) = 1 + (1 * σ 1 + ((-1) * σ 2 + 0))) ∧ True) := by
    obtain ⟨n, hn, e9⟩ := vf_s96
    have z : 0 + (1 * σ 0 + 0) = σ 0 := by omega
    rw [z] at h0 l1 l2
    rw [kc (i := σ 0) (by decide) z] at p1
    have e := e9 E (0 + 0)
    have e2 := e9 (va_up E 77 e') (0 + 0)
    rw [va_up_self] at e2
    have b := vf_sum_bd (g := ck_loc e') (hi := 1) n (fun i h1 h2 => by
      have := ck_ib hgi2 (k := 77) (t := 2) (z := 5040) (lo := 0) (hi := 1) rfl (by decide) h1 (by omega)
      rw [va_up_self] at this
      exact this)
    have u := vf_sum_up (g := ck_loc (E 77)) (g' := ck_loc e') h0 l2 n
    rw [if_pos (by omega)] at u
    have b2 : vf_sum (ck_loc e') n ≤ 5040 := by omega
    generalize vf_sum (ck_loc e') n = W2 at *
    generalize vf_sum (ck_loc (E 77)) n = W1 at *
    clear hn b e9
    exact ⟨by omega, ⟨by decide, by omega⟩, trivial⟩
  obtain ⟨k0, k1, -⟩ := key
  exact ⟨_, (List.mem_of_getElem? (i := 0) rfl), σ, ck_ag_rf, (List.forall_mem_cons.mpr ⟨k0, (fun _ h => absurd h List.not_mem_nil)⟩), (fun f hf => ck_wb_ok (List.all_eq_true.mp (show List.all _ (ck_wb 3) = true from rfl) f hf)), trivial, (List.forall_mem_cons.mpr ⟨⟨⟨ck_wb_ok rfl, ck_wb_ok rfl⟩, k1⟩, (fun _ h => absurd h List.not_mem_nil)⟩), (fun _ h => absurd h List.not_mem_nil)⟩
theorem ccS1 {l : Launch} {D : va_G} {kp : Nat → ClassId} : ck_con l D kp ck_NN ceS1 := ck_con_s (k := 77) rfl rpS1
theorem rpT0 : ck_gcon ceT0 := by
  intro σ E hgi hF hP hΦ
  have key : (∃ v0 : Int, (0 : Int) ≤ 0 + (1 * v0 + 0) ∧ (0 : Int) ≤ 512000000 + ((-1) * v0 + 0) ∧ ((0 : Int) ≤ 0 + 0 ∧ ck_lk E 97 (0 + 0) = 0 + (1 * v0 + 0)) ∧ True) := by
    have b := vf_sum_bd (g := ck_loc (E 81)) (hi := 1000000) 512 (fun i h1 h2 => ck_ib hgi (k := 81) (t := 0) (z := 512) rfl (by decide) h1 h2)
    have e : ck_lk E 97 (0 + 0) = vf_sum (ck_loc (E 81)) 512 := ck_lk_v (by decide) _
    exact ⟨vf_sum (ck_loc (E 81)) 512, by omega, by omega, ⟨by decide, by omega⟩, trivial⟩
  obtain ⟨v0, k0, k1, k2, -⟩ := key
  exact ⟨_, (List.mem_of_getElem? (i := 0) rfl), (fun i => if i = 0 then v0 else σ i), (fun i hi => by show (if i = 0 then v0 else σ i) = σ i; rw [if_neg (show ¬ i = 0 by have : i < 0 := hi; omega)]), (List.forall_mem_cons.mpr ⟨k0, (List.forall_mem_cons.mpr ⟨k1, (fun _ h => absurd h List.not_mem_nil)⟩)⟩), (fun f hf => ck_wb_ok (List.all_eq_true.mp (show List.all _ (ck_wb 1) = true from rfl) f hf)), trivial, (List.forall_mem_cons.mpr ⟨⟨⟨ck_wb_ok rfl, ck_wb_ok rfl⟩, k2⟩, (fun _ h => absurd h List.not_mem_nil)⟩), (fun _ h => absurd h List.not_mem_nil)⟩
theorem ccT0 {l : Launch} {D : va_G} {kp : Nat → ClassId} : ck_con l D kp ck_NN ceT0 := ck_con_g rfl rpT0
theorem rpI0 : ck_gcon ceI0 := by
  intro σ E hgi hF hP hΦ
  have key : (((0 : Int) ≤ 0 + 0 ∧ ck_lk E 101 (0 + 0) = 1 + 0) ∧ True) := by
    refine ⟨⟨by decide, ?_⟩, trivial⟩
    rw [ck_lk_v (by decide)]
    refine (cb_t ?_).trans rfl
    intro s h1 h2
    have h2 : s < 0 + 0 := h2
    omega
  obtain ⟨k0, -⟩ := key
  exact ⟨_, (List.mem_of_getElem? (i := 0) rfl), σ, ck_ag_rf, (fun _ h => absurd h List.not_mem_nil), (fun _ h => absurd h List.not_mem_nil), trivial, (List.forall_mem_cons.mpr ⟨⟨⟨ck_wb_ok rfl, ck_wb_ok rfl⟩, k0⟩, (fun _ h => absurd h List.not_mem_nil)⟩), (fun _ h => absurd h List.not_mem_nil)⟩
theorem ccI0 {l : Launch} {D : va_G} {kp : Nat → ClassId} : ck_con l D kp ck_NN ceI0 := ck_con_g rfl rpI0
theorem rpI1a : ck_scon ceI1a 81 := by
  intro σ E e' idx v hargs hgi hF hP hΦ hgi2 h0 l1 l2
  cases hargs
  have h0 : (0 : Int) ≤ 0 + (1 * σ 0 + 0) := h0
  have l1 : ck_loc e' (0 + (1 * σ 0 + 0)) = 0 + 0 := l1
  have l2 : ∀ j, 0 ≤ j → ¬ j = 0 + (1 * σ 0 + 0) → ck_loc e' j = ck_loc (E 81) j := l2
  have f0 : (0 : Int) ≤ 0 + (1 * σ 0 + 0) := hF _ (List.mem_of_getElem? (i := 0) rfl)
  have f1 : (0 : Int) ≤ 511 + ((-1) * σ 0 + 0) := hF _ (List.mem_of_getElem? (i := 1) rfl)
  have f2 : (0 : Int) ≤ (-1) + (1 * σ 1 + 0) := hF _ (List.mem_of_getElem? (i := 2) rfl)
  have p0 : ck_lk E 101 (0 + (1 * σ 0 + 0)) = 0 + (1 * σ 1 + 0) := (hP _ (List.mem_of_getElem? (i := 0) rfl)).2.2
  have q0 : (0 : Int) ≤ 0 + (1 * σ 0 + 0) := (hP _ (List.mem_of_getElem? (i := 0) rfl)).2.1
  have key : (((0 : Int) ≤ 1 + (1 * σ 0 + 0) ∧ ck_lk (va_up E 81 e') 101 (1 + (1 * σ 0 + 0)) = 1 + 0) ∧ True) := by
    have z : 0 + (1 * σ 0 + 0) = σ 0 := by omega
    rw [z] at h0 l1 l2 p0
    rw [ck_lk_v (by decide)] at p0
    have hp := cb_ge p0 (by omega)
    refine ⟨⟨by omega, ?_⟩, trivial⟩
    rw [ck_lk_v (by decide)]
    refine (cb_t ?_).trans rfl
    intro s h1 h2
    have h2 : s < 1 + (1 * σ 0 + 0) := h2
    show ck_loc (va_up E 81 e' 81) s = 0 ∨ 1000000 ≤ ck_loc (va_up E 81 e' 81) s
    rw [va_up_self]
    by_cases hs : s = σ 0
    · rw [hs, l1]; exact Or.inl rfl
    · rw [l2 s h1 hs]; exact hp s h1 (show s < σ 0 by omega)
  obtain ⟨k0, -⟩ := key
  exact ⟨_, (List.mem_of_getElem? (i := 0) rfl), σ, ck_ag_rf, (fun _ h => absurd h List.not_mem_nil), (fun _ h => absurd h List.not_mem_nil), trivial, (List.forall_mem_cons.mpr ⟨⟨⟨ck_wb_ok rfl, ck_wb_ok rfl⟩, k0⟩, (fun _ h => absurd h List.not_mem_nil)⟩), (fun _ h => absurd h List.not_mem_nil)⟩
theorem ccI1a {l : Launch} {D : va_G} {kp : Nat → ClassId} : ck_con l D kp ck_NN ceI1a := ck_con_s (k := 81) rfl rpI1a
theorem rpI1b : ck_scon ceI1b 81 := by
  intro σ E e' idx v hargs hgi hF hP hΦ hgi2 h0 l1 l2
  cases hargs
  have h0 : (0 : Int) ≤ 0 + (1 * σ 0 + 0) := h0
  have l1 : ck_loc e' (0 + (1 * σ 0 + 0)) = 1000000 + 0 := l1
  have l2 : ∀ j, 0 ≤ j → ¬ j = 0 + (1 * σ 0 + 0) → ck_loc e' j = ck_loc (E 81) j := l2
  have f0 : (0 : Int) ≤ 0 + (1 * σ 0 + 0) := hF _ (List.mem_of_getElem? (i := 0) rfl)
  have f1 : (0 : Int) ≤ 511 + ((-1) * σ 0 + 0) := hF _ (List.mem_of_getElem? (i := 1) rfl)
  have f2 : (0 : Int) ≤ (-1) + (1 * σ 1 + 0) := hF _ (List.mem_of_getElem? (i := 2) rfl)
  have p0 : ck_lk E 101 (0 + (1 * σ 0 + 0)) = 0 + (1 * σ 1 + 0) := (hP _ (List.mem_of_getElem? (i := 0) rfl)).2.2
  have q0 : (0 : Int) ≤ 0 + (1 * σ 0 + 0) := (hP _ (List.mem_of_getElem? (i := 0) rfl)).2.1
  have key : (((0 : Int) ≤ 1 + (1 * σ 0 + 0) ∧ ck_lk (va_up E 81 e') 101 (1 + (1 * σ 0 + 0)) = 1 + 0) ∧ True) := by
    have z : 0 + (1 * σ 0 + 0) = σ 0 := by omega
    rw [z] at h0 l1 l2 p0
    rw [ck_lk_v (by decide)] at p0
    have hp := cb_ge p0 (by omega)
    refine ⟨⟨by omega, ?_⟩, trivial⟩
    rw [ck_lk_v (by decide)]
    refine (cb_t ?_).trans rfl
    intro s h1 h2
    have h2 : s < 1 + (1 * σ 0 + 0) := h2
    show ck_loc (va_up E 81 e' 81) s = 0 ∨ 1000000 ≤ ck_loc (va_up E 81 e' 81) s
    rw [va_up_self]
    by_cases hs : s = σ 0
    · rw [hs, l1]; exact Or.inr (by decide)
    · rw [l2 s h1 hs]; exact hp s h1 (show s < σ 0 by omega)
  obtain ⟨k0, -⟩ := key
  exact ⟨_, (List.mem_of_getElem? (i := 0) rfl), σ, ck_ag_rf, (fun _ h => absurd h List.not_mem_nil), (fun _ h => absurd h List.not_mem_nil), trivial, (List.forall_mem_cons.mpr ⟨⟨⟨ck_wb_ok rfl, ck_wb_ok rfl⟩, k0⟩, (fun _ h => absurd h List.not_mem_nil)⟩), (fun _ h => absurd h List.not_mem_nil)⟩
theorem ccI1b {l : Launch} {D : va_G} {kp : Nat → ClassId} : ck_con l D kp ck_NN ceI1b := ck_con_s (k := 81) rfl rpI1b
theorem rpI2 : ck_gcon ceI2 := by
  intro σ E hgi hF hP hΦ
  have f0 : (0 : Int) ≤ (-512) + (1 * σ 0 + 0) := hF _ (List.mem_of_getElem? (i := 0) rfl)
  have f1 : (0 : Int) ≤ (-1) + (1 * σ 1 + 0) := hF _ (List.mem_of_getElem? (i := 1) rfl)
  have p0 : ck_lk E 101 (0 + (1 * σ 0 + 0)) = 0 + (1 * σ 1 + 0) := (hP _ (List.mem_of_getElem? (i := 0) rfl)).2.2
  have q0 : (0 : Int) ≤ 0 + (1 * σ 0 + 0) := (hP _ (List.mem_of_getElem? (i := 0) rfl)).2.1
  have key : (((0 : Int) ≤ 0 + 0 ∧ ck_lk E 100 (0 + 0) = 1 + 0) ∧ True) := by
    rw [ck_lk_v (by decide)] at p0
    have hp := cb_ge p0 (by omega)
    refine ⟨⟨by decide, ?_⟩, trivial⟩
    rw [ck_lk_v (by decide)]
    refine (cb_t ?_).trans rfl
    intro s h1 h2
    rcases hp s h1 (show s < 0 + (1 * σ 0 + 0) by omega) with h | h
    · exact Or.inl h
    · exact Or.inr (Or.inl h)
  obtain ⟨k0, -⟩ := key
  exact ⟨_, (List.mem_of_getElem? (i := 0) rfl), σ, ck_ag_rf, (fun _ h => absurd h List.not_mem_nil), (fun _ h => absurd h List.not_mem_nil), trivial, (List.forall_mem_cons.mpr ⟨⟨⟨ck_wb_ok rfl, ck_wb_ok rfl⟩, k0⟩, (fun _ h => absurd h List.not_mem_nil)⟩), (fun _ h => absurd h List.not_mem_nil)⟩
theorem ccI2 {l : Launch} {D : va_G} {kp : Nat → ClassId} : ck_con l D kp ck_NN ceI2 := ck_con_g rfl rpI2
theorem rpT1 : ck_scon ceT1 81 := by
  intro σ E e' idx v hargs hgi hF hP hΦ hgi2 h0 l1 l2
  cases hargs
  have h0 : (0 : Int) ≤ 0 + (1 * σ 0 + 0) := h0
  have l1 : ck_loc e' (0 + (1 * σ 0 + 0)) = 1 + (1 * σ 5 + 0) := l1
  have l2 : ∀ j, 0 ≤ j → ¬ j = 0 + (1 * σ 0 + 0) → ck_loc e' j = ck_loc (E 81) j := l2
  have f0 : (0 : Int) ≤ 0 + (1 * σ 0 + 0) := hF _ (List.mem_of_getElem? (i := 0) rfl)
  have f1 : (0 : Int) ≤ 511 + ((-1) * σ 0 + 0) := hF _ (List.mem_of_getElem? (i := 1) rfl)
  have f2 : (0 : Int) ≤ 0 + (1 * σ 1 + 0) := hF _ (List.mem_of_getElem? (i := 2) rfl)
  have f3 : (0 : Int) ≤ 9 + ((-1) * σ 1 + 0) := hF _ (List.mem_of_getElem? (i := 3) rfl)
  have f4 : (0 : Int) ≤ (-1) + (1 * σ 3 + 0) := hF _ (List.mem_of_getElem? (i := 4) rfl)
  have f5 : (0 : Int) ≤ 0 + (1 * σ 4 + 0) := hF _ (List.mem_of_getElem? (i := 5) rfl)
  have f6 : (0 : Int) ≤ 511 + ((-1) * σ 4 + 0) := hF _ (List.mem_of_getElem? (i := 6) rfl)
  have f7 : (0 : Int) ≤ (-2) + ((-1) * σ 5 + (1 * σ 6 + 0)) := hF _ (List.mem_of_getElem? (i := 7) rfl)
  have p0 : ck_lk E 97 (0 + 0) = 0 + (1 * σ 2 + 0) := (hP _ (List.mem_of_getElem? (i := 0) rfl)).2.2
  have q0 : (0 : Int) ≤ 0 + 0 := (hP _ (List.mem_of_getElem? (i := 0) rfl)).2.1
  have p1 : ck_lk E 100 (0 + 0) = 0 + (1 * σ 3 + 0) := (hP _ (List.mem_of_getElem? (i := 1) rfl)).2.2
  have q1 : (0 : Int) ≤ 0 + 0 := (hP _ (List.mem_of_getElem? (i := 1) rfl)).2.1
  have p2 : ck_lk E 203 (0 + (10 * σ 0 + (1 * σ 1 + 0))) = 0 + (1 * σ 4 + 0) := (hP _ (List.mem_of_getElem? (i := 2) rfl)).2.2
  have q2 : (0 : Int) ≤ 0 + (10 * σ 0 + (1 * σ 1 + 0)) := (hP _ (List.mem_of_getElem? (i := 2) rfl)).2.1
  have p3 : ck_lk E 81 (0 + (1 * σ 4 + 0)) = 0 + (1 * σ 5 + 0) := (hP _ (List.mem_of_getElem? (i := 3) rfl)).2.2
  have q3 : (0 : Int) ≤ 0 + (1 * σ 4 + 0) := (hP _ (List.mem_of_getElem? (i := 3) rfl)).2.1
  have p4 : ck_lk E 81 (0 + (1 * σ 0 + 0)) = 0 + (1 * σ 6 + 0) := (hP _ (List.mem_of_getElem? (i := 4) rfl)).2.2
  have q4 : (0 : Int) ≤ 0 + (1 * σ 0 + 0) := (hP _ (List.mem_of_getElem? (i := 4) rfl)).2.1
  have key : ((0 : Int) ≤ 1 + (1 * σ 2 + (1 * σ 5 + ((-1) * σ 6 + 0))) ∧ ((0 : Int) ≤ 0 + 0 ∧ ck_lk (va_up E 81 e') 97 (0 + 0) = 1 + (1 * σ 2 + (1 * σ 5 + ((-1) * σ 6 + 0)))) ∧ ((0 : Int) ≤ 0 + 0 ∧ ck_lk (va_up E 81 e') 100 (0 + 0) = 1 + 0) ∧ True) := by
    have z : 0 + (1 * σ 0 + 0) = σ 0 := by omega
    rw [z] at h0 l1 l2
    rw [ck_lk_v (by decide)] at p1
    have hw := cb_ge p1 (by omega)
    rw [k203 (s := σ 0) (h := σ 1) (by omega) (by omega) (by omega)] at p2
    rw [kc (i := σ 4) (by decide) (by omega)] at p3
    rw [kc (i := σ 0) (by decide) z] at p4
    have e : ck_lk E 97 (0 + 0) = vf_sum (ck_loc (E 81)) 512 := ck_lk_v (by decide) _
    have e2 : ck_lk (va_up E 81 e') 97 (0 + 0) = vf_sum (ck_loc (va_up E 81 e' 81)) 512 := ck_lk_v (by decide) _
    rw [va_up_self] at e2
    have b := vf_sum_bd (g := ck_loc e') (hi := 1000000) 512 (fun i h1 h2 => by
      have := ck_ib hgi2 (k := 81) (t := 0) (z := 512) (lo := 0) (hi := 1000000) rfl (by decide) h1 h2
      rw [va_up_self] at this
      exact this)
    have u := vf_sum_up (g := ck_loc (E 81)) (g' := ck_loc e') h0 l2 512
    rw [if_pos (by omega)] at u
    refine ⟨by omega, ⟨by decide, by omega⟩, ⟨by decide, ?_⟩, trivial⟩
    rw [ck_lk_v (by decide)]
    refine (cb_t ?_).trans rfl
    intro s h1 h2
    show ck_loc (va_up E 81 e' 81) s = 0 ∨ 1000000 ≤ ck_loc (va_up E 81 e' 81) s ∨ ∃ h : Int, 0 ≤ h ∧ h ≤ 9 ∧ 0 ≤ vf_bh s h ∧ ck_loc (va_up E 81 e' 81) (vf_bh s h) + 1 ≤ ck_loc (va_up E 81 e' 81) s
    rw [va_up_self]
    by_cases hs : s = σ 0
    · refine Or.inr (Or.inr ⟨σ 1, by omega, by omega, ?_, ?_⟩)
      · rw [hs]; omega
      · rw [hs, p2, l1, show 0 + (1 * σ 4 + 0) = σ 4 by omega]
        have hq : ¬ σ 4 = σ 0 := fun q => by rw [q] at p3; omega
        rw [l2 (σ 4) (by omega) hq]
        omega
    · rw [l2 s h1 hs]
      have hw9 : ck_loc (E 81) s = 0 ∨ 1000000 ≤ ck_loc (E 81) s ∨ ∃ h : Int, 0 ≤ h ∧ h ≤ 9 ∧ 0 ≤ vf_bh s h ∧ ck_loc (E 81) (vf_bh s h) + 1 ≤ ck_loc (E 81) s := hw s h1 h2
      rcases hw9 with h | h | ⟨h, a, b9, c, d⟩
      · exact Or.inl h
      · exact Or.inr (Or.inl h)
      · refine Or.inr (Or.inr ⟨h, a, b9, c, ?_⟩)
        by_cases hq : vf_bh s h = σ 0
        · rw [hq] at d ⊢
          rw [l1]; omega
        · rw [l2 _ c hq]; exact d
  obtain ⟨k0, k1, k2, -⟩ := key
  exact ⟨_, (List.mem_of_getElem? (i := 0) rfl), σ, ck_ag_rf, (List.forall_mem_cons.mpr ⟨k0, (fun _ h => absurd h List.not_mem_nil)⟩), (fun f hf => ck_wb_ok (List.all_eq_true.mp (show List.all _ (ck_wb 7) = true from rfl) f hf)), trivial, (List.forall_mem_cons.mpr ⟨⟨⟨ck_wb_ok rfl, ck_wb_ok rfl⟩, k1⟩, (List.forall_mem_cons.mpr ⟨⟨⟨ck_wb_ok rfl, ck_wb_ok rfl⟩, k2⟩, (fun _ h => absurd h List.not_mem_nil)⟩)⟩), (fun _ h => absurd h List.not_mem_nil)⟩
theorem ccT1 {l : Launch} {D : va_G} {kp : Nat → ClassId} : ck_con l D kp ck_NN ceT1 := ck_con_s (k := 81) rfl rpT1
theorem rpF0 : ck_gcon ceF0 := by
  intro σ E hgi hF hP hΦ
  have key : (∃ v0 : Int, (0 : Int) ≤ 0 + (1 * v0 + 0) ∧ (0 : Int) ≤ 1 + ((-1) * v0 + 0) ∧ ((0 : Int) ≤ 0 + 0 ∧ ck_lk E 98 (0 + 0) = 0 + (1 * v0 + 0)) ∧ True) := by
    have hb : 0 ≤ ck_lk E 98 (0 + 0) ∧ ck_lk E 98 (0 + 0) ≤ 1 := by rw [ck_lk_v (by decide)]; exact cb_le _
    exact ⟨ck_lk E 98 (0 + 0), by omega, by omega, ⟨by decide, by omega⟩, trivial⟩
  obtain ⟨v0, k0, k1, k2, -⟩ := key
  exact ⟨_, (List.mem_of_getElem? (i := 0) rfl), (fun i => if i = 0 then v0 else σ i), (fun i hi => by show (if i = 0 then v0 else σ i) = σ i; rw [if_neg (show ¬ i = 0 by have : i < 0 := hi; omega)]), (List.forall_mem_cons.mpr ⟨k0, (List.forall_mem_cons.mpr ⟨k1, (fun _ h => absurd h List.not_mem_nil)⟩)⟩), (fun f hf => ck_wb_ok (List.all_eq_true.mp (show List.all _ (ck_wb 1) = true from rfl) f hf)), trivial, (List.forall_mem_cons.mpr ⟨⟨⟨ck_wb_ok rfl, ck_wb_ok rfl⟩, k2⟩, (fun _ h => absurd h List.not_mem_nil)⟩), (fun _ h => absurd h List.not_mem_nil)⟩
theorem ccF0 {l : Launch} {D : va_G} {kp : Nat → ClassId} : ck_con l D kp ck_NN ceF0 := ck_con_g rfl rpF0
theorem rpF1 : ck_gcon ceF1 := by
  intro σ E hgi hF hP hΦ
  have key : (((0 : Int) ≤ 0 + 0 ∧ ck_lk E 99 (0 + 0) = 1 + 0) ∧ True) := by
    refine ⟨⟨by decide, ?_⟩, trivial⟩
    rw [ck_lk_v (by decide)]
    refine (cb_t ?_).trans rfl
    intro s h h1 h2 h3 h4 h5
    have h5 : 10 * s + h < 0 + 0 := h5
    omega
  obtain ⟨k0, -⟩ := key
  exact ⟨_, (List.mem_of_getElem? (i := 0) rfl), σ, ck_ag_rf, (fun _ h => absurd h List.not_mem_nil), (fun _ h => absurd h List.not_mem_nil), trivial, (List.forall_mem_cons.mpr ⟨⟨⟨ck_wb_ok rfl, ck_wb_ok rfl⟩, k0⟩, (fun _ h => absurd h List.not_mem_nil)⟩), (fun _ h => absurd h List.not_mem_nil)⟩
theorem ccF1 {l : Launch} {D : va_G} {kp : Nat → ClassId} : ck_con l D kp ck_NN ceF1 := ck_con_g rfl rpF1
theorem rpF2a : ck_gcon ceF2a := by
  intro σ E hgi hF hP hΦ
  have f0 : (0 : Int) ≤ 0 + (1 * σ 0 + 0) := hF _ (List.mem_of_getElem? (i := 0) rfl)
  have f1 : (0 : Int) ≤ 511 + ((-1) * σ 0 + 0) := hF _ (List.mem_of_getElem? (i := 1) rfl)
  have f2 : (0 : Int) ≤ 0 + (1 * σ 1 + 0) := hF _ (List.mem_of_getElem? (i := 2) rfl)
  have f3 : (0 : Int) ≤ 9 + ((-1) * σ 1 + 0) := hF _ (List.mem_of_getElem? (i := 3) rfl)
  have f4 : (0 : Int) ≤ (-1) + ((-1) * σ 3 + 0) := hF _ (List.mem_of_getElem? (i := 4) rfl)
  have p0 : ck_lk E 99 (0 + (10 * σ 0 + (1 * σ 1 + 0))) = 0 + (1 * σ 2 + 0) := (hP _ (List.mem_of_getElem? (i := 0) rfl)).2.2
  have q0 : (0 : Int) ≤ 0 + (10 * σ 0 + (1 * σ 1 + 0)) := (hP _ (List.mem_of_getElem? (i := 0) rfl)).2.1
  have p1 : ck_lk E 203 (0 + (10 * σ 0 + (1 * σ 1 + 0))) = 0 + (1 * σ 3 + 0) := (hP _ (List.mem_of_getElem? (i := 1) rfl)).2.2
  have q1 : (0 : Int) ≤ 0 + (10 * σ 0 + (1 * σ 1 + 0)) := (hP _ (List.mem_of_getElem? (i := 1) rfl)).2.1
  have key : (∃ v0 : Int, (0 : Int) ≤ 0 + (1 * v0 + 0) ∧ (0 : Int) ≤ 1 + ((-1) * v0 + 0) ∧ (0 : Int) ≤ 0 + ((-1) * σ 2 + (1 * v0 + 0)) ∧ ((0 : Int) ≤ 1 + (10 * σ 0 + (1 * σ 1 + 0)) ∧ ck_lk E 99 (1 + (10 * σ 0 + (1 * σ 1 + 0))) = 0 + (1 * v0 + 0)) ∧ True) := by
    rw [k203 (s := σ 0) (h := σ 1) (by omega) (by omega) (by omega)] at p1
    have hb : 0 ≤ ck_lk E 99 (1 + (10 * σ 0 + (1 * σ 1 + 0))) ∧ ck_lk E 99 (1 + (10 * σ 0 + (1 * σ 1 + 0))) ≤ 1 := by rw [ck_lk_v (by decide)]; exact cb_le _
    have hm : ck_lk E 99 (0 + (10 * σ 0 + (1 * σ 1 + 0))) ≤ ck_lk E 99 (1 + (10 * σ 0 + (1 * σ 1 + 0))) := by
      rw [ck_lk_v (by decide), ck_lk_v (by decide)]
      refine cb_mono (fun hp => ?_)
      intro s h h1 h2 h3 h4 h5 h6
      have h5 : 10 * s + h < 1 + (10 * σ 0 + (1 * σ 1 + 0)) := h5
      by_cases h7 : 10 * s + h < 0 + (10 * σ 0 + (1 * σ 1 + 0))
      · exact hp s h h1 h2 h3 h4 h7 h6
      · have e1 : s = σ 0 := by omega
        have e2 : h = σ 1 := by omega
        rw [e1, e2] at h6
        omega
    exact ⟨ck_lk E 99 (1 + (10 * σ 0 + (1 * σ 1 + 0))), by omega, by omega, by omega, ⟨by omega, by omega⟩, trivial⟩
  obtain ⟨v0, k0, k1, k2, k3, -⟩ := key
  exact ⟨_, (List.mem_of_getElem? (i := 0) rfl), (fun i => if i = 4 then v0 else σ i), (fun i hi => by show (if i = 4 then v0 else σ i) = σ i; rw [if_neg (show ¬ i = 4 by have : i < 4 := hi; omega)]), (List.forall_mem_cons.mpr ⟨k0, (List.forall_mem_cons.mpr ⟨k1, (List.forall_mem_cons.mpr ⟨k2, (fun _ h => absurd h List.not_mem_nil)⟩)⟩)⟩), (fun f hf => ck_wb_ok (List.all_eq_true.mp (show List.all _ (ck_wb 5) = true from rfl) f hf)), trivial, (List.forall_mem_cons.mpr ⟨⟨⟨ck_wb_ok rfl, ck_wb_ok rfl⟩, k3⟩, (fun _ h => absurd h List.not_mem_nil)⟩), (fun _ h => absurd h List.not_mem_nil)⟩
theorem ccF2a {l : Launch} {D : va_G} {kp : Nat → ClassId} : ck_con l D kp ck_NN ceF2a := ck_con_g rfl rpF2a
theorem rpF2b : ck_gcon ceF2b := by
  intro σ E hgi hF hP hΦ
  have f0 : (0 : Int) ≤ 0 + (1 * σ 0 + 0) := hF _ (List.mem_of_getElem? (i := 0) rfl)
  have f1 : (0 : Int) ≤ 511 + ((-1) * σ 0 + 0) := hF _ (List.mem_of_getElem? (i := 1) rfl)
  have f2 : (0 : Int) ≤ 0 + (1 * σ 1 + 0) := hF _ (List.mem_of_getElem? (i := 2) rfl)
  have f3 : (0 : Int) ≤ 9 + ((-1) * σ 1 + 0) := hF _ (List.mem_of_getElem? (i := 3) rfl)
  have f4 : (0 : Int) ≤ 0 + (1 * σ 3 + 0) := hF _ (List.mem_of_getElem? (i := 4) rfl)
  have f5 : (0 : Int) ≤ 511 + ((-1) * σ 3 + 0) := hF _ (List.mem_of_getElem? (i := 5) rfl)
  have f6 : (0 : Int) ≤ 1 + (1 * σ 4 + ((-1) * σ 5 + 0)) := hF _ (List.mem_of_getElem? (i := 6) rfl)
  have p0 : ck_lk E 99 (0 + (10 * σ 0 + (1 * σ 1 + 0))) = 0 + (1 * σ 2 + 0) := (hP _ (List.mem_of_getElem? (i := 0) rfl)).2.2
  have q0 : (0 : Int) ≤ 0 + (10 * σ 0 + (1 * σ 1 + 0)) := (hP _ (List.mem_of_getElem? (i := 0) rfl)).2.1
  have p1 : ck_lk E 203 (0 + (10 * σ 0 + (1 * σ 1 + 0))) = 0 + (1 * σ 3 + 0) := (hP _ (List.mem_of_getElem? (i := 1) rfl)).2.2
  have q1 : (0 : Int) ≤ 0 + (10 * σ 0 + (1 * σ 1 + 0)) := (hP _ (List.mem_of_getElem? (i := 1) rfl)).2.1
  have p2 : ck_lk E 81 (0 + (1 * σ 3 + 0)) = 0 + (1 * σ 4 + 0) := (hP _ (List.mem_of_getElem? (i := 2) rfl)).2.2
  have q2 : (0 : Int) ≤ 0 + (1 * σ 3 + 0) := (hP _ (List.mem_of_getElem? (i := 2) rfl)).2.1
  have p3 : ck_lk E 81 (0 + (1 * σ 0 + 0)) = 0 + (1 * σ 5 + 0) := (hP _ (List.mem_of_getElem? (i := 3) rfl)).2.2
  have q3 : (0 : Int) ≤ 0 + (1 * σ 0 + 0) := (hP _ (List.mem_of_getElem? (i := 3) rfl)).2.1
  have key : (∃ v0 : Int, (0 : Int) ≤ 0 + (1 * v0 + 0) ∧ (0 : Int) ≤ 1 + ((-1) * v0 + 0) ∧ (0 : Int) ≤ 0 + ((-1) * σ 2 + (1 * v0 + 0)) ∧ ((0 : Int) ≤ 1 + (10 * σ 0 + (1 * σ 1 + 0)) ∧ ck_lk E 99 (1 + (10 * σ 0 + (1 * σ 1 + 0))) = 0 + (1 * v0 + 0)) ∧ True) := by
    rw [k203 (s := σ 0) (h := σ 1) (by omega) (by omega) (by omega)] at p1
    rw [kc (i := σ 3) (by decide) (by omega)] at p2
    rw [kc (i := σ 0) (by decide) (by omega)] at p3
    have hb : 0 ≤ ck_lk E 99 (1 + (10 * σ 0 + (1 * σ 1 + 0))) ∧ ck_lk E 99 (1 + (10 * σ 0 + (1 * σ 1 + 0))) ≤ 1 := by rw [ck_lk_v (by decide)]; exact cb_le _
    have hm : ck_lk E 99 (0 + (10 * σ 0 + (1 * σ 1 + 0))) ≤ ck_lk E 99 (1 + (10 * σ 0 + (1 * σ 1 + 0))) := by
      rw [ck_lk_v (by decide), ck_lk_v (by decide)]
      refine cb_mono (fun hp => ?_)
      intro s h h1 h2 h3 h4 h5 h6
      have h5 : 10 * s + h < 1 + (10 * σ 0 + (1 * σ 1 + 0)) := h5
      by_cases h7 : 10 * s + h < 0 + (10 * σ 0 + (1 * σ 1 + 0))
      · exact hp s h h1 h2 h3 h4 h7 h6
      · have e1 : s = σ 0 := by omega
        have e2 : h = σ 1 := by omega
        rw [e1, e2, p1, show 0 + (1 * σ 3 + 0) = σ 3 by omega]
        show ck_loc (E 81) (σ 0) ≤ ck_loc (E 81) (σ 3) + 1
        omega
    exact ⟨ck_lk E 99 (1 + (10 * σ 0 + (1 * σ 1 + 0))), by omega, by omega, by omega, ⟨by omega, by omega⟩, trivial⟩
  obtain ⟨v0, k0, k1, k2, k3, -⟩ := key
  exact ⟨_, (List.mem_of_getElem? (i := 0) rfl), (fun i => if i = 6 then v0 else σ i), (fun i hi => by show (if i = 6 then v0 else σ i) = σ i; rw [if_neg (show ¬ i = 6 by have : i < 6 := hi; omega)]), (List.forall_mem_cons.mpr ⟨k0, (List.forall_mem_cons.mpr ⟨k1, (List.forall_mem_cons.mpr ⟨k2, (fun _ h => absurd h List.not_mem_nil)⟩)⟩)⟩), (fun f hf => ck_wb_ok (List.all_eq_true.mp (show List.all _ (ck_wb 7) = true from rfl) f hf)), trivial, (List.forall_mem_cons.mpr ⟨⟨⟨ck_wb_ok rfl, ck_wb_ok rfl⟩, k3⟩, (fun _ h => absurd h List.not_mem_nil)⟩), (fun _ h => absurd h List.not_mem_nil)⟩
theorem ccF2b {l : Launch} {D : va_G} {kp : Nat → ClassId} : ck_con l D kp ck_NN ceF2b := ck_con_g rfl rpF2b
theorem rpF5 : ck_gcon ceF5 := by
  intro σ E hgi hF hP hΦ
  have f0 : (0 : Int) ≤ (-1) + (1 * σ 0 + 0) := hF _ (List.mem_of_getElem? (i := 0) rfl)
  have f1 : (0 : Int) ≤ (-1) + (1 * σ 1 + 0) := hF _ (List.mem_of_getElem? (i := 1) rfl)
  have p0 : ck_lk E 99 (5120 + 0) = 0 + (1 * σ 0 + 0) := (hP _ (List.mem_of_getElem? (i := 0) rfl)).2.2
  have q0 : (0 : Int) ≤ 5120 + 0 := (hP _ (List.mem_of_getElem? (i := 0) rfl)).2.1
  have p1 : ck_lk E 100 (0 + 0) = 0 + (1 * σ 1 + 0) := (hP _ (List.mem_of_getElem? (i := 1) rfl)).2.2
  have q1 : (0 : Int) ≤ 0 + 0 := (hP _ (List.mem_of_getElem? (i := 1) rfl)).2.1
  have key : (((0 : Int) ≤ 0 + 0 ∧ ck_lk E 98 (0 + 0) = 1 + 0) ∧ True) := by
    rw [ck_lk_v (by decide)] at p0 p1
    have hp := cb_ge p0 (by omega)
    have hw := cb_ge p1 (by omega)
    refine ⟨⟨by decide, ?_⟩, trivial⟩
    rw [ck_lk_v (by decide)]
    refine (cb_t ?_).trans rfl
    intro s h1 h2
    rcases hw s h1 h2 with h | h | ⟨h, a, b, c, d⟩
    · exact Or.inl h
    · exact Or.inr (Or.inl h)
    · have h9 := hp s h h1 h2 a b (show 10 * s + h < 5120 + 0 by omega) c
      exact Or.inr (Or.inr ⟨h, a, b, c, by omega⟩)
  obtain ⟨k0, -⟩ := key
  exact ⟨_, (List.mem_of_getElem? (i := 0) rfl), σ, ck_ag_rf, (fun _ h => absurd h List.not_mem_nil), (fun _ h => absurd h List.not_mem_nil), trivial, (List.forall_mem_cons.mpr ⟨⟨⟨ck_wb_ok rfl, ck_wb_ok rfl⟩, k0⟩, (fun _ h => absurd h List.not_mem_nil)⟩), (fun _ h => absurd h List.not_mem_nil)⟩
theorem ccF5 {l : Launch} {D : va_G} {kp : Nat → ClassId} : ck_con l D kp ck_NN ceF5 := ck_con_g rfl rpF5
theorem rpF6 : ck_gcon ceF6 := by
  intro σ E hgi hF hP hΦ
  have f0 : (0 : Int) ≤ 0 + (1 * σ 0 + 0) := hF _ (List.mem_of_getElem? (i := 0) rfl)
  have key : (∃ v0 : Int, (0 : Int) ≤ 0 + (1 * v0 + 0) ∧ (0 : Int) ≤ 1 + ((-1) * v0 + 0) ∧ ((0 : Int) ≤ 0 + (1 * σ 0 + 0) ∧ ck_lk E 99 (0 + (1 * σ 0 + 0)) = 0 + (1 * v0 + 0)) ∧ True) := by
    have hb : 0 ≤ ck_lk E 99 (0 + (1 * σ 0 + 0)) ∧ ck_lk E 99 (0 + (1 * σ 0 + 0)) ≤ 1 := by rw [ck_lk_v (by decide)]; exact cb_le _
    exact ⟨ck_lk E 99 (0 + (1 * σ 0 + 0)), by omega, by omega, ⟨by omega, by omega⟩, trivial⟩
  obtain ⟨v0, k0, k1, k2, -⟩ := key
  exact ⟨_, (List.mem_of_getElem? (i := 0) rfl), (fun i => if i = 1 then v0 else σ i), (fun i hi => by show (if i = 1 then v0 else σ i) = σ i; rw [if_neg (show ¬ i = 1 by have : i < 1 := hi; omega)]), (List.forall_mem_cons.mpr ⟨k0, (List.forall_mem_cons.mpr ⟨k1, (fun _ h => absurd h List.not_mem_nil)⟩)⟩), (fun f hf => ck_wb_ok (List.all_eq_true.mp (show List.all _ (ck_wb 2) = true from rfl) f hf)), trivial, (List.forall_mem_cons.mpr ⟨⟨⟨ck_wb_ok rfl, ck_wb_ok rfl⟩, k2⟩, (fun _ h => absurd h List.not_mem_nil)⟩), (fun _ h => absurd h List.not_mem_nil)⟩
theorem ccF6 {l : Launch} {D : va_G} {kp : Nat → ClassId} : ck_con l D kp ck_NN ceF6 := ck_con_g rfl rpF6
theorem rpH1 : ck_gcon ceH1 := by
  intro σ E hgi hF hP hΦ
  have f0 : (0 : Int) ≤ 0 + (1 * σ 0 + 0) := hF _ (List.mem_of_getElem? (i := 0) rfl)
  have f1 : (0 : Int) ≤ 511 + ((-1) * σ 0 + 0) := hF _ (List.mem_of_getElem? (i := 1) rfl)
  have f2 : (0 : Int) ≤ (-1) + (1 * σ 1 + 0) := hF _ (List.mem_of_getElem? (i := 2) rfl)
  have f3 : (0 : Int) ≤ (-1) + (1 * σ 2 + 0) := hF _ (List.mem_of_getElem? (i := 3) rfl)
  have f4 : (0 : Int) ≤ 999999 + ((-1) * σ 2 + 0) := hF _ (List.mem_of_getElem? (i := 4) rfl)
  have p0 : ck_lk E 98 (0 + 0) = 0 + (1 * σ 1 + 0) := (hP _ (List.mem_of_getElem? (i := 0) rfl)).2.2
  have q0 : (0 : Int) ≤ 0 + 0 := (hP _ (List.mem_of_getElem? (i := 0) rfl)).2.1
  have p1 : ck_lk E 81 (0 + (1 * σ 0 + 0)) = 0 + (1 * σ 2 + 0) := (hP _ (List.mem_of_getElem? (i := 1) rfl)).2.2
  have q1 : (0 : Int) ≤ 0 + (1 * σ 0 + 0) := (hP _ (List.mem_of_getElem? (i := 1) rfl)).2.1
  have key : (∃ v0 v1 : Int, (0 : Int) ≤ 0 + (1 * v0 + 0) ∧ (0 : Int) ≤ 9 + ((-1) * v0 + 0) ∧ (0 : Int) ≤ 0 + (1 * v1 + 0) ∧ (0 : Int) ≤ 511 + ((-1) * v1 + 0) ∧ ((0 : Int) ≤ 0 + (1 * σ 0 + 0) ∧ ck_lk E 102 (0 + (1 * σ 0 + 0)) = 0 + (1 * v0 + 0)) ∧ ((0 : Int) ≤ 0 + (10 * σ 0 + (1 * v0 + 0)) ∧ ck_lk E 203 (0 + (10 * σ 0 + (1 * v0 + 0))) = 0 + (1 * v1 + 0)) ∧ ((0 : Int) ≤ 0 + (1 * v1 + 0) ∧ ck_lk E 81 (0 + (1 * v1 + 0)) = (-1) + (1 * σ 2 + 0)) ∧ True) := by
    rw [ck_lk_v (by decide)] at p0
    have hx := cb_ge p0 (by omega)
    rw [kc (i := σ 0) (by decide) (by omega)] at p1
    obtain ⟨h, a, b, c, d⟩ : ∃ h : Int, 0 ≤ h ∧ h ≤ 9 ∧ 0 ≤ vf_bh (σ 0) h ∧ vf_t E (vf_bh (σ 0) h) = vf_t E (σ 0) - 1 := by
      have hx9 : ck_loc (E 81) (σ 0) = 0 ∨ 1000000 ≤ ck_loc (E 81) (σ 0) ∨ ∃ h : Int, 0 ≤ h ∧ h ≤ 9 ∧ 0 ≤ vf_bh (σ 0) h ∧ vf_t E (vf_bh (σ 0) h) = vf_t E (σ 0) - 1 := hx (σ 0) (by omega) (by omega)
      rcases hx9 with h | h | h
      · omega
      · omega
      · exact h
    have ex := vf_lst_ex (Q := fun h => 0 ≤ vf_bh (σ 0) ((h : Int) - 1) ∧ vf_t E (vf_bh (σ 0) ((h : Int) - 1)) = vf_t E (σ 0) - 1) (n := h.toNat + 1) 10 1 (Nat.le_refl _) (by omega) (by omega) (by
      show 0 ≤ vf_bh (σ 0) (((h.toNat + 1 : Nat) : Int) - 1) ∧ vf_t E (vf_bh (σ 0) (((h.toNat + 1 : Nat) : Int) - 1)) = vf_t E (σ 0) - 1
      rw [show ((h.toNat + 1 : Nat) : Int) - 1 = h by omega]
      exact ⟨c, d⟩)
    have of := vf_lst_of (Q := fun h => 0 ≤ vf_bh (σ 0) ((h : Int) - 1) ∧ vf_t E (vf_bh (σ 0) ((h : Int) - 1)) = vf_t E (σ 0) - 1) 10 1 (Nat.le_refl _) ex.1
    have e102 : ck_lk E 102 (0 + (1 * σ 0 + 0)) = (vf_lst (fun h => 0 ≤ vf_bh (σ 0) ((h : Int) - 1) ∧ vf_t E (vf_bh (σ 0) ((h : Int) - 1)) = vf_t E (σ 0) - 1) 10 1 : Int) - 1 := by
      rw [show 0 + (1 * σ 0 + 0) = σ 0 by omega]
      exact ck_lk_v (by decide) _
    generalize vf_lst (fun h => 0 ≤ vf_bh (σ 0) ((h : Int) - 1) ∧ vf_t E (vf_bh (σ 0) ((h : Int) - 1)) = vf_t E (σ 0) - 1) 10 1 = R at ex of e102
    obtain ⟨o1, o2, o3, -⟩ := of
    have o3 : 0 ≤ vf_bh (σ 0) ((R : Int) - 1) ∧ ck_loc (E 81) (vf_bh (σ 0) ((R : Int) - 1)) = ck_loc (E 81) (σ 0) - 1 := o3
    have hb := vf_bhb (s := σ 0) (h := (R : Int) - 1) (by omega) (by omega) (by omega) (by omega)
    refine ⟨(R : Int) - 1, vf_bh (σ 0) ((R : Int) - 1), by omega, by omega, by omega, by omega, ⟨by omega, by omega⟩, ⟨by omega, ?_⟩, ⟨by omega, ?_⟩, trivial⟩
    · rw [k203 (s := σ 0) (h := (R : Int) - 1) (by omega) (by omega) (by omega)]; omega
    · rw [kc (i := vf_bh (σ 0) ((R : Int) - 1)) (by decide) (by omega)]; omega
  obtain ⟨v0, v1, k0, k1, k2, k3, k4, k5, k6, -⟩ := key
  exact ⟨_, (List.mem_of_getElem? (i := 0) rfl), (fun i => if i = 3 then v0 else if i = 4 then v1 else σ i), (fun i hi => by show (if i = 3 then v0 else if i = 4 then v1 else σ i) = σ i; rw [if_neg (show ¬ i = 3 by have : i < 3 := hi; omega), if_neg (show ¬ i = 4 by have : i < 3 := hi; omega)]), (List.forall_mem_cons.mpr ⟨k0, (List.forall_mem_cons.mpr ⟨k1, (List.forall_mem_cons.mpr ⟨k2, (List.forall_mem_cons.mpr ⟨k3, (fun _ h => absurd h List.not_mem_nil)⟩)⟩)⟩)⟩), (fun f hf => ck_wb_ok (List.all_eq_true.mp (show List.all _ (ck_wb 5) = true from rfl) f hf)), trivial, (List.forall_mem_cons.mpr ⟨⟨⟨ck_wb_ok rfl, ck_wb_ok rfl⟩, k4⟩, (List.forall_mem_cons.mpr ⟨⟨⟨ck_wb_ok rfl, ck_wb_ok rfl⟩, k5⟩, (List.forall_mem_cons.mpr ⟨⟨⟨ck_wb_ok rfl, ck_wb_ok rfl⟩, k6⟩, (fun _ h => absurd h List.not_mem_nil)⟩)⟩)⟩), (fun _ h => absurd h List.not_mem_nil)⟩
theorem ccH1 {l : Launch} {D : va_G} {kp : Nat → ClassId} : ck_con l D kp ck_NN ceH1 := ck_con_g rfl rpH1
theorem rpSO0 : ck_gcon ceSO0 := by
  intro σ E hgi hF hP hΦ
  have f0 : (0 : Int) ≤ 0 + (1 * σ 0 + 0) := hF _ (List.mem_of_getElem? (i := 0) rfl)
  have f1 : (0 : Int) ≤ 5 + ((-1) * σ 0 + 0) := hF _ (List.mem_of_getElem? (i := 1) rfl)
  have f2 : (0 : Int) ≤ 0 + (1 * σ 1 + 0) := hF _ (List.mem_of_getElem? (i := 2) rfl)
  have f3 : (0 : Int) ≤ 7 + ((-1) * σ 1 + 0) := hF _ (List.mem_of_getElem? (i := 3) rfl)
  have key : (((0 : Int) ≤ 0 + (1000 * σ 0 + (10 * σ 1 + 0)) ∧ ck_lk E 107 (0 + (1000 * σ 0 + (10 * σ 1 + 0))) = 0 + 0) ∧ True) := by
    refine ⟨⟨by omega, ?_⟩, trivial⟩
    rw [k107 (r := σ 0) (i := σ 1) (k := 0) (by omega) (by omega) (by omega) (by omega) (by omega)]
    rfl
  obtain ⟨k0, -⟩ := key
  exact ⟨_, (List.mem_of_getElem? (i := 0) rfl), σ, ck_ag_rf, (fun _ h => absurd h List.not_mem_nil), (fun _ h => absurd h List.not_mem_nil), trivial, (List.forall_mem_cons.mpr ⟨⟨⟨ck_wb_ok rfl, ck_wb_ok rfl⟩, k0⟩, (fun _ h => absurd h List.not_mem_nil)⟩), (fun _ h => absurd h List.not_mem_nil)⟩
theorem ccSO0 {l : Launch} {D : va_G} {kp : Nat → ClassId} : ck_con l D kp ck_NN ceSO0 := ck_con_g rfl rpSO0
theorem rpSO1a : ck_gcon ceSO1a := by
  intro σ E hgi hF hP hΦ
  have f0 : (0 : Int) ≤ 0 + (1 * σ 0 + 0) := hF _ (List.mem_of_getElem? (i := 0) rfl)
  have f1 : (0 : Int) ≤ 5 + ((-1) * σ 0 + 0) := hF _ (List.mem_of_getElem? (i := 1) rfl)
  have f2 : (0 : Int) ≤ 0 + (1 * σ 1 + 0) := hF _ (List.mem_of_getElem? (i := 2) rfl)
  have f3 : (0 : Int) ≤ 7 + ((-1) * σ 1 + 0) := hF _ (List.mem_of_getElem? (i := 3) rfl)
  have f4 : (0 : Int) ≤ 9 + ((-1) * σ 1 + (1 * σ 2 + 0)) := hF _ (List.mem_of_getElem? (i := 4) rfl)
  have f5 : (0 : Int) ≤ (-1) + (1 * σ 1 + ((-1) * σ 2 + 0)) := hF _ (List.mem_of_getElem? (i := 5) rfl)
  have f6 : (0 : Int) ≤ 0 + ((-1) * σ 4 + 0) := hF _ (List.mem_of_getElem? (i := 6) rfl)
  have p0 : ck_lk E 107 (9 + (1000 * σ 0 + (9 * σ 1 + (1 * σ 2 + 0)))) = 0 + (1 * σ 3 + 0) := (hP _ (List.mem_of_getElem? (i := 0) rfl)).2.2
  have q0 : (0 : Int) ≤ 9 + (1000 * σ 0 + (9 * σ 1 + (1 * σ 2 + 0))) := (hP _ (List.mem_of_getElem? (i := 0) rfl)).2.1
  have p1 : ck_lk E 84 (100000 + (1000000 * σ 0 + (1 * σ 2 + 0))) = 0 + (1 * σ 4 + 0) := (hP _ (List.mem_of_getElem? (i := 1) rfl)).2.2
  have q1 : (0 : Int) ≤ 100000 + (1000000 * σ 0 + (1 * σ 2 + 0)) := (hP _ (List.mem_of_getElem? (i := 1) rfl)).2.1
  have key : (((0 : Int) ≤ 10 + (1000 * σ 0 + (9 * σ 1 + (1 * σ 2 + 0))) ∧ ck_lk E 107 (10 + (1000 * σ 0 + (9 * σ 1 + (1 * σ 2 + 0)))) = 0 + (1 * σ 3 + 0)) ∧ True) := by
    rw [k107 (r := σ 0) (i := σ 1) (k := σ 2 - σ 1 + 9) (by omega) (by omega) (by omega) (by omega) (by omega)] at p0
    rw [k84 (r := σ 0) (t := σ 2) (by omega) (by omega) (by omega)] at p1
    refine ⟨⟨by omega, ?_⟩, trivial⟩
    rw [k107 (r := σ 0) (i := σ 1) (k := σ 2 - σ 1 + 9 + 1) (by omega) (by omega) (by omega) (by omega) (by omega), vf_so_s (by omega), if_neg (fun q => by omega)]
    exact p0
  obtain ⟨k0, -⟩ := key
  exact ⟨_, (List.mem_of_getElem? (i := 0) rfl), σ, ck_ag_rf, (fun _ h => absurd h List.not_mem_nil), (fun _ h => absurd h List.not_mem_nil), trivial, (List.forall_mem_cons.mpr ⟨⟨⟨ck_wb_ok rfl, ck_wb_ok rfl⟩, k0⟩, (fun _ h => absurd h List.not_mem_nil)⟩), (fun _ h => absurd h List.not_mem_nil)⟩
theorem ccSO1a {l : Launch} {D : va_G} {kp : Nat → ClassId} : ck_con l D kp ck_NN ceSO1a := ck_con_g rfl rpSO1a
theorem rpSO1b : ck_gcon ceSO1b := by
  intro σ E hgi hF hP hΦ
  have f0 : (0 : Int) ≤ 0 + (1 * σ 0 + 0) := hF _ (List.mem_of_getElem? (i := 0) rfl)
  have f1 : (0 : Int) ≤ 5 + ((-1) * σ 0 + 0) := hF _ (List.mem_of_getElem? (i := 1) rfl)
  have f2 : (0 : Int) ≤ 0 + (1 * σ 1 + 0) := hF _ (List.mem_of_getElem? (i := 2) rfl)
  have f3 : (0 : Int) ≤ 7 + ((-1) * σ 1 + 0) := hF _ (List.mem_of_getElem? (i := 3) rfl)
  have f4 : (0 : Int) ≤ 9 + ((-1) * σ 1 + (1 * σ 2 + 0)) := hF _ (List.mem_of_getElem? (i := 4) rfl)
  have f5 : (0 : Int) ≤ (-1) + (1 * σ 1 + ((-1) * σ 2 + 0)) := hF _ (List.mem_of_getElem? (i := 5) rfl)
  have f6 : (0 : Int) ≤ (-1) + (1 * σ 1 + ((-1) * σ 2 + ((-1) * σ 4 + 0))) := hF _ (List.mem_of_getElem? (i := 6) rfl)
  have p0 : ck_lk E 107 (9 + (1000 * σ 0 + (9 * σ 1 + (1 * σ 2 + 0)))) = 0 + (1 * σ 3 + 0) := (hP _ (List.mem_of_getElem? (i := 0) rfl)).2.2
  have q0 : (0 : Int) ≤ 9 + (1000 * σ 0 + (9 * σ 1 + (1 * σ 2 + 0))) := (hP _ (List.mem_of_getElem? (i := 0) rfl)).2.1
  have p1 : ck_lk E 84 (100000 + (1000000 * σ 0 + (1 * σ 2 + 0))) = 0 + (1 * σ 4 + 0) := (hP _ (List.mem_of_getElem? (i := 1) rfl)).2.2
  have q1 : (0 : Int) ≤ 100000 + (1000000 * σ 0 + (1 * σ 2 + 0)) := (hP _ (List.mem_of_getElem? (i := 1) rfl)).2.1
  have key : (((0 : Int) ≤ 10 + (1000 * σ 0 + (9 * σ 1 + (1 * σ 2 + 0))) ∧ ck_lk E 107 (10 + (1000 * σ 0 + (9 * σ 1 + (1 * σ 2 + 0)))) = 0 + (1 * σ 3 + 0)) ∧ True) := by
    rw [k107 (r := σ 0) (i := σ 1) (k := σ 2 - σ 1 + 9) (by omega) (by omega) (by omega) (by omega) (by omega)] at p0
    rw [k84 (r := σ 0) (t := σ 2) (by omega) (by omega) (by omega)] at p1
    refine ⟨⟨by omega, ?_⟩, trivial⟩
    rw [k107 (r := σ 0) (i := σ 1) (k := σ 2 - σ 1 + 9 + 1) (by omega) (by omega) (by omega) (by omega) (by omega), vf_so_s (by omega), if_neg (fun q => by omega)]
    exact p0
  obtain ⟨k0, -⟩ := key
  exact ⟨_, (List.mem_of_getElem? (i := 0) rfl), σ, ck_ag_rf, (fun _ h => absurd h List.not_mem_nil), (fun _ h => absurd h List.not_mem_nil), trivial, (List.forall_mem_cons.mpr ⟨⟨⟨ck_wb_ok rfl, ck_wb_ok rfl⟩, k0⟩, (fun _ h => absurd h List.not_mem_nil)⟩), (fun _ h => absurd h List.not_mem_nil)⟩
theorem ccSO1b {l : Launch} {D : va_G} {kp : Nat → ClassId} : ck_con l D kp ck_NN ceSO1b := ck_con_g rfl rpSO1b
theorem rpSO2 : ck_gcon ceSO2 := by
  intro σ E hgi hF hP hΦ
  have f0 : (0 : Int) ≤ 0 + (1 * σ 0 + 0) := hF _ (List.mem_of_getElem? (i := 0) rfl)
  have f1 : (0 : Int) ≤ 5 + ((-1) * σ 0 + 0) := hF _ (List.mem_of_getElem? (i := 1) rfl)
  have f2 : (0 : Int) ≤ 0 + (1 * σ 1 + 0) := hF _ (List.mem_of_getElem? (i := 2) rfl)
  have f3 : (0 : Int) ≤ 7 + ((-1) * σ 1 + 0) := hF _ (List.mem_of_getElem? (i := 3) rfl)
  have f4 : (0 : Int) ≤ 9 + ((-1) * σ 1 + (1 * σ 2 + 0)) := hF _ (List.mem_of_getElem? (i := 4) rfl)
  have f5 : (0 : Int) ≤ (-1) + (1 * σ 1 + ((-1) * σ 2 + 0)) := hF _ (List.mem_of_getElem? (i := 5) rfl)
  have f6 : (0 : Int) ≤ (-1) + (1 * σ 4 + 0) := hF _ (List.mem_of_getElem? (i := 6) rfl)
  have f7 : (0 : Int) ≤ 9 + ((-1) * σ 4 + 0) := hF _ (List.mem_of_getElem? (i := 7) rfl)
  have f8 : (0 : Int) ≤ 0 + ((-1) * σ 1 + (1 * σ 2 + (1 * σ 4 + 0))) := hF _ (List.mem_of_getElem? (i := 8) rfl)
  have f9 : (0 : Int) ≤ 0 + (1 * σ 3 + 0) := hF _ (List.mem_of_getElem? (i := 9) rfl)
  have f10 : (0 : Int) ≤ 511 + ((-1) * σ 3 + 0) := hF _ (List.mem_of_getElem? (i := 10) rfl)
  have f11 : (0 : Int) ≤ 0 + (1 * σ 5 + 0) := hF _ (List.mem_of_getElem? (i := 11) rfl)
  have f12 : (0 : Int) ≤ 511 + ((-1) * σ 5 + 0) := hF _ (List.mem_of_getElem? (i := 12) rfl)
  have p0 : ck_lk E 107 (9 + (1000 * σ 0 + (9 * σ 1 + (1 * σ 2 + 0)))) = 0 + (1 * σ 3 + 0) := (hP _ (List.mem_of_getElem? (i := 0) rfl)).2.2
  have q0 : (0 : Int) ≤ 9 + (1000 * σ 0 + (9 * σ 1 + (1 * σ 2 + 0))) := (hP _ (List.mem_of_getElem? (i := 0) rfl)).2.1
  have p1 : ck_lk E 84 (100000 + (1000000 * σ 0 + (1 * σ 2 + 0))) = 0 + (1 * σ 4 + 0) := (hP _ (List.mem_of_getElem? (i := 1) rfl)).2.2
  have q1 : (0 : Int) ≤ 100000 + (1000000 * σ 0 + (1 * σ 2 + 0)) := (hP _ (List.mem_of_getElem? (i := 1) rfl)).2.1
  have p2 : ck_lk E 206 (9223372043297226752 + ((-1) * σ 1 + (1 * σ 2 + (1 * σ 4 + 0)))) = 0 + (1 * σ 5 + 0) := (hP _ (List.mem_of_getElem? (i := 2) rfl)).2.2
  have q2 : (0 : Int) ≤ 9223372043297226752 + ((-1) * σ 1 + (1 * σ 2 + (1 * σ 4 + 0))) := (hP _ (List.mem_of_getElem? (i := 2) rfl)).2.1
  have p3 : ck_lk E 205 (9223372039002259456 + (4294967296 * σ 3 + (1 * σ 5 + 0))) = 0 + (1 * σ 6 + 0) := (hP _ (List.mem_of_getElem? (i := 3) rfl)).2.2
  have q3 : (0 : Int) ≤ 9223372039002259456 + (4294967296 * σ 3 + (1 * σ 5 + 0)) := (hP _ (List.mem_of_getElem? (i := 3) rfl)).2.1
  have key : (((0 : Int) ≤ 10 + (1000 * σ 0 + (9 * σ 1 + (1 * σ 2 + 0))) ∧ ck_lk E 107 (10 + (1000 * σ 0 + (9 * σ 1 + (1 * σ 2 + 0)))) = 0 + (1 * σ 6 + 0)) ∧ True) := by
    rw [k107 (r := σ 0) (i := σ 1) (k := σ 2 - σ 1 + 9) (by omega) (by omega) (by omega) (by omega) (by omega)] at p0
    rw [k84 (r := σ 0) (t := σ 2) (by omega) (by omega) (by omega)] at p1
    rw [k206 (a := 1) (b := σ 2 + σ 4 - σ 1) (by omega) (by omega) (by omega)] at p2
    rw [k205 (a := σ 3) (b := σ 5) (by omega) (by omega) (by omega)] at p3
    refine ⟨⟨by omega, ?_⟩, trivial⟩
    rw [k107 (r := σ 0) (i := σ 1) (k := σ 2 - σ 1 + 9 + 1) (by omega) (by omega) (by omega) (by omega) (by omega), vf_so_s (by omega), if_pos ⟨by omega, by omega⟩, p0, p1, show σ 2 + (0 + (1 * σ 4 + 0)) - σ 1 = σ 2 + σ 4 - σ 1 by omega, p2, show 0 + (1 * σ 3 + 0) = σ 3 by omega, show 0 + (1 * σ 5 + 0) = σ 5 by omega]
    exact p3
  obtain ⟨k0, -⟩ := key
  exact ⟨_, (List.mem_of_getElem? (i := 0) rfl), σ, ck_ag_rf, (fun _ h => absurd h List.not_mem_nil), (fun _ h => absurd h List.not_mem_nil), trivial, (List.forall_mem_cons.mpr ⟨⟨⟨ck_wb_ok rfl, ck_wb_ok rfl⟩, k0⟩, (fun _ h => absurd h List.not_mem_nil)⟩), (fun _ h => absurd h List.not_mem_nil)⟩
theorem ccSO2 {l : Launch} {D : va_G} {kp : Nat → ClassId} : ck_con l D kp ck_NN ceSO2 := ck_con_g rfl rpSO2
theorem rpFW_4_0 : ck_gcon ceFW_4_0 := by
  intro σ E hgi hF hP hΦ
  have f0 : (0 : Int) ≤ 0 + (1 * σ 0 + ((-1) * σ 1 + 0)) := hF _ (List.mem_of_getElem? (i := 0) rfl)
  have f1 : (0 : Int) ≤ 0 + ((-1) * σ 0 + (1 * σ 1 + 0)) := hF _ (List.mem_of_getElem? (i := 1) rfl)
  have f2 : (0 : Int) ≤ 0 + (1 * σ 2 + ((-1) * σ 3 + 0)) := hF _ (List.mem_of_getElem? (i := 2) rfl)
  have f3 : (0 : Int) ≤ 0 + ((-1) * σ 2 + (1 * σ 3 + 0)) := hF _ (List.mem_of_getElem? (i := 3) rfl)
  have f4 : (0 : Int) ≤ 0 + (1 * σ 4 + ((-1) * σ 10 + 0)) := hF _ (List.mem_of_getElem? (i := 4) rfl)
  have f5 : (0 : Int) ≤ 0 + ((-1) * σ 4 + (1 * σ 10 + 0)) := hF _ (List.mem_of_getElem? (i := 5) rfl)
  have f6 : (0 : Int) ≤ 0 + (1 * σ 5 + ((-1) * σ 11 + 0)) := hF _ (List.mem_of_getElem? (i := 6) rfl)
  have f7 : (0 : Int) ≤ 0 + ((-1) * σ 5 + (1 * σ 11 + 0)) := hF _ (List.mem_of_getElem? (i := 7) rfl)
  have f8 : (0 : Int) ≤ 0 + (1 * σ 6 + ((-1) * σ 12 + 0)) := hF _ (List.mem_of_getElem? (i := 8) rfl)
  have f9 : (0 : Int) ≤ 0 + ((-1) * σ 6 + (1 * σ 12 + 0)) := hF _ (List.mem_of_getElem? (i := 9) rfl)
  have f10 : (0 : Int) ≤ 0 + (1 * σ 7 + ((-1) * σ 13 + 0)) := hF _ (List.mem_of_getElem? (i := 10) rfl)
  have f11 : (0 : Int) ≤ 0 + ((-1) * σ 7 + (1 * σ 13 + 0)) := hF _ (List.mem_of_getElem? (i := 11) rfl)
  have f12 : (0 : Int) ≤ 0 + (1 * σ 8 + ((-1) * σ 14 + 0)) := hF _ (List.mem_of_getElem? (i := 12) rfl)
  have f13 : (0 : Int) ≤ 0 + ((-1) * σ 8 + (1 * σ 14 + 0)) := hF _ (List.mem_of_getElem? (i := 13) rfl)
  have f14 : (0 : Int) ≤ 0 + (1 * σ 9 + ((-1) * σ 15 + 0)) := hF _ (List.mem_of_getElem? (i := 14) rfl)
  have f15 : (0 : Int) ≤ 0 + ((-1) * σ 9 + (1 * σ 15 + 0)) := hF _ (List.mem_of_getElem? (i := 15) rfl)
  have p0 : ck_lk E 65 (4 + 0) = 0 + (1 * σ 0 + 0) := (hP _ (List.mem_of_getElem? (i := 0) rfl)).2.2
  have q0 : (0 : Int) ≤ 4 + 0 := (hP _ (List.mem_of_getElem? (i := 0) rfl)).2.1
  have p1 : ck_lk E 65 (0 + 0) = 0 + (1 * σ 1 + 0) := (hP _ (List.mem_of_getElem? (i := 1) rfl)).2.2
  have q1 : (0 : Int) ≤ 0 + 0 := (hP _ (List.mem_of_getElem? (i := 1) rfl)).2.1
  have p2 : ck_lk E 70 (9 + 0) = 0 + (1 * σ 2 + 0) := (hP _ (List.mem_of_getElem? (i := 2) rfl)).2.2
  have q2 : (0 : Int) ≤ 9 + 0 := (hP _ (List.mem_of_getElem? (i := 2) rfl)).2.1
  have p3 : ck_lk E 70 (1 + 0) = 0 + (1 * σ 3 + 0) := (hP _ (List.mem_of_getElem? (i := 3) rfl)).2.2
  have q3 : (0 : Int) ≤ 1 + 0 := (hP _ (List.mem_of_getElem? (i := 3) rfl)).2.1
  have p4 : ck_lk E 67 (24 + 0) = 0 + (1 * σ 4 + 0) := (hP _ (List.mem_of_getElem? (i := 4) rfl)).2.2
  have q4 : (0 : Int) ≤ 24 + 0 := (hP _ (List.mem_of_getElem? (i := 4) rfl)).2.1
  have p5 : ck_lk E 67 (25 + 0) = 0 + (1 * σ 5 + 0) := (hP _ (List.mem_of_getElem? (i := 5) rfl)).2.2
  have q5 : (0 : Int) ≤ 25 + 0 := (hP _ (List.mem_of_getElem? (i := 5) rfl)).2.1
  have p6 : ck_lk E 67 (26 + 0) = 0 + (1 * σ 6 + 0) := (hP _ (List.mem_of_getElem? (i := 6) rfl)).2.2
  have q6 : (0 : Int) ≤ 26 + 0 := (hP _ (List.mem_of_getElem? (i := 6) rfl)).2.1
  have p7 : ck_lk E 67 (27 + 0) = 0 + (1 * σ 7 + 0) := (hP _ (List.mem_of_getElem? (i := 7) rfl)).2.2
  have q7 : (0 : Int) ≤ 27 + 0 := (hP _ (List.mem_of_getElem? (i := 7) rfl)).2.1
  have p8 : ck_lk E 67 (28 + 0) = 0 + (1 * σ 8 + 0) := (hP _ (List.mem_of_getElem? (i := 8) rfl)).2.2
  have q8 : (0 : Int) ≤ 28 + 0 := (hP _ (List.mem_of_getElem? (i := 8) rfl)).2.1
  have p9 : ck_lk E 67 (29 + 0) = 0 + (1 * σ 9 + 0) := (hP _ (List.mem_of_getElem? (i := 9) rfl)).2.2
  have q9 : (0 : Int) ≤ 29 + 0 := (hP _ (List.mem_of_getElem? (i := 9) rfl)).2.1
  have p10 : ck_lk E 67 (0 + 0) = 0 + (1 * σ 10 + 0) := (hP _ (List.mem_of_getElem? (i := 10) rfl)).2.2
  have q10 : (0 : Int) ≤ 0 + 0 := (hP _ (List.mem_of_getElem? (i := 10) rfl)).2.1
  have p11 : ck_lk E 67 (1 + 0) = 0 + (1 * σ 11 + 0) := (hP _ (List.mem_of_getElem? (i := 11) rfl)).2.2
  have q11 : (0 : Int) ≤ 1 + 0 := (hP _ (List.mem_of_getElem? (i := 11) rfl)).2.1
  have p12 : ck_lk E 67 (2 + 0) = 0 + (1 * σ 12 + 0) := (hP _ (List.mem_of_getElem? (i := 12) rfl)).2.2
  have q12 : (0 : Int) ≤ 2 + 0 := (hP _ (List.mem_of_getElem? (i := 12) rfl)).2.1
  have p13 : ck_lk E 67 (3 + 0) = 0 + (1 * σ 13 + 0) := (hP _ (List.mem_of_getElem? (i := 13) rfl)).2.2
  have q13 : (0 : Int) ≤ 3 + 0 := (hP _ (List.mem_of_getElem? (i := 13) rfl)).2.1
  have p14 : ck_lk E 67 (4 + 0) = 0 + (1 * σ 14 + 0) := (hP _ (List.mem_of_getElem? (i := 14) rfl)).2.2
  have q14 : (0 : Int) ≤ 4 + 0 := (hP _ (List.mem_of_getElem? (i := 14) rfl)).2.1
  have p15 : ck_lk E 67 (5 + 0) = 0 + (1 * σ 15 + 0) := (hP _ (List.mem_of_getElem? (i := 15) rfl)).2.2
  have q15 : (0 : Int) ≤ 5 + 0 := (hP _ (List.mem_of_getElem? (i := 15) rfl)).2.1
  have g0 : ck_FL 14 E := hΦ _ (List.mem_of_getElem? (i := 0) rfl)
  have key : (ck_FL 0 E ∧ True) := by
    rw [kc (i := 4) (by decide) (by decide)] at p0
    rw [kc (i := 0) (by decide) (by decide)] at p1
    rw [kc (i := 9) (by decide) (by decide)] at p2
    rw [kc (i := 1) (by decide) (by decide)] at p3
    rw [kc (i := 24) (by decide) (by decide)] at p4
    rw [kc (i := 0) (by decide) (by decide)] at p10
    rw [kc (i := 25) (by decide) (by decide)] at p5
    rw [kc (i := 1) (by decide) (by decide)] at p11
    rw [kc (i := 26) (by decide) (by decide)] at p6
    rw [kc (i := 2) (by decide) (by decide)] at p12
    rw [kc (i := 27) (by decide) (by decide)] at p7
    rw [kc (i := 3) (by decide) (by decide)] at p13
    rw [kc (i := 28) (by decide) (by decide)] at p8
    rw [kc (i := 4) (by decide) (by decide)] at p14
    rw [kc (i := 29) (by decide) (by decide)] at p9
    rw [kc (i := 5) (by decide) (by decide)] at p15
    refine ⟨?_, trivial⟩
    unfold ck_FL at g0 ⊢
    rw [if_neg (by decide)] at g0
    rw [if_pos (by decide)]
    have g0 : ∀ r : Int, 0 ≤ r → r < 6 → 1 ≤ ck_loc (E 67) (24 + r) := g0
    refine Or.inr ?_
    have h := g0
    intro r r0 r6
    show 1 ≤ ck_loc (E 67) (0 + r)
    have y0 : 1 ≤ ck_loc (E 67) 24 := h 0 (by decide) (by decide)
    have y1 : 1 ≤ ck_loc (E 67) 25 := h 1 (by decide) (by decide)
    have y2 : 1 ≤ ck_loc (E 67) 26 := h 2 (by decide) (by decide)
    have y3 : 1 ≤ ck_loc (E 67) 27 := h 3 (by decide) (by decide)
    have y4 : 1 ≤ ck_loc (E 67) 28 := h 4 (by decide) (by decide)
    have y5 : 1 ≤ ck_loc (E 67) 29 := h 5 (by decide) (by decide)
    have hr : r = 0 ∨ r = 1 ∨ r = 2 ∨ r = 3 ∨ r = 4 ∨ r = 5 := by omega
    rcases hr with rfl | rfl | rfl | rfl | rfl | rfl
    · show 1 ≤ ck_loc (E 67) 0
      omega
    · show 1 ≤ ck_loc (E 67) 1
      omega
    · show 1 ≤ ck_loc (E 67) 2
      omega
    · show 1 ≤ ck_loc (E 67) 3
      omega
    · show 1 ≤ ck_loc (E 67) 4
      omega
    · show 1 ≤ ck_loc (E 67) 5
      omega
  obtain ⟨k0, -⟩ := key
  exact ⟨_, (List.mem_of_getElem? (i := 0) rfl), σ, ck_ag_rf, (fun _ h => absurd h List.not_mem_nil), (fun _ h => absurd h List.not_mem_nil), trivial, (fun _ h => absurd h List.not_mem_nil), (List.forall_mem_cons.mpr ⟨k0, (fun _ h => absurd h List.not_mem_nil)⟩)⟩
theorem ccFW_4_0 {l : Launch} {D : va_G} {kp : Nat → ClassId} : ck_con l D kp ck_NN ceFW_4_0 := ck_con_g rfl rpFW_4_0
theorem rpFW_0_5 : ck_gcon ceFW_0_5 := by
  intro σ E hgi hF hP hΦ
  have f0 : (0 : Int) ≤ 0 + (1 * σ 0 + ((-1) * σ 1 + 0)) := hF _ (List.mem_of_getElem? (i := 0) rfl)
  have f1 : (0 : Int) ≤ 0 + ((-1) * σ 0 + (1 * σ 1 + 0)) := hF _ (List.mem_of_getElem? (i := 1) rfl)
  have f2 : (0 : Int) ≤ 0 + (1 * σ 2 + ((-1) * σ 3 + 0)) := hF _ (List.mem_of_getElem? (i := 2) rfl)
  have f3 : (0 : Int) ≤ 0 + ((-1) * σ 2 + (1 * σ 3 + 0)) := hF _ (List.mem_of_getElem? (i := 3) rfl)
  have f4 : (0 : Int) ≤ 0 + (1 * σ 4 + ((-1) * σ 10 + 0)) := hF _ (List.mem_of_getElem? (i := 4) rfl)
  have f5 : (0 : Int) ≤ 0 + ((-1) * σ 4 + (1 * σ 10 + 0)) := hF _ (List.mem_of_getElem? (i := 5) rfl)
  have f6 : (0 : Int) ≤ 0 + (1 * σ 5 + ((-1) * σ 11 + 0)) := hF _ (List.mem_of_getElem? (i := 6) rfl)
  have f7 : (0 : Int) ≤ 0 + ((-1) * σ 5 + (1 * σ 11 + 0)) := hF _ (List.mem_of_getElem? (i := 7) rfl)
  have f8 : (0 : Int) ≤ 0 + (1 * σ 6 + ((-1) * σ 12 + 0)) := hF _ (List.mem_of_getElem? (i := 8) rfl)
  have f9 : (0 : Int) ≤ 0 + ((-1) * σ 6 + (1 * σ 12 + 0)) := hF _ (List.mem_of_getElem? (i := 9) rfl)
  have f10 : (0 : Int) ≤ 0 + (1 * σ 7 + ((-1) * σ 13 + 0)) := hF _ (List.mem_of_getElem? (i := 10) rfl)
  have f11 : (0 : Int) ≤ 0 + ((-1) * σ 7 + (1 * σ 13 + 0)) := hF _ (List.mem_of_getElem? (i := 11) rfl)
  have f12 : (0 : Int) ≤ 0 + (1 * σ 8 + ((-1) * σ 14 + 0)) := hF _ (List.mem_of_getElem? (i := 12) rfl)
  have f13 : (0 : Int) ≤ 0 + ((-1) * σ 8 + (1 * σ 14 + 0)) := hF _ (List.mem_of_getElem? (i := 13) rfl)
  have f14 : (0 : Int) ≤ 0 + (1 * σ 9 + ((-1) * σ 15 + 0)) := hF _ (List.mem_of_getElem? (i := 14) rfl)
  have f15 : (0 : Int) ≤ 0 + ((-1) * σ 9 + (1 * σ 15 + 0)) := hF _ (List.mem_of_getElem? (i := 15) rfl)
  have p0 : ck_lk E 65 (0 + 0) = 0 + (1 * σ 0 + 0) := (hP _ (List.mem_of_getElem? (i := 0) rfl)).2.2
  have q0 : (0 : Int) ≤ 0 + 0 := (hP _ (List.mem_of_getElem? (i := 0) rfl)).2.1
  have p1 : ck_lk E 65 (5 + 0) = 0 + (1 * σ 1 + 0) := (hP _ (List.mem_of_getElem? (i := 1) rfl)).2.2
  have q1 : (0 : Int) ≤ 5 + 0 := (hP _ (List.mem_of_getElem? (i := 1) rfl)).2.1
  have p2 : ck_lk E 70 (1 + 0) = 0 + (1 * σ 2 + 0) := (hP _ (List.mem_of_getElem? (i := 2) rfl)).2.2
  have q2 : (0 : Int) ≤ 1 + 0 := (hP _ (List.mem_of_getElem? (i := 2) rfl)).2.1
  have p3 : ck_lk E 70 (11 + 0) = 0 + (1 * σ 3 + 0) := (hP _ (List.mem_of_getElem? (i := 3) rfl)).2.2
  have q3 : (0 : Int) ≤ 11 + 0 := (hP _ (List.mem_of_getElem? (i := 3) rfl)).2.1
  have p4 : ck_lk E 67 (0 + 0) = 0 + (1 * σ 4 + 0) := (hP _ (List.mem_of_getElem? (i := 4) rfl)).2.2
  have q4 : (0 : Int) ≤ 0 + 0 := (hP _ (List.mem_of_getElem? (i := 4) rfl)).2.1
  have p5 : ck_lk E 67 (1 + 0) = 0 + (1 * σ 5 + 0) := (hP _ (List.mem_of_getElem? (i := 5) rfl)).2.2
  have q5 : (0 : Int) ≤ 1 + 0 := (hP _ (List.mem_of_getElem? (i := 5) rfl)).2.1
  have p6 : ck_lk E 67 (2 + 0) = 0 + (1 * σ 6 + 0) := (hP _ (List.mem_of_getElem? (i := 6) rfl)).2.2
  have q6 : (0 : Int) ≤ 2 + 0 := (hP _ (List.mem_of_getElem? (i := 6) rfl)).2.1
  have p7 : ck_lk E 67 (3 + 0) = 0 + (1 * σ 7 + 0) := (hP _ (List.mem_of_getElem? (i := 7) rfl)).2.2
  have q7 : (0 : Int) ≤ 3 + 0 := (hP _ (List.mem_of_getElem? (i := 7) rfl)).2.1
  have p8 : ck_lk E 67 (4 + 0) = 0 + (1 * σ 8 + 0) := (hP _ (List.mem_of_getElem? (i := 8) rfl)).2.2
  have q8 : (0 : Int) ≤ 4 + 0 := (hP _ (List.mem_of_getElem? (i := 8) rfl)).2.1
  have p9 : ck_lk E 67 (5 + 0) = 0 + (1 * σ 9 + 0) := (hP _ (List.mem_of_getElem? (i := 9) rfl)).2.2
  have q9 : (0 : Int) ≤ 5 + 0 := (hP _ (List.mem_of_getElem? (i := 9) rfl)).2.1
  have p10 : ck_lk E 67 (30 + 0) = 0 + (1 * σ 10 + 0) := (hP _ (List.mem_of_getElem? (i := 10) rfl)).2.2
  have q10 : (0 : Int) ≤ 30 + 0 := (hP _ (List.mem_of_getElem? (i := 10) rfl)).2.1
  have p11 : ck_lk E 67 (31 + 0) = 0 + (1 * σ 11 + 0) := (hP _ (List.mem_of_getElem? (i := 11) rfl)).2.2
  have q11 : (0 : Int) ≤ 31 + 0 := (hP _ (List.mem_of_getElem? (i := 11) rfl)).2.1
  have p12 : ck_lk E 67 (32 + 0) = 0 + (1 * σ 12 + 0) := (hP _ (List.mem_of_getElem? (i := 12) rfl)).2.2
  have q12 : (0 : Int) ≤ 32 + 0 := (hP _ (List.mem_of_getElem? (i := 12) rfl)).2.1
  have p13 : ck_lk E 67 (33 + 0) = 0 + (1 * σ 13 + 0) := (hP _ (List.mem_of_getElem? (i := 13) rfl)).2.2
  have q13 : (0 : Int) ≤ 33 + 0 := (hP _ (List.mem_of_getElem? (i := 13) rfl)).2.1
  have p14 : ck_lk E 67 (34 + 0) = 0 + (1 * σ 14 + 0) := (hP _ (List.mem_of_getElem? (i := 14) rfl)).2.2
  have q14 : (0 : Int) ≤ 34 + 0 := (hP _ (List.mem_of_getElem? (i := 14) rfl)).2.1
  have p15 : ck_lk E 67 (35 + 0) = 0 + (1 * σ 15 + 0) := (hP _ (List.mem_of_getElem? (i := 15) rfl)).2.2
  have q15 : (0 : Int) ≤ 35 + 0 := (hP _ (List.mem_of_getElem? (i := 15) rfl)).2.1
  have g0 : ck_FL 0 E := hΦ _ (List.mem_of_getElem? (i := 0) rfl)
  have key : (ck_FL 5 E ∧ True) := by
    rw [kc (i := 0) (by decide) (by decide)] at p0
    rw [kc (i := 5) (by decide) (by decide)] at p1
    rw [kc (i := 1) (by decide) (by decide)] at p2
    rw [kc (i := 11) (by decide) (by decide)] at p3
    rw [kc (i := 0) (by decide) (by decide)] at p4
    rw [kc (i := 30) (by decide) (by decide)] at p10
    rw [kc (i := 1) (by decide) (by decide)] at p5
    rw [kc (i := 31) (by decide) (by decide)] at p11
    rw [kc (i := 2) (by decide) (by decide)] at p6
    rw [kc (i := 32) (by decide) (by decide)] at p12
    rw [kc (i := 3) (by decide) (by decide)] at p7
    rw [kc (i := 33) (by decide) (by decide)] at p13
    rw [kc (i := 4) (by decide) (by decide)] at p8
    rw [kc (i := 34) (by decide) (by decide)] at p14
    rw [kc (i := 5) (by decide) (by decide)] at p9
    rw [kc (i := 35) (by decide) (by decide)] at p15
    refine ⟨?_, trivial⟩
    unfold ck_FL at g0 ⊢
    rw [if_pos (by decide)] at g0
    rw [if_pos (by decide)]
    have g0 : (ck_loc (E 65) 0 = 0 ∧ ck_loc (E 70) 1 = 0) ∨ ∀ r : Int, 0 ≤ r → r < 6 → 1 ≤ ck_loc (E 67) (0 + r) := g0
    rcases g0 with ⟨z1, z2⟩ | h
    · refine Or.inl ⟨?_, ?_⟩
      · show ck_loc (E 65) 5 = 0
        omega
      · show ck_loc (E 70) 11 = 0
        omega
    refine Or.inr ?_
    intro r r0 r6
    show 1 ≤ ck_loc (E 67) (30 + r)
    have y0 : 1 ≤ ck_loc (E 67) 0 := h 0 (by decide) (by decide)
    have y1 : 1 ≤ ck_loc (E 67) 1 := h 1 (by decide) (by decide)
    have y2 : 1 ≤ ck_loc (E 67) 2 := h 2 (by decide) (by decide)
    have y3 : 1 ≤ ck_loc (E 67) 3 := h 3 (by decide) (by decide)
    have y4 : 1 ≤ ck_loc (E 67) 4 := h 4 (by decide) (by decide)
    have y5 : 1 ≤ ck_loc (E 67) 5 := h 5 (by decide) (by decide)
    have hr : r = 0 ∨ r = 1 ∨ r = 2 ∨ r = 3 ∨ r = 4 ∨ r = 5 := by omega
    rcases hr with rfl | rfl | rfl | rfl | rfl | rfl
    · show 1 ≤ ck_loc (E 67) 30
      omega
    · show 1 ≤ ck_loc (E 67) 31
      omega
    · show 1 ≤ ck_loc (E 67) 32
      omega
    · show 1 ≤ ck_loc (E 67) 33
      omega
    · show 1 ≤ ck_loc (E 67) 34
      omega
    · show 1 ≤ ck_loc (E 67) 35
      omega
  obtain ⟨k0, -⟩ := key
  exact ⟨_, (List.mem_of_getElem? (i := 0) rfl), σ, ck_ag_rf, (fun _ h => absurd h List.not_mem_nil), (fun _ h => absurd h List.not_mem_nil), trivial, (fun _ h => absurd h List.not_mem_nil), (List.forall_mem_cons.mpr ⟨k0, (fun _ h => absurd h List.not_mem_nil)⟩)⟩
theorem ccFW_0_5 {l : Launch} {D : va_G} {kp : Nat → ClassId} : ck_con l D kp ck_NN ceFW_0_5 := ck_con_g rfl rpFW_0_5
theorem rpFW_5_0 : ck_gcon ceFW_5_0 := by
  intro σ E hgi hF hP hΦ
  have f0 : (0 : Int) ≤ 0 + (1 * σ 0 + ((-1) * σ 1 + 0)) := hF _ (List.mem_of_getElem? (i := 0) rfl)
  have f1 : (0 : Int) ≤ 0 + ((-1) * σ 0 + (1 * σ 1 + 0)) := hF _ (List.mem_of_getElem? (i := 1) rfl)
  have f2 : (0 : Int) ≤ 0 + (1 * σ 2 + ((-1) * σ 3 + 0)) := hF _ (List.mem_of_getElem? (i := 2) rfl)
  have f3 : (0 : Int) ≤ 0 + ((-1) * σ 2 + (1 * σ 3 + 0)) := hF _ (List.mem_of_getElem? (i := 3) rfl)
  have f4 : (0 : Int) ≤ 0 + (1 * σ 4 + ((-1) * σ 10 + 0)) := hF _ (List.mem_of_getElem? (i := 4) rfl)
  have f5 : (0 : Int) ≤ 0 + ((-1) * σ 4 + (1 * σ 10 + 0)) := hF _ (List.mem_of_getElem? (i := 5) rfl)
  have f6 : (0 : Int) ≤ 0 + (1 * σ 5 + ((-1) * σ 11 + 0)) := hF _ (List.mem_of_getElem? (i := 6) rfl)
  have f7 : (0 : Int) ≤ 0 + ((-1) * σ 5 + (1 * σ 11 + 0)) := hF _ (List.mem_of_getElem? (i := 7) rfl)
  have f8 : (0 : Int) ≤ 0 + (1 * σ 6 + ((-1) * σ 12 + 0)) := hF _ (List.mem_of_getElem? (i := 8) rfl)
  have f9 : (0 : Int) ≤ 0 + ((-1) * σ 6 + (1 * σ 12 + 0)) := hF _ (List.mem_of_getElem? (i := 9) rfl)
  have f10 : (0 : Int) ≤ 0 + (1 * σ 7 + ((-1) * σ 13 + 0)) := hF _ (List.mem_of_getElem? (i := 10) rfl)
  have f11 : (0 : Int) ≤ 0 + ((-1) * σ 7 + (1 * σ 13 + 0)) := hF _ (List.mem_of_getElem? (i := 11) rfl)
  have f12 : (0 : Int) ≤ 0 + (1 * σ 8 + ((-1) * σ 14 + 0)) := hF _ (List.mem_of_getElem? (i := 12) rfl)
  have f13 : (0 : Int) ≤ 0 + ((-1) * σ 8 + (1 * σ 14 + 0)) := hF _ (List.mem_of_getElem? (i := 13) rfl)
  have f14 : (0 : Int) ≤ 0 + (1 * σ 9 + ((-1) * σ 15 + 0)) := hF _ (List.mem_of_getElem? (i := 14) rfl)
  have f15 : (0 : Int) ≤ 0 + ((-1) * σ 9 + (1 * σ 15 + 0)) := hF _ (List.mem_of_getElem? (i := 15) rfl)
  have p0 : ck_lk E 65 (5 + 0) = 0 + (1 * σ 0 + 0) := (hP _ (List.mem_of_getElem? (i := 0) rfl)).2.2
  have q0 : (0 : Int) ≤ 5 + 0 := (hP _ (List.mem_of_getElem? (i := 0) rfl)).2.1
  have p1 : ck_lk E 65 (0 + 0) = 0 + (1 * σ 1 + 0) := (hP _ (List.mem_of_getElem? (i := 1) rfl)).2.2
  have q1 : (0 : Int) ≤ 0 + 0 := (hP _ (List.mem_of_getElem? (i := 1) rfl)).2.1
  have p2 : ck_lk E 70 (11 + 0) = 0 + (1 * σ 2 + 0) := (hP _ (List.mem_of_getElem? (i := 2) rfl)).2.2
  have q2 : (0 : Int) ≤ 11 + 0 := (hP _ (List.mem_of_getElem? (i := 2) rfl)).2.1
  have p3 : ck_lk E 70 (1 + 0) = 0 + (1 * σ 3 + 0) := (hP _ (List.mem_of_getElem? (i := 3) rfl)).2.2
  have q3 : (0 : Int) ≤ 1 + 0 := (hP _ (List.mem_of_getElem? (i := 3) rfl)).2.1
  have p4 : ck_lk E 67 (30 + 0) = 0 + (1 * σ 4 + 0) := (hP _ (List.mem_of_getElem? (i := 4) rfl)).2.2
  have q4 : (0 : Int) ≤ 30 + 0 := (hP _ (List.mem_of_getElem? (i := 4) rfl)).2.1
  have p5 : ck_lk E 67 (31 + 0) = 0 + (1 * σ 5 + 0) := (hP _ (List.mem_of_getElem? (i := 5) rfl)).2.2
  have q5 : (0 : Int) ≤ 31 + 0 := (hP _ (List.mem_of_getElem? (i := 5) rfl)).2.1
  have p6 : ck_lk E 67 (32 + 0) = 0 + (1 * σ 6 + 0) := (hP _ (List.mem_of_getElem? (i := 6) rfl)).2.2
  have q6 : (0 : Int) ≤ 32 + 0 := (hP _ (List.mem_of_getElem? (i := 6) rfl)).2.1
  have p7 : ck_lk E 67 (33 + 0) = 0 + (1 * σ 7 + 0) := (hP _ (List.mem_of_getElem? (i := 7) rfl)).2.2
  have q7 : (0 : Int) ≤ 33 + 0 := (hP _ (List.mem_of_getElem? (i := 7) rfl)).2.1
  have p8 : ck_lk E 67 (34 + 0) = 0 + (1 * σ 8 + 0) := (hP _ (List.mem_of_getElem? (i := 8) rfl)).2.2
  have q8 : (0 : Int) ≤ 34 + 0 := (hP _ (List.mem_of_getElem? (i := 8) rfl)).2.1
  have p9 : ck_lk E 67 (35 + 0) = 0 + (1 * σ 9 + 0) := (hP _ (List.mem_of_getElem? (i := 9) rfl)).2.2
  have q9 : (0 : Int) ≤ 35 + 0 := (hP _ (List.mem_of_getElem? (i := 9) rfl)).2.1
  have p10 : ck_lk E 67 (0 + 0) = 0 + (1 * σ 10 + 0) := (hP _ (List.mem_of_getElem? (i := 10) rfl)).2.2
  have q10 : (0 : Int) ≤ 0 + 0 := (hP _ (List.mem_of_getElem? (i := 10) rfl)).2.1
  have p11 : ck_lk E 67 (1 + 0) = 0 + (1 * σ 11 + 0) := (hP _ (List.mem_of_getElem? (i := 11) rfl)).2.2
  have q11 : (0 : Int) ≤ 1 + 0 := (hP _ (List.mem_of_getElem? (i := 11) rfl)).2.1
  have p12 : ck_lk E 67 (2 + 0) = 0 + (1 * σ 12 + 0) := (hP _ (List.mem_of_getElem? (i := 12) rfl)).2.2
  have q12 : (0 : Int) ≤ 2 + 0 := (hP _ (List.mem_of_getElem? (i := 12) rfl)).2.1
  have p13 : ck_lk E 67 (3 + 0) = 0 + (1 * σ 13 + 0) := (hP _ (List.mem_of_getElem? (i := 13) rfl)).2.2
  have q13 : (0 : Int) ≤ 3 + 0 := (hP _ (List.mem_of_getElem? (i := 13) rfl)).2.1
  have p14 : ck_lk E 67 (4 + 0) = 0 + (1 * σ 14 + 0) := (hP _ (List.mem_of_getElem? (i := 14) rfl)).2.2
  have q14 : (0 : Int) ≤ 4 + 0 := (hP _ (List.mem_of_getElem? (i := 14) rfl)).2.1
  have p15 : ck_lk E 67 (5 + 0) = 0 + (1 * σ 15 + 0) := (hP _ (List.mem_of_getElem? (i := 15) rfl)).2.2
  have q15 : (0 : Int) ≤ 5 + 0 := (hP _ (List.mem_of_getElem? (i := 15) rfl)).2.1
  have g0 : ck_FL 5 E := hΦ _ (List.mem_of_getElem? (i := 0) rfl)
  have key : (ck_FL 0 E ∧ True) := by
    rw [kc (i := 5) (by decide) (by decide)] at p0
    rw [kc (i := 0) (by decide) (by decide)] at p1
    rw [kc (i := 11) (by decide) (by decide)] at p2
    rw [kc (i := 1) (by decide) (by decide)] at p3
    rw [kc (i := 30) (by decide) (by decide)] at p4
    rw [kc (i := 0) (by decide) (by decide)] at p10
    rw [kc (i := 31) (by decide) (by decide)] at p5
    rw [kc (i := 1) (by decide) (by decide)] at p11
    rw [kc (i := 32) (by decide) (by decide)] at p6
    rw [kc (i := 2) (by decide) (by decide)] at p12
    rw [kc (i := 33) (by decide) (by decide)] at p7
    rw [kc (i := 3) (by decide) (by decide)] at p13
    rw [kc (i := 34) (by decide) (by decide)] at p8
    rw [kc (i := 4) (by decide) (by decide)] at p14
    rw [kc (i := 35) (by decide) (by decide)] at p9
    rw [kc (i := 5) (by decide) (by decide)] at p15
    refine ⟨?_, trivial⟩
    unfold ck_FL at g0 ⊢
    rw [if_pos (by decide)] at g0
    rw [if_pos (by decide)]
    have g0 : (ck_loc (E 65) 5 = 0 ∧ ck_loc (E 70) 11 = 0) ∨ ∀ r : Int, 0 ≤ r → r < 6 → 1 ≤ ck_loc (E 67) (30 + r) := g0
    rcases g0 with ⟨z1, z2⟩ | h
    · refine Or.inl ⟨?_, ?_⟩
      · show ck_loc (E 65) 0 = 0
        omega
      · show ck_loc (E 70) 1 = 0
        omega
    refine Or.inr ?_
    intro r r0 r6
    show 1 ≤ ck_loc (E 67) (0 + r)
    have y0 : 1 ≤ ck_loc (E 67) 30 := h 0 (by decide) (by decide)
    have y1 : 1 ≤ ck_loc (E 67) 31 := h 1 (by decide) (by decide)
    have y2 : 1 ≤ ck_loc (E 67) 32 := h 2 (by decide) (by decide)
    have y3 : 1 ≤ ck_loc (E 67) 33 := h 3 (by decide) (by decide)
    have y4 : 1 ≤ ck_loc (E 67) 34 := h 4 (by decide) (by decide)
    have y5 : 1 ≤ ck_loc (E 67) 35 := h 5 (by decide) (by decide)
    have hr : r = 0 ∨ r = 1 ∨ r = 2 ∨ r = 3 ∨ r = 4 ∨ r = 5 := by omega
    rcases hr with rfl | rfl | rfl | rfl | rfl | rfl
    · show 1 ≤ ck_loc (E 67) 0
      omega
    · show 1 ≤ ck_loc (E 67) 1
      omega
    · show 1 ≤ ck_loc (E 67) 2
      omega
    · show 1 ≤ ck_loc (E 67) 3
      omega
    · show 1 ≤ ck_loc (E 67) 4
      omega
    · show 1 ≤ ck_loc (E 67) 5
      omega
  obtain ⟨k0, -⟩ := key
  exact ⟨_, (List.mem_of_getElem? (i := 0) rfl), σ, ck_ag_rf, (fun _ h => absurd h List.not_mem_nil), (fun _ h => absurd h List.not_mem_nil), trivial, (fun _ h => absurd h List.not_mem_nil), (List.forall_mem_cons.mpr ⟨k0, (fun _ h => absurd h List.not_mem_nil)⟩)⟩
theorem ccFW_5_0 {l : Launch} {D : va_G} {kp : Nat → ClassId} : ck_con l D kp ck_NN ceFW_5_0 := ck_con_g rfl rpFW_5_0
theorem rpFW_0_1 : ck_gcon ceFW_0_1 := by
  intro σ E hgi hF hP hΦ
  have f0 : (0 : Int) ≤ 0 + (1 * σ 0 + ((-1) * σ 1 + 0)) := hF _ (List.mem_of_getElem? (i := 0) rfl)
  have f1 : (0 : Int) ≤ 0 + ((-1) * σ 0 + (1 * σ 1 + 0)) := hF _ (List.mem_of_getElem? (i := 1) rfl)
  have f2 : (0 : Int) ≤ 0 + (1 * σ 2 + ((-1) * σ 3 + 0)) := hF _ (List.mem_of_getElem? (i := 2) rfl)
  have f3 : (0 : Int) ≤ 0 + ((-1) * σ 2 + (1 * σ 3 + 0)) := hF _ (List.mem_of_getElem? (i := 3) rfl)
  have f4 : (0 : Int) ≤ 0 + (1 * σ 4 + ((-1) * σ 10 + 0)) := hF _ (List.mem_of_getElem? (i := 4) rfl)
  have f5 : (0 : Int) ≤ 0 + ((-1) * σ 4 + (1 * σ 10 + 0)) := hF _ (List.mem_of_getElem? (i := 5) rfl)
  have f6 : (0 : Int) ≤ 0 + (1 * σ 5 + ((-1) * σ 11 + 0)) := hF _ (List.mem_of_getElem? (i := 6) rfl)
  have f7 : (0 : Int) ≤ 0 + ((-1) * σ 5 + (1 * σ 11 + 0)) := hF _ (List.mem_of_getElem? (i := 7) rfl)
  have f8 : (0 : Int) ≤ 0 + (1 * σ 6 + ((-1) * σ 12 + 0)) := hF _ (List.mem_of_getElem? (i := 8) rfl)
  have f9 : (0 : Int) ≤ 0 + ((-1) * σ 6 + (1 * σ 12 + 0)) := hF _ (List.mem_of_getElem? (i := 9) rfl)
  have f10 : (0 : Int) ≤ 0 + (1 * σ 7 + ((-1) * σ 13 + 0)) := hF _ (List.mem_of_getElem? (i := 10) rfl)
  have f11 : (0 : Int) ≤ 0 + ((-1) * σ 7 + (1 * σ 13 + 0)) := hF _ (List.mem_of_getElem? (i := 11) rfl)
  have f12 : (0 : Int) ≤ 0 + (1 * σ 8 + ((-1) * σ 14 + 0)) := hF _ (List.mem_of_getElem? (i := 12) rfl)
  have f13 : (0 : Int) ≤ 0 + ((-1) * σ 8 + (1 * σ 14 + 0)) := hF _ (List.mem_of_getElem? (i := 13) rfl)
  have f14 : (0 : Int) ≤ 0 + (1 * σ 9 + ((-1) * σ 15 + 0)) := hF _ (List.mem_of_getElem? (i := 14) rfl)
  have f15 : (0 : Int) ≤ 0 + ((-1) * σ 9 + (1 * σ 15 + 0)) := hF _ (List.mem_of_getElem? (i := 15) rfl)
  have p0 : ck_lk E 65 (0 + 0) = 0 + (1 * σ 0 + 0) := (hP _ (List.mem_of_getElem? (i := 0) rfl)).2.2
  have q0 : (0 : Int) ≤ 0 + 0 := (hP _ (List.mem_of_getElem? (i := 0) rfl)).2.1
  have p1 : ck_lk E 65 (1 + 0) = 0 + (1 * σ 1 + 0) := (hP _ (List.mem_of_getElem? (i := 1) rfl)).2.2
  have q1 : (0 : Int) ≤ 1 + 0 := (hP _ (List.mem_of_getElem? (i := 1) rfl)).2.1
  have p2 : ck_lk E 70 (1 + 0) = 0 + (1 * σ 2 + 0) := (hP _ (List.mem_of_getElem? (i := 2) rfl)).2.2
  have q2 : (0 : Int) ≤ 1 + 0 := (hP _ (List.mem_of_getElem? (i := 2) rfl)).2.1
  have p3 : ck_lk E 70 (3 + 0) = 0 + (1 * σ 3 + 0) := (hP _ (List.mem_of_getElem? (i := 3) rfl)).2.2
  have q3 : (0 : Int) ≤ 3 + 0 := (hP _ (List.mem_of_getElem? (i := 3) rfl)).2.1
  have p4 : ck_lk E 67 (0 + 0) = 0 + (1 * σ 4 + 0) := (hP _ (List.mem_of_getElem? (i := 4) rfl)).2.2
  have q4 : (0 : Int) ≤ 0 + 0 := (hP _ (List.mem_of_getElem? (i := 4) rfl)).2.1
  have p5 : ck_lk E 67 (1 + 0) = 0 + (1 * σ 5 + 0) := (hP _ (List.mem_of_getElem? (i := 5) rfl)).2.2
  have q5 : (0 : Int) ≤ 1 + 0 := (hP _ (List.mem_of_getElem? (i := 5) rfl)).2.1
  have p6 : ck_lk E 67 (2 + 0) = 0 + (1 * σ 6 + 0) := (hP _ (List.mem_of_getElem? (i := 6) rfl)).2.2
  have q6 : (0 : Int) ≤ 2 + 0 := (hP _ (List.mem_of_getElem? (i := 6) rfl)).2.1
  have p7 : ck_lk E 67 (3 + 0) = 0 + (1 * σ 7 + 0) := (hP _ (List.mem_of_getElem? (i := 7) rfl)).2.2
  have q7 : (0 : Int) ≤ 3 + 0 := (hP _ (List.mem_of_getElem? (i := 7) rfl)).2.1
  have p8 : ck_lk E 67 (4 + 0) = 0 + (1 * σ 8 + 0) := (hP _ (List.mem_of_getElem? (i := 8) rfl)).2.2
  have q8 : (0 : Int) ≤ 4 + 0 := (hP _ (List.mem_of_getElem? (i := 8) rfl)).2.1
  have p9 : ck_lk E 67 (5 + 0) = 0 + (1 * σ 9 + 0) := (hP _ (List.mem_of_getElem? (i := 9) rfl)).2.2
  have q9 : (0 : Int) ≤ 5 + 0 := (hP _ (List.mem_of_getElem? (i := 9) rfl)).2.1
  have p10 : ck_lk E 67 (6 + 0) = 0 + (1 * σ 10 + 0) := (hP _ (List.mem_of_getElem? (i := 10) rfl)).2.2
  have q10 : (0 : Int) ≤ 6 + 0 := (hP _ (List.mem_of_getElem? (i := 10) rfl)).2.1
  have p11 : ck_lk E 67 (7 + 0) = 0 + (1 * σ 11 + 0) := (hP _ (List.mem_of_getElem? (i := 11) rfl)).2.2
  have q11 : (0 : Int) ≤ 7 + 0 := (hP _ (List.mem_of_getElem? (i := 11) rfl)).2.1
  have p12 : ck_lk E 67 (8 + 0) = 0 + (1 * σ 12 + 0) := (hP _ (List.mem_of_getElem? (i := 12) rfl)).2.2
  have q12 : (0 : Int) ≤ 8 + 0 := (hP _ (List.mem_of_getElem? (i := 12) rfl)).2.1
  have p13 : ck_lk E 67 (9 + 0) = 0 + (1 * σ 13 + 0) := (hP _ (List.mem_of_getElem? (i := 13) rfl)).2.2
  have q13 : (0 : Int) ≤ 9 + 0 := (hP _ (List.mem_of_getElem? (i := 13) rfl)).2.1
  have p14 : ck_lk E 67 (10 + 0) = 0 + (1 * σ 14 + 0) := (hP _ (List.mem_of_getElem? (i := 14) rfl)).2.2
  have q14 : (0 : Int) ≤ 10 + 0 := (hP _ (List.mem_of_getElem? (i := 14) rfl)).2.1
  have p15 : ck_lk E 67 (11 + 0) = 0 + (1 * σ 15 + 0) := (hP _ (List.mem_of_getElem? (i := 15) rfl)).2.2
  have q15 : (0 : Int) ≤ 11 + 0 := (hP _ (List.mem_of_getElem? (i := 15) rfl)).2.1
  have g0 : ck_FL 0 E := hΦ _ (List.mem_of_getElem? (i := 0) rfl)
  have key : (ck_FL 1 E ∧ True) := by
    rw [kc (i := 0) (by decide) (by decide)] at p0
    rw [kc (i := 1) (by decide) (by decide)] at p1
    rw [kc (i := 1) (by decide) (by decide)] at p2
    rw [kc (i := 3) (by decide) (by decide)] at p3
    rw [kc (i := 0) (by decide) (by decide)] at p4
    rw [kc (i := 6) (by decide) (by decide)] at p10
    rw [kc (i := 1) (by decide) (by decide)] at p5
    rw [kc (i := 7) (by decide) (by decide)] at p11
    rw [kc (i := 2) (by decide) (by decide)] at p6
    rw [kc (i := 8) (by decide) (by decide)] at p12
    rw [kc (i := 3) (by decide) (by decide)] at p7
    rw [kc (i := 9) (by decide) (by decide)] at p13
    rw [kc (i := 4) (by decide) (by decide)] at p8
    rw [kc (i := 10) (by decide) (by decide)] at p14
    rw [kc (i := 5) (by decide) (by decide)] at p9
    rw [kc (i := 11) (by decide) (by decide)] at p15
    refine ⟨?_, trivial⟩
    unfold ck_FL at g0 ⊢
    rw [if_pos (by decide)] at g0
    rw [if_pos (by decide)]
    have g0 : (ck_loc (E 65) 0 = 0 ∧ ck_loc (E 70) 1 = 0) ∨ ∀ r : Int, 0 ≤ r → r < 6 → 1 ≤ ck_loc (E 67) (0 + r) := g0
    rcases g0 with ⟨z1, z2⟩ | h
    · refine Or.inl ⟨?_, ?_⟩
      · show ck_loc (E 65) 1 = 0
        omega
      · show ck_loc (E 70) 3 = 0
        omega
    refine Or.inr ?_
    intro r r0 r6
    show 1 ≤ ck_loc (E 67) (6 + r)
    have y0 : 1 ≤ ck_loc (E 67) 0 := h 0 (by decide) (by decide)
    have y1 : 1 ≤ ck_loc (E 67) 1 := h 1 (by decide) (by decide)
    have y2 : 1 ≤ ck_loc (E 67) 2 := h 2 (by decide) (by decide)
    have y3 : 1 ≤ ck_loc (E 67) 3 := h 3 (by decide) (by decide)
    have y4 : 1 ≤ ck_loc (E 67) 4 := h 4 (by decide) (by decide)
    have y5 : 1 ≤ ck_loc (E 67) 5 := h 5 (by decide) (by decide)
    have hr : r = 0 ∨ r = 1 ∨ r = 2 ∨ r = 3 ∨ r = 4 ∨ r = 5 := by omega
    rcases hr with rfl | rfl | rfl | rfl | rfl | rfl
    · show 1 ≤ ck_loc (E 67) 6
      omega
    · show 1 ≤ ck_loc (E 67) 7
      omega
    · show 1 ≤ ck_loc (E 67) 8
      omega
    · show 1 ≤ ck_loc (E 67) 9
      omega
    · show 1 ≤ ck_loc (E 67) 10
      omega
    · show 1 ≤ ck_loc (E 67) 11
      omega
  obtain ⟨k0, -⟩ := key
  exact ⟨_, (List.mem_of_getElem? (i := 0) rfl), σ, ck_ag_rf, (fun _ h => absurd h List.not_mem_nil), (fun _ h => absurd h List.not_mem_nil), trivial, (fun _ h => absurd h List.not_mem_nil), (List.forall_mem_cons.mpr ⟨k0, (fun _ h => absurd h List.not_mem_nil)⟩)⟩
theorem ccFW_0_1 {l : Launch} {D : va_G} {kp : Nat → ClassId} : ck_con l D kp ck_NN ceFW_0_1 := ck_con_g rfl rpFW_0_1
theorem rpFW_0_2 : ck_gcon ceFW_0_2 := by
  intro σ E hgi hF hP hΦ
  have f0 : (0 : Int) ≤ 0 + (1 * σ 0 + ((-1) * σ 1 + 0)) := hF _ (List.mem_of_getElem? (i := 0) rfl)
  have f1 : (0 : Int) ≤ 0 + ((-1) * σ 0 + (1 * σ 1 + 0)) := hF _ (List.mem_of_getElem? (i := 1) rfl)
  have f2 : (0 : Int) ≤ 0 + (1 * σ 2 + ((-1) * σ 3 + 0)) := hF _ (List.mem_of_getElem? (i := 2) rfl)
  have f3 : (0 : Int) ≤ 0 + ((-1) * σ 2 + (1 * σ 3 + 0)) := hF _ (List.mem_of_getElem? (i := 3) rfl)
  have f4 : (0 : Int) ≤ 0 + (1 * σ 4 + ((-1) * σ 10 + 0)) := hF _ (List.mem_of_getElem? (i := 4) rfl)
  have f5 : (0 : Int) ≤ 0 + ((-1) * σ 4 + (1 * σ 10 + 0)) := hF _ (List.mem_of_getElem? (i := 5) rfl)
  have f6 : (0 : Int) ≤ 0 + (1 * σ 5 + ((-1) * σ 11 + 0)) := hF _ (List.mem_of_getElem? (i := 6) rfl)
  have f7 : (0 : Int) ≤ 0 + ((-1) * σ 5 + (1 * σ 11 + 0)) := hF _ (List.mem_of_getElem? (i := 7) rfl)
  have f8 : (0 : Int) ≤ 0 + (1 * σ 6 + ((-1) * σ 12 + 0)) := hF _ (List.mem_of_getElem? (i := 8) rfl)
  have f9 : (0 : Int) ≤ 0 + ((-1) * σ 6 + (1 * σ 12 + 0)) := hF _ (List.mem_of_getElem? (i := 9) rfl)
  have f10 : (0 : Int) ≤ 0 + (1 * σ 7 + ((-1) * σ 13 + 0)) := hF _ (List.mem_of_getElem? (i := 10) rfl)
  have f11 : (0 : Int) ≤ 0 + ((-1) * σ 7 + (1 * σ 13 + 0)) := hF _ (List.mem_of_getElem? (i := 11) rfl)
  have f12 : (0 : Int) ≤ 0 + (1 * σ 8 + ((-1) * σ 14 + 0)) := hF _ (List.mem_of_getElem? (i := 12) rfl)
  have f13 : (0 : Int) ≤ 0 + ((-1) * σ 8 + (1 * σ 14 + 0)) := hF _ (List.mem_of_getElem? (i := 13) rfl)
  have f14 : (0 : Int) ≤ 0 + (1 * σ 9 + ((-1) * σ 15 + 0)) := hF _ (List.mem_of_getElem? (i := 14) rfl)
  have f15 : (0 : Int) ≤ 0 + ((-1) * σ 9 + (1 * σ 15 + 0)) := hF _ (List.mem_of_getElem? (i := 15) rfl)
  have p0 : ck_lk E 65 (0 + 0) = 0 + (1 * σ 0 + 0) := (hP _ (List.mem_of_getElem? (i := 0) rfl)).2.2
  have q0 : (0 : Int) ≤ 0 + 0 := (hP _ (List.mem_of_getElem? (i := 0) rfl)).2.1
  have p1 : ck_lk E 65 (2 + 0) = 0 + (1 * σ 1 + 0) := (hP _ (List.mem_of_getElem? (i := 1) rfl)).2.2
  have q1 : (0 : Int) ≤ 2 + 0 := (hP _ (List.mem_of_getElem? (i := 1) rfl)).2.1
  have p2 : ck_lk E 70 (1 + 0) = 0 + (1 * σ 2 + 0) := (hP _ (List.mem_of_getElem? (i := 2) rfl)).2.2
  have q2 : (0 : Int) ≤ 1 + 0 := (hP _ (List.mem_of_getElem? (i := 2) rfl)).2.1
  have p3 : ck_lk E 70 (5 + 0) = 0 + (1 * σ 3 + 0) := (hP _ (List.mem_of_getElem? (i := 3) rfl)).2.2
  have q3 : (0 : Int) ≤ 5 + 0 := (hP _ (List.mem_of_getElem? (i := 3) rfl)).2.1
  have p4 : ck_lk E 67 (0 + 0) = 0 + (1 * σ 4 + 0) := (hP _ (List.mem_of_getElem? (i := 4) rfl)).2.2
  have q4 : (0 : Int) ≤ 0 + 0 := (hP _ (List.mem_of_getElem? (i := 4) rfl)).2.1
  have p5 : ck_lk E 67 (1 + 0) = 0 + (1 * σ 5 + 0) := (hP _ (List.mem_of_getElem? (i := 5) rfl)).2.2
  have q5 : (0 : Int) ≤ 1 + 0 := (hP _ (List.mem_of_getElem? (i := 5) rfl)).2.1
  have p6 : ck_lk E 67 (2 + 0) = 0 + (1 * σ 6 + 0) := (hP _ (List.mem_of_getElem? (i := 6) rfl)).2.2
  have q6 : (0 : Int) ≤ 2 + 0 := (hP _ (List.mem_of_getElem? (i := 6) rfl)).2.1
  have p7 : ck_lk E 67 (3 + 0) = 0 + (1 * σ 7 + 0) := (hP _ (List.mem_of_getElem? (i := 7) rfl)).2.2
  have q7 : (0 : Int) ≤ 3 + 0 := (hP _ (List.mem_of_getElem? (i := 7) rfl)).2.1
  have p8 : ck_lk E 67 (4 + 0) = 0 + (1 * σ 8 + 0) := (hP _ (List.mem_of_getElem? (i := 8) rfl)).2.2
  have q8 : (0 : Int) ≤ 4 + 0 := (hP _ (List.mem_of_getElem? (i := 8) rfl)).2.1
  have p9 : ck_lk E 67 (5 + 0) = 0 + (1 * σ 9 + 0) := (hP _ (List.mem_of_getElem? (i := 9) rfl)).2.2
  have q9 : (0 : Int) ≤ 5 + 0 := (hP _ (List.mem_of_getElem? (i := 9) rfl)).2.1
  have p10 : ck_lk E 67 (12 + 0) = 0 + (1 * σ 10 + 0) := (hP _ (List.mem_of_getElem? (i := 10) rfl)).2.2
  have q10 : (0 : Int) ≤ 12 + 0 := (hP _ (List.mem_of_getElem? (i := 10) rfl)).2.1
  have p11 : ck_lk E 67 (13 + 0) = 0 + (1 * σ 11 + 0) := (hP _ (List.mem_of_getElem? (i := 11) rfl)).2.2
  have q11 : (0 : Int) ≤ 13 + 0 := (hP _ (List.mem_of_getElem? (i := 11) rfl)).2.1
  have p12 : ck_lk E 67 (14 + 0) = 0 + (1 * σ 12 + 0) := (hP _ (List.mem_of_getElem? (i := 12) rfl)).2.2
  have q12 : (0 : Int) ≤ 14 + 0 := (hP _ (List.mem_of_getElem? (i := 12) rfl)).2.1
  have p13 : ck_lk E 67 (15 + 0) = 0 + (1 * σ 13 + 0) := (hP _ (List.mem_of_getElem? (i := 13) rfl)).2.2
  have q13 : (0 : Int) ≤ 15 + 0 := (hP _ (List.mem_of_getElem? (i := 13) rfl)).2.1
  have p14 : ck_lk E 67 (16 + 0) = 0 + (1 * σ 14 + 0) := (hP _ (List.mem_of_getElem? (i := 14) rfl)).2.2
  have q14 : (0 : Int) ≤ 16 + 0 := (hP _ (List.mem_of_getElem? (i := 14) rfl)).2.1
  have p15 : ck_lk E 67 (17 + 0) = 0 + (1 * σ 15 + 0) := (hP _ (List.mem_of_getElem? (i := 15) rfl)).2.2
  have q15 : (0 : Int) ≤ 17 + 0 := (hP _ (List.mem_of_getElem? (i := 15) rfl)).2.1
  have g0 : ck_FL 0 E := hΦ _ (List.mem_of_getElem? (i := 0) rfl)
  have key : (ck_FL 2 E ∧ True) := by
    rw [kc (i := 0) (by decide) (by decide)] at p0
    rw [kc (i := 2) (by decide) (by decide)] at p1
    rw [kc (i := 1) (by decide) (by decide)] at p2
    rw [kc (i := 5) (by decide) (by decide)] at p3
    rw [kc (i := 0) (by decide) (by decide)] at p4
    rw [kc (i := 12) (by decide) (by decide)] at p10
    rw [kc (i := 1) (by decide) (by decide)] at p5
    rw [kc (i := 13) (by decide) (by decide)] at p11
    rw [kc (i := 2) (by decide) (by decide)] at p6
    rw [kc (i := 14) (by decide) (by decide)] at p12
    rw [kc (i := 3) (by decide) (by decide)] at p7
    rw [kc (i := 15) (by decide) (by decide)] at p13
    rw [kc (i := 4) (by decide) (by decide)] at p8
    rw [kc (i := 16) (by decide) (by decide)] at p14
    rw [kc (i := 5) (by decide) (by decide)] at p9
    rw [kc (i := 17) (by decide) (by decide)] at p15
    refine ⟨?_, trivial⟩
    unfold ck_FL at g0 ⊢
    rw [if_pos (by decide)] at g0
    rw [if_pos (by decide)]
    have g0 : (ck_loc (E 65) 0 = 0 ∧ ck_loc (E 70) 1 = 0) ∨ ∀ r : Int, 0 ≤ r → r < 6 → 1 ≤ ck_loc (E 67) (0 + r) := g0
    rcases g0 with ⟨z1, z2⟩ | h
    · refine Or.inl ⟨?_, ?_⟩
      · show ck_loc (E 65) 2 = 0
        omega
      · show ck_loc (E 70) 5 = 0
        omega
    refine Or.inr ?_
    intro r r0 r6
    show 1 ≤ ck_loc (E 67) (12 + r)
    have y0 : 1 ≤ ck_loc (E 67) 0 := h 0 (by decide) (by decide)
    have y1 : 1 ≤ ck_loc (E 67) 1 := h 1 (by decide) (by decide)
    have y2 : 1 ≤ ck_loc (E 67) 2 := h 2 (by decide) (by decide)
    have y3 : 1 ≤ ck_loc (E 67) 3 := h 3 (by decide) (by decide)
    have y4 : 1 ≤ ck_loc (E 67) 4 := h 4 (by decide) (by decide)
    have y5 : 1 ≤ ck_loc (E 67) 5 := h 5 (by decide) (by decide)
    have hr : r = 0 ∨ r = 1 ∨ r = 2 ∨ r = 3 ∨ r = 4 ∨ r = 5 := by omega
    rcases hr with rfl | rfl | rfl | rfl | rfl | rfl
    · show 1 ≤ ck_loc (E 67) 12
      omega
    · show 1 ≤ ck_loc (E 67) 13
      omega
    · show 1 ≤ ck_loc (E 67) 14
      omega
    · show 1 ≤ ck_loc (E 67) 15
      omega
    · show 1 ≤ ck_loc (E 67) 16
      omega
    · show 1 ≤ ck_loc (E 67) 17
      omega
  obtain ⟨k0, -⟩ := key
  exact ⟨_, (List.mem_of_getElem? (i := 0) rfl), σ, ck_ag_rf, (fun _ h => absurd h List.not_mem_nil), (fun _ h => absurd h List.not_mem_nil), trivial, (fun _ h => absurd h List.not_mem_nil), (List.forall_mem_cons.mpr ⟨k0, (fun _ h => absurd h List.not_mem_nil)⟩)⟩
theorem ccFW_0_2 {l : Launch} {D : va_G} {kp : Nat → ClassId} : ck_con l D kp ck_NN ceFW_0_2 := ck_con_g rfl rpFW_0_2
theorem rpFW_0_3 : ck_gcon ceFW_0_3 := by
  intro σ E hgi hF hP hΦ
  have f0 : (0 : Int) ≤ 0 + (1 * σ 0 + ((-1) * σ 1 + 0)) := hF _ (List.mem_of_getElem? (i := 0) rfl)
  have f1 : (0 : Int) ≤ 0 + ((-1) * σ 0 + (1 * σ 1 + 0)) := hF _ (List.mem_of_getElem? (i := 1) rfl)
  have f2 : (0 : Int) ≤ 0 + (1 * σ 2 + ((-1) * σ 3 + 0)) := hF _ (List.mem_of_getElem? (i := 2) rfl)
  have f3 : (0 : Int) ≤ 0 + ((-1) * σ 2 + (1 * σ 3 + 0)) := hF _ (List.mem_of_getElem? (i := 3) rfl)
  have f4 : (0 : Int) ≤ 0 + (1 * σ 4 + ((-1) * σ 10 + 0)) := hF _ (List.mem_of_getElem? (i := 4) rfl)
  have f5 : (0 : Int) ≤ 0 + ((-1) * σ 4 + (1 * σ 10 + 0)) := hF _ (List.mem_of_getElem? (i := 5) rfl)
  have f6 : (0 : Int) ≤ 0 + (1 * σ 5 + ((-1) * σ 11 + 0)) := hF _ (List.mem_of_getElem? (i := 6) rfl)
  have f7 : (0 : Int) ≤ 0 + ((-1) * σ 5 + (1 * σ 11 + 0)) := hF _ (List.mem_of_getElem? (i := 7) rfl)
  have f8 : (0 : Int) ≤ 0 + (1 * σ 6 + ((-1) * σ 12 + 0)) := hF _ (List.mem_of_getElem? (i := 8) rfl)
  have f9 : (0 : Int) ≤ 0 + ((-1) * σ 6 + (1 * σ 12 + 0)) := hF _ (List.mem_of_getElem? (i := 9) rfl)
  have f10 : (0 : Int) ≤ 0 + (1 * σ 7 + ((-1) * σ 13 + 0)) := hF _ (List.mem_of_getElem? (i := 10) rfl)
  have f11 : (0 : Int) ≤ 0 + ((-1) * σ 7 + (1 * σ 13 + 0)) := hF _ (List.mem_of_getElem? (i := 11) rfl)
  have f12 : (0 : Int) ≤ 0 + (1 * σ 8 + ((-1) * σ 14 + 0)) := hF _ (List.mem_of_getElem? (i := 12) rfl)
  have f13 : (0 : Int) ≤ 0 + ((-1) * σ 8 + (1 * σ 14 + 0)) := hF _ (List.mem_of_getElem? (i := 13) rfl)
  have f14 : (0 : Int) ≤ 0 + (1 * σ 9 + ((-1) * σ 15 + 0)) := hF _ (List.mem_of_getElem? (i := 14) rfl)
  have f15 : (0 : Int) ≤ 0 + ((-1) * σ 9 + (1 * σ 15 + 0)) := hF _ (List.mem_of_getElem? (i := 15) rfl)
  have p0 : ck_lk E 65 (0 + 0) = 0 + (1 * σ 0 + 0) := (hP _ (List.mem_of_getElem? (i := 0) rfl)).2.2
  have q0 : (0 : Int) ≤ 0 + 0 := (hP _ (List.mem_of_getElem? (i := 0) rfl)).2.1
  have p1 : ck_lk E 65 (3 + 0) = 0 + (1 * σ 1 + 0) := (hP _ (List.mem_of_getElem? (i := 1) rfl)).2.2
  have q1 : (0 : Int) ≤ 3 + 0 := (hP _ (List.mem_of_getElem? (i := 1) rfl)).2.1
  have p2 : ck_lk E 70 (1 + 0) = 0 + (1 * σ 2 + 0) := (hP _ (List.mem_of_getElem? (i := 2) rfl)).2.2
  have q2 : (0 : Int) ≤ 1 + 0 := (hP _ (List.mem_of_getElem? (i := 2) rfl)).2.1
  have p3 : ck_lk E 70 (7 + 0) = 0 + (1 * σ 3 + 0) := (hP _ (List.mem_of_getElem? (i := 3) rfl)).2.2
  have q3 : (0 : Int) ≤ 7 + 0 := (hP _ (List.mem_of_getElem? (i := 3) rfl)).2.1
  have p4 : ck_lk E 67 (0 + 0) = 0 + (1 * σ 4 + 0) := (hP _ (List.mem_of_getElem? (i := 4) rfl)).2.2
  have q4 : (0 : Int) ≤ 0 + 0 := (hP _ (List.mem_of_getElem? (i := 4) rfl)).2.1
  have p5 : ck_lk E 67 (1 + 0) = 0 + (1 * σ 5 + 0) := (hP _ (List.mem_of_getElem? (i := 5) rfl)).2.2
  have q5 : (0 : Int) ≤ 1 + 0 := (hP _ (List.mem_of_getElem? (i := 5) rfl)).2.1
  have p6 : ck_lk E 67 (2 + 0) = 0 + (1 * σ 6 + 0) := (hP _ (List.mem_of_getElem? (i := 6) rfl)).2.2
  have q6 : (0 : Int) ≤ 2 + 0 := (hP _ (List.mem_of_getElem? (i := 6) rfl)).2.1
  have p7 : ck_lk E 67 (3 + 0) = 0 + (1 * σ 7 + 0) := (hP _ (List.mem_of_getElem? (i := 7) rfl)).2.2
  have q7 : (0 : Int) ≤ 3 + 0 := (hP _ (List.mem_of_getElem? (i := 7) rfl)).2.1
  have p8 : ck_lk E 67 (4 + 0) = 0 + (1 * σ 8 + 0) := (hP _ (List.mem_of_getElem? (i := 8) rfl)).2.2
  have q8 : (0 : Int) ≤ 4 + 0 := (hP _ (List.mem_of_getElem? (i := 8) rfl)).2.1
  have p9 : ck_lk E 67 (5 + 0) = 0 + (1 * σ 9 + 0) := (hP _ (List.mem_of_getElem? (i := 9) rfl)).2.2
  have q9 : (0 : Int) ≤ 5 + 0 := (hP _ (List.mem_of_getElem? (i := 9) rfl)).2.1
  have p10 : ck_lk E 67 (18 + 0) = 0 + (1 * σ 10 + 0) := (hP _ (List.mem_of_getElem? (i := 10) rfl)).2.2
  have q10 : (0 : Int) ≤ 18 + 0 := (hP _ (List.mem_of_getElem? (i := 10) rfl)).2.1
  have p11 : ck_lk E 67 (19 + 0) = 0 + (1 * σ 11 + 0) := (hP _ (List.mem_of_getElem? (i := 11) rfl)).2.2
  have q11 : (0 : Int) ≤ 19 + 0 := (hP _ (List.mem_of_getElem? (i := 11) rfl)).2.1
  have p12 : ck_lk E 67 (20 + 0) = 0 + (1 * σ 12 + 0) := (hP _ (List.mem_of_getElem? (i := 12) rfl)).2.2
  have q12 : (0 : Int) ≤ 20 + 0 := (hP _ (List.mem_of_getElem? (i := 12) rfl)).2.1
  have p13 : ck_lk E 67 (21 + 0) = 0 + (1 * σ 13 + 0) := (hP _ (List.mem_of_getElem? (i := 13) rfl)).2.2
  have q13 : (0 : Int) ≤ 21 + 0 := (hP _ (List.mem_of_getElem? (i := 13) rfl)).2.1
  have p14 : ck_lk E 67 (22 + 0) = 0 + (1 * σ 14 + 0) := (hP _ (List.mem_of_getElem? (i := 14) rfl)).2.2
  have q14 : (0 : Int) ≤ 22 + 0 := (hP _ (List.mem_of_getElem? (i := 14) rfl)).2.1
  have p15 : ck_lk E 67 (23 + 0) = 0 + (1 * σ 15 + 0) := (hP _ (List.mem_of_getElem? (i := 15) rfl)).2.2
  have q15 : (0 : Int) ≤ 23 + 0 := (hP _ (List.mem_of_getElem? (i := 15) rfl)).2.1
  have g0 : ck_FL 0 E := hΦ _ (List.mem_of_getElem? (i := 0) rfl)
  have key : (ck_FL 3 E ∧ True) := by
    rw [kc (i := 0) (by decide) (by decide)] at p0
    rw [kc (i := 3) (by decide) (by decide)] at p1
    rw [kc (i := 1) (by decide) (by decide)] at p2
    rw [kc (i := 7) (by decide) (by decide)] at p3
    rw [kc (i := 0) (by decide) (by decide)] at p4
    rw [kc (i := 18) (by decide) (by decide)] at p10
    rw [kc (i := 1) (by decide) (by decide)] at p5
    rw [kc (i := 19) (by decide) (by decide)] at p11
    rw [kc (i := 2) (by decide) (by decide)] at p6
    rw [kc (i := 20) (by decide) (by decide)] at p12
    rw [kc (i := 3) (by decide) (by decide)] at p7
    rw [kc (i := 21) (by decide) (by decide)] at p13
    rw [kc (i := 4) (by decide) (by decide)] at p8
    rw [kc (i := 22) (by decide) (by decide)] at p14
    rw [kc (i := 5) (by decide) (by decide)] at p9
    rw [kc (i := 23) (by decide) (by decide)] at p15
    refine ⟨?_, trivial⟩
    unfold ck_FL at g0 ⊢
    rw [if_pos (by decide)] at g0
    rw [if_pos (by decide)]
    have g0 : (ck_loc (E 65) 0 = 0 ∧ ck_loc (E 70) 1 = 0) ∨ ∀ r : Int, 0 ≤ r → r < 6 → 1 ≤ ck_loc (E 67) (0 + r) := g0
    rcases g0 with ⟨z1, z2⟩ | h
    · refine Or.inl ⟨?_, ?_⟩
      · show ck_loc (E 65) 3 = 0
        omega
      · show ck_loc (E 70) 7 = 0
        omega
    refine Or.inr ?_
    intro r r0 r6
    show 1 ≤ ck_loc (E 67) (18 + r)
    have y0 : 1 ≤ ck_loc (E 67) 0 := h 0 (by decide) (by decide)
    have y1 : 1 ≤ ck_loc (E 67) 1 := h 1 (by decide) (by decide)
    have y2 : 1 ≤ ck_loc (E 67) 2 := h 2 (by decide) (by decide)
    have y3 : 1 ≤ ck_loc (E 67) 3 := h 3 (by decide) (by decide)
    have y4 : 1 ≤ ck_loc (E 67) 4 := h 4 (by decide) (by decide)
    have y5 : 1 ≤ ck_loc (E 67) 5 := h 5 (by decide) (by decide)
    have hr : r = 0 ∨ r = 1 ∨ r = 2 ∨ r = 3 ∨ r = 4 ∨ r = 5 := by omega
    rcases hr with rfl | rfl | rfl | rfl | rfl | rfl
    · show 1 ≤ ck_loc (E 67) 18
      omega
    · show 1 ≤ ck_loc (E 67) 19
      omega
    · show 1 ≤ ck_loc (E 67) 20
      omega
    · show 1 ≤ ck_loc (E 67) 21
      omega
    · show 1 ≤ ck_loc (E 67) 22
      omega
    · show 1 ≤ ck_loc (E 67) 23
      omega
  obtain ⟨k0, -⟩ := key
  exact ⟨_, (List.mem_of_getElem? (i := 0) rfl), σ, ck_ag_rf, (fun _ h => absurd h List.not_mem_nil), (fun _ h => absurd h List.not_mem_nil), trivial, (fun _ h => absurd h List.not_mem_nil), (List.forall_mem_cons.mpr ⟨k0, (fun _ h => absurd h List.not_mem_nil)⟩)⟩
theorem ccFW_0_3 {l : Launch} {D : va_G} {kp : Nat → ClassId} : ck_con l D kp ck_NN ceFW_0_3 := ck_con_g rfl rpFW_0_3
theorem rpFW_1_0 : ck_gcon ceFW_1_0 := by
  intro σ E hgi hF hP hΦ
  have f0 : (0 : Int) ≤ 0 + (1 * σ 0 + ((-1) * σ 1 + 0)) := hF _ (List.mem_of_getElem? (i := 0) rfl)
  have f1 : (0 : Int) ≤ 0 + ((-1) * σ 0 + (1 * σ 1 + 0)) := hF _ (List.mem_of_getElem? (i := 1) rfl)
  have f2 : (0 : Int) ≤ 0 + (1 * σ 2 + ((-1) * σ 3 + 0)) := hF _ (List.mem_of_getElem? (i := 2) rfl)
  have f3 : (0 : Int) ≤ 0 + ((-1) * σ 2 + (1 * σ 3 + 0)) := hF _ (List.mem_of_getElem? (i := 3) rfl)
  have f4 : (0 : Int) ≤ 0 + (1 * σ 4 + ((-1) * σ 10 + 0)) := hF _ (List.mem_of_getElem? (i := 4) rfl)
  have f5 : (0 : Int) ≤ 0 + ((-1) * σ 4 + (1 * σ 10 + 0)) := hF _ (List.mem_of_getElem? (i := 5) rfl)
  have f6 : (0 : Int) ≤ 0 + (1 * σ 5 + ((-1) * σ 11 + 0)) := hF _ (List.mem_of_getElem? (i := 6) rfl)
  have f7 : (0 : Int) ≤ 0 + ((-1) * σ 5 + (1 * σ 11 + 0)) := hF _ (List.mem_of_getElem? (i := 7) rfl)
  have f8 : (0 : Int) ≤ 0 + (1 * σ 6 + ((-1) * σ 12 + 0)) := hF _ (List.mem_of_getElem? (i := 8) rfl)
  have f9 : (0 : Int) ≤ 0 + ((-1) * σ 6 + (1 * σ 12 + 0)) := hF _ (List.mem_of_getElem? (i := 9) rfl)
  have f10 : (0 : Int) ≤ 0 + (1 * σ 7 + ((-1) * σ 13 + 0)) := hF _ (List.mem_of_getElem? (i := 10) rfl)
  have f11 : (0 : Int) ≤ 0 + ((-1) * σ 7 + (1 * σ 13 + 0)) := hF _ (List.mem_of_getElem? (i := 11) rfl)
  have f12 : (0 : Int) ≤ 0 + (1 * σ 8 + ((-1) * σ 14 + 0)) := hF _ (List.mem_of_getElem? (i := 12) rfl)
  have f13 : (0 : Int) ≤ 0 + ((-1) * σ 8 + (1 * σ 14 + 0)) := hF _ (List.mem_of_getElem? (i := 13) rfl)
  have f14 : (0 : Int) ≤ 0 + (1 * σ 9 + ((-1) * σ 15 + 0)) := hF _ (List.mem_of_getElem? (i := 14) rfl)
  have f15 : (0 : Int) ≤ 0 + ((-1) * σ 9 + (1 * σ 15 + 0)) := hF _ (List.mem_of_getElem? (i := 15) rfl)
  have p0 : ck_lk E 65 (1 + 0) = 0 + (1 * σ 0 + 0) := (hP _ (List.mem_of_getElem? (i := 0) rfl)).2.2
  have q0 : (0 : Int) ≤ 1 + 0 := (hP _ (List.mem_of_getElem? (i := 0) rfl)).2.1
  have p1 : ck_lk E 65 (0 + 0) = 0 + (1 * σ 1 + 0) := (hP _ (List.mem_of_getElem? (i := 1) rfl)).2.2
  have q1 : (0 : Int) ≤ 0 + 0 := (hP _ (List.mem_of_getElem? (i := 1) rfl)).2.1
  have p2 : ck_lk E 70 (3 + 0) = 0 + (1 * σ 2 + 0) := (hP _ (List.mem_of_getElem? (i := 2) rfl)).2.2
  have q2 : (0 : Int) ≤ 3 + 0 := (hP _ (List.mem_of_getElem? (i := 2) rfl)).2.1
  have p3 : ck_lk E 70 (1 + 0) = 0 + (1 * σ 3 + 0) := (hP _ (List.mem_of_getElem? (i := 3) rfl)).2.2
  have q3 : (0 : Int) ≤ 1 + 0 := (hP _ (List.mem_of_getElem? (i := 3) rfl)).2.1
  have p4 : ck_lk E 67 (6 + 0) = 0 + (1 * σ 4 + 0) := (hP _ (List.mem_of_getElem? (i := 4) rfl)).2.2
  have q4 : (0 : Int) ≤ 6 + 0 := (hP _ (List.mem_of_getElem? (i := 4) rfl)).2.1
  have p5 : ck_lk E 67 (7 + 0) = 0 + (1 * σ 5 + 0) := (hP _ (List.mem_of_getElem? (i := 5) rfl)).2.2
  have q5 : (0 : Int) ≤ 7 + 0 := (hP _ (List.mem_of_getElem? (i := 5) rfl)).2.1
  have p6 : ck_lk E 67 (8 + 0) = 0 + (1 * σ 6 + 0) := (hP _ (List.mem_of_getElem? (i := 6) rfl)).2.2
  have q6 : (0 : Int) ≤ 8 + 0 := (hP _ (List.mem_of_getElem? (i := 6) rfl)).2.1
  have p7 : ck_lk E 67 (9 + 0) = 0 + (1 * σ 7 + 0) := (hP _ (List.mem_of_getElem? (i := 7) rfl)).2.2
  have q7 : (0 : Int) ≤ 9 + 0 := (hP _ (List.mem_of_getElem? (i := 7) rfl)).2.1
  have p8 : ck_lk E 67 (10 + 0) = 0 + (1 * σ 8 + 0) := (hP _ (List.mem_of_getElem? (i := 8) rfl)).2.2
  have q8 : (0 : Int) ≤ 10 + 0 := (hP _ (List.mem_of_getElem? (i := 8) rfl)).2.1
  have p9 : ck_lk E 67 (11 + 0) = 0 + (1 * σ 9 + 0) := (hP _ (List.mem_of_getElem? (i := 9) rfl)).2.2
  have q9 : (0 : Int) ≤ 11 + 0 := (hP _ (List.mem_of_getElem? (i := 9) rfl)).2.1
  have p10 : ck_lk E 67 (0 + 0) = 0 + (1 * σ 10 + 0) := (hP _ (List.mem_of_getElem? (i := 10) rfl)).2.2
  have q10 : (0 : Int) ≤ 0 + 0 := (hP _ (List.mem_of_getElem? (i := 10) rfl)).2.1
  have p11 : ck_lk E 67 (1 + 0) = 0 + (1 * σ 11 + 0) := (hP _ (List.mem_of_getElem? (i := 11) rfl)).2.2
  have q11 : (0 : Int) ≤ 1 + 0 := (hP _ (List.mem_of_getElem? (i := 11) rfl)).2.1
  have p12 : ck_lk E 67 (2 + 0) = 0 + (1 * σ 12 + 0) := (hP _ (List.mem_of_getElem? (i := 12) rfl)).2.2
  have q12 : (0 : Int) ≤ 2 + 0 := (hP _ (List.mem_of_getElem? (i := 12) rfl)).2.1
  have p13 : ck_lk E 67 (3 + 0) = 0 + (1 * σ 13 + 0) := (hP _ (List.mem_of_getElem? (i := 13) rfl)).2.2
  have q13 : (0 : Int) ≤ 3 + 0 := (hP _ (List.mem_of_getElem? (i := 13) rfl)).2.1
  have p14 : ck_lk E 67 (4 + 0) = 0 + (1 * σ 14 + 0) := (hP _ (List.mem_of_getElem? (i := 14) rfl)).2.2
  have q14 : (0 : Int) ≤ 4 + 0 := (hP _ (List.mem_of_getElem? (i := 14) rfl)).2.1
  have p15 : ck_lk E 67 (5 + 0) = 0 + (1 * σ 15 + 0) := (hP _ (List.mem_of_getElem? (i := 15) rfl)).2.2
  have q15 : (0 : Int) ≤ 5 + 0 := (hP _ (List.mem_of_getElem? (i := 15) rfl)).2.1
  have g0 : ck_FL 1 E := hΦ _ (List.mem_of_getElem? (i := 0) rfl)
  have key : (ck_FL 0 E ∧ True) := by
    rw [kc (i := 1) (by decide) (by decide)] at p0
    rw [kc (i := 0) (by decide) (by decide)] at p1
    rw [kc (i := 3) (by decide) (by decide)] at p2
    rw [kc (i := 1) (by decide) (by decide)] at p3
    rw [kc (i := 6) (by decide) (by decide)] at p4
    rw [kc (i := 0) (by decide) (by decide)] at p10
    rw [kc (i := 7) (by decide) (by decide)] at p5
    rw [kc (i := 1) (by decide) (by decide)] at p11
    rw [kc (i := 8) (by decide) (by decide)] at p6
    rw [kc (i := 2) (by decide) (by decide)] at p12
    rw [kc (i := 9) (by decide) (by decide)] at p7
    rw [kc (i := 3) (by decide) (by decide)] at p13
    rw [kc (i := 10) (by decide) (by decide)] at p8
    rw [kc (i := 4) (by decide) (by decide)] at p14
    rw [kc (i := 11) (by decide) (by decide)] at p9
    rw [kc (i := 5) (by decide) (by decide)] at p15
    refine ⟨?_, trivial⟩
    unfold ck_FL at g0 ⊢
    rw [if_pos (by decide)] at g0
    rw [if_pos (by decide)]
    have g0 : (ck_loc (E 65) 1 = 0 ∧ ck_loc (E 70) 3 = 0) ∨ ∀ r : Int, 0 ≤ r → r < 6 → 1 ≤ ck_loc (E 67) (6 + r) := g0
    rcases g0 with ⟨z1, z2⟩ | h
    · refine Or.inl ⟨?_, ?_⟩
      · show ck_loc (E 65) 0 = 0
        omega
      · show ck_loc (E 70) 1 = 0
        omega
    refine Or.inr ?_
    intro r r0 r6
    show 1 ≤ ck_loc (E 67) (0 + r)
    have y0 : 1 ≤ ck_loc (E 67) 6 := h 0 (by decide) (by decide)
    have y1 : 1 ≤ ck_loc (E 67) 7 := h 1 (by decide) (by decide)
    have y2 : 1 ≤ ck_loc (E 67) 8 := h 2 (by decide) (by decide)
    have y3 : 1 ≤ ck_loc (E 67) 9 := h 3 (by decide) (by decide)
    have y4 : 1 ≤ ck_loc (E 67) 10 := h 4 (by decide) (by decide)
    have y5 : 1 ≤ ck_loc (E 67) 11 := h 5 (by decide) (by decide)
    have hr : r = 0 ∨ r = 1 ∨ r = 2 ∨ r = 3 ∨ r = 4 ∨ r = 5 := by omega
    rcases hr with rfl | rfl | rfl | rfl | rfl | rfl
    · show 1 ≤ ck_loc (E 67) 0
      omega
    · show 1 ≤ ck_loc (E 67) 1
      omega
    · show 1 ≤ ck_loc (E 67) 2
      omega
    · show 1 ≤ ck_loc (E 67) 3
      omega
    · show 1 ≤ ck_loc (E 67) 4
      omega
    · show 1 ≤ ck_loc (E 67) 5
      omega
  obtain ⟨k0, -⟩ := key
  exact ⟨_, (List.mem_of_getElem? (i := 0) rfl), σ, ck_ag_rf, (fun _ h => absurd h List.not_mem_nil), (fun _ h => absurd h List.not_mem_nil), trivial, (fun _ h => absurd h List.not_mem_nil), (List.forall_mem_cons.mpr ⟨k0, (fun _ h => absurd h List.not_mem_nil)⟩)⟩
theorem ccFW_1_0 {l : Launch} {D : va_G} {kp : Nat → ClassId} : ck_con l D kp ck_NN ceFW_1_0 := ck_con_g rfl rpFW_1_0
theorem rpFW_2_0 : ck_gcon ceFW_2_0 := by
  intro σ E hgi hF hP hΦ
  have f0 : (0 : Int) ≤ 0 + (1 * σ 0 + ((-1) * σ 1 + 0)) := hF _ (List.mem_of_getElem? (i := 0) rfl)
  have f1 : (0 : Int) ≤ 0 + ((-1) * σ 0 + (1 * σ 1 + 0)) := hF _ (List.mem_of_getElem? (i := 1) rfl)
  have f2 : (0 : Int) ≤ 0 + (1 * σ 2 + ((-1) * σ 3 + 0)) := hF _ (List.mem_of_getElem? (i := 2) rfl)
  have f3 : (0 : Int) ≤ 0 + ((-1) * σ 2 + (1 * σ 3 + 0)) := hF _ (List.mem_of_getElem? (i := 3) rfl)
  have f4 : (0 : Int) ≤ 0 + (1 * σ 4 + ((-1) * σ 10 + 0)) := hF _ (List.mem_of_getElem? (i := 4) rfl)
  have f5 : (0 : Int) ≤ 0 + ((-1) * σ 4 + (1 * σ 10 + 0)) := hF _ (List.mem_of_getElem? (i := 5) rfl)
  have f6 : (0 : Int) ≤ 0 + (1 * σ 5 + ((-1) * σ 11 + 0)) := hF _ (List.mem_of_getElem? (i := 6) rfl)
  have f7 : (0 : Int) ≤ 0 + ((-1) * σ 5 + (1 * σ 11 + 0)) := hF _ (List.mem_of_getElem? (i := 7) rfl)
  have f8 : (0 : Int) ≤ 0 + (1 * σ 6 + ((-1) * σ 12 + 0)) := hF _ (List.mem_of_getElem? (i := 8) rfl)
  have f9 : (0 : Int) ≤ 0 + ((-1) * σ 6 + (1 * σ 12 + 0)) := hF _ (List.mem_of_getElem? (i := 9) rfl)
  have f10 : (0 : Int) ≤ 0 + (1 * σ 7 + ((-1) * σ 13 + 0)) := hF _ (List.mem_of_getElem? (i := 10) rfl)
  have f11 : (0 : Int) ≤ 0 + ((-1) * σ 7 + (1 * σ 13 + 0)) := hF _ (List.mem_of_getElem? (i := 11) rfl)
  have f12 : (0 : Int) ≤ 0 + (1 * σ 8 + ((-1) * σ 14 + 0)) := hF _ (List.mem_of_getElem? (i := 12) rfl)
  have f13 : (0 : Int) ≤ 0 + ((-1) * σ 8 + (1 * σ 14 + 0)) := hF _ (List.mem_of_getElem? (i := 13) rfl)
  have f14 : (0 : Int) ≤ 0 + (1 * σ 9 + ((-1) * σ 15 + 0)) := hF _ (List.mem_of_getElem? (i := 14) rfl)
  have f15 : (0 : Int) ≤ 0 + ((-1) * σ 9 + (1 * σ 15 + 0)) := hF _ (List.mem_of_getElem? (i := 15) rfl)
  have p0 : ck_lk E 65 (2 + 0) = 0 + (1 * σ 0 + 0) := (hP _ (List.mem_of_getElem? (i := 0) rfl)).2.2
  have q0 : (0 : Int) ≤ 2 + 0 := (hP _ (List.mem_of_getElem? (i := 0) rfl)).2.1
  have p1 : ck_lk E 65 (0 + 0) = 0 + (1 * σ 1 + 0) := (hP _ (List.mem_of_getElem? (i := 1) rfl)).2.2
  have q1 : (0 : Int) ≤ 0 + 0 := (hP _ (List.mem_of_getElem? (i := 1) rfl)).2.1
  have p2 : ck_lk E 70 (5 + 0) = 0 + (1 * σ 2 + 0) := (hP _ (List.mem_of_getElem? (i := 2) rfl)).2.2
  have q2 : (0 : Int) ≤ 5 + 0 := (hP _ (List.mem_of_getElem? (i := 2) rfl)).2.1
  have p3 : ck_lk E 70 (1 + 0) = 0 + (1 * σ 3 + 0) := (hP _ (List.mem_of_getElem? (i := 3) rfl)).2.2
  have q3 : (0 : Int) ≤ 1 + 0 := (hP _ (List.mem_of_getElem? (i := 3) rfl)).2.1
  have p4 : ck_lk E 67 (12 + 0) = 0 + (1 * σ 4 + 0) := (hP _ (List.mem_of_getElem? (i := 4) rfl)).2.2
  have q4 : (0 : Int) ≤ 12 + 0 := (hP _ (List.mem_of_getElem? (i := 4) rfl)).2.1
  have p5 : ck_lk E 67 (13 + 0) = 0 + (1 * σ 5 + 0) := (hP _ (List.mem_of_getElem? (i := 5) rfl)).2.2
  have q5 : (0 : Int) ≤ 13 + 0 := (hP _ (List.mem_of_getElem? (i := 5) rfl)).2.1
  have p6 : ck_lk E 67 (14 + 0) = 0 + (1 * σ 6 + 0) := (hP _ (List.mem_of_getElem? (i := 6) rfl)).2.2
  have q6 : (0 : Int) ≤ 14 + 0 := (hP _ (List.mem_of_getElem? (i := 6) rfl)).2.1
  have p7 : ck_lk E 67 (15 + 0) = 0 + (1 * σ 7 + 0) := (hP _ (List.mem_of_getElem? (i := 7) rfl)).2.2
  have q7 : (0 : Int) ≤ 15 + 0 := (hP _ (List.mem_of_getElem? (i := 7) rfl)).2.1
  have p8 : ck_lk E 67 (16 + 0) = 0 + (1 * σ 8 + 0) := (hP _ (List.mem_of_getElem? (i := 8) rfl)).2.2
  have q8 : (0 : Int) ≤ 16 + 0 := (hP _ (List.mem_of_getElem? (i := 8) rfl)).2.1
  have p9 : ck_lk E 67 (17 + 0) = 0 + (1 * σ 9 + 0) := (hP _ (List.mem_of_getElem? (i := 9) rfl)).2.2
  have q9 : (0 : Int) ≤ 17 + 0 := (hP _ (List.mem_of_getElem? (i := 9) rfl)).2.1
  have p10 : ck_lk E 67 (0 + 0) = 0 + (1 * σ 10 + 0) := (hP _ (List.mem_of_getElem? (i := 10) rfl)).2.2
  have q10 : (0 : Int) ≤ 0 + 0 := (hP _ (List.mem_of_getElem? (i := 10) rfl)).2.1
  have p11 : ck_lk E 67 (1 + 0) = 0 + (1 * σ 11 + 0) := (hP _ (List.mem_of_getElem? (i := 11) rfl)).2.2
  have q11 : (0 : Int) ≤ 1 + 0 := (hP _ (List.mem_of_getElem? (i := 11) rfl)).2.1
  have p12 : ck_lk E 67 (2 + 0) = 0 + (1 * σ 12 + 0) := (hP _ (List.mem_of_getElem? (i := 12) rfl)).2.2
  have q12 : (0 : Int) ≤ 2 + 0 := (hP _ (List.mem_of_getElem? (i := 12) rfl)).2.1
  have p13 : ck_lk E 67 (3 + 0) = 0 + (1 * σ 13 + 0) := (hP _ (List.mem_of_getElem? (i := 13) rfl)).2.2
  have q13 : (0 : Int) ≤ 3 + 0 := (hP _ (List.mem_of_getElem? (i := 13) rfl)).2.1
  have p14 : ck_lk E 67 (4 + 0) = 0 + (1 * σ 14 + 0) := (hP _ (List.mem_of_getElem? (i := 14) rfl)).2.2
  have q14 : (0 : Int) ≤ 4 + 0 := (hP _ (List.mem_of_getElem? (i := 14) rfl)).2.1
  have p15 : ck_lk E 67 (5 + 0) = 0 + (1 * σ 15 + 0) := (hP _ (List.mem_of_getElem? (i := 15) rfl)).2.2
  have q15 : (0 : Int) ≤ 5 + 0 := (hP _ (List.mem_of_getElem? (i := 15) rfl)).2.1
  have g0 : ck_FL 2 E := hΦ _ (List.mem_of_getElem? (i := 0) rfl)
  have key : (ck_FL 0 E ∧ True) := by
    rw [kc (i := 2) (by decide) (by decide)] at p0
    rw [kc (i := 0) (by decide) (by decide)] at p1
    rw [kc (i := 5) (by decide) (by decide)] at p2
    rw [kc (i := 1) (by decide) (by decide)] at p3
    rw [kc (i := 12) (by decide) (by decide)] at p4
    rw [kc (i := 0) (by decide) (by decide)] at p10
    rw [kc (i := 13) (by decide) (by decide)] at p5
    rw [kc (i := 1) (by decide) (by decide)] at p11
    rw [kc (i := 14) (by decide) (by decide)] at p6
    rw [kc (i := 2) (by decide) (by decide)] at p12
    rw [kc (i := 15) (by decide) (by decide)] at p7
    rw [kc (i := 3) (by decide) (by decide)] at p13
    rw [kc (i := 16) (by decide) (by decide)] at p8
    rw [kc (i := 4) (by decide) (by decide)] at p14
    rw [kc (i := 17) (by decide) (by decide)] at p9
    rw [kc (i := 5) (by decide) (by decide)] at p15
    refine ⟨?_, trivial⟩
    unfold ck_FL at g0 ⊢
    rw [if_pos (by decide)] at g0
    rw [if_pos (by decide)]
    have g0 : (ck_loc (E 65) 2 = 0 ∧ ck_loc (E 70) 5 = 0) ∨ ∀ r : Int, 0 ≤ r → r < 6 → 1 ≤ ck_loc (E 67) (12 + r) := g0
    rcases g0 with ⟨z1, z2⟩ | h
    · refine Or.inl ⟨?_, ?_⟩
      · show ck_loc (E 65) 0 = 0
        omega
      · show ck_loc (E 70) 1 = 0
        omega
    refine Or.inr ?_
    intro r r0 r6
    show 1 ≤ ck_loc (E 67) (0 + r)
    have y0 : 1 ≤ ck_loc (E 67) 12 := h 0 (by decide) (by decide)
    have y1 : 1 ≤ ck_loc (E 67) 13 := h 1 (by decide) (by decide)
    have y2 : 1 ≤ ck_loc (E 67) 14 := h 2 (by decide) (by decide)
    have y3 : 1 ≤ ck_loc (E 67) 15 := h 3 (by decide) (by decide)
    have y4 : 1 ≤ ck_loc (E 67) 16 := h 4 (by decide) (by decide)
    have y5 : 1 ≤ ck_loc (E 67) 17 := h 5 (by decide) (by decide)
    have hr : r = 0 ∨ r = 1 ∨ r = 2 ∨ r = 3 ∨ r = 4 ∨ r = 5 := by omega
    rcases hr with rfl | rfl | rfl | rfl | rfl | rfl
    · show 1 ≤ ck_loc (E 67) 0
      omega
    · show 1 ≤ ck_loc (E 67) 1
      omega
    · show 1 ≤ ck_loc (E 67) 2
      omega
    · show 1 ≤ ck_loc (E 67) 3
      omega
    · show 1 ≤ ck_loc (E 67) 4
      omega
    · show 1 ≤ ck_loc (E 67) 5
      omega
  obtain ⟨k0, -⟩ := key
  exact ⟨_, (List.mem_of_getElem? (i := 0) rfl), σ, ck_ag_rf, (fun _ h => absurd h List.not_mem_nil), (fun _ h => absurd h List.not_mem_nil), trivial, (fun _ h => absurd h List.not_mem_nil), (List.forall_mem_cons.mpr ⟨k0, (fun _ h => absurd h List.not_mem_nil)⟩)⟩
theorem ccFW_2_0 {l : Launch} {D : va_G} {kp : Nat → ClassId} : ck_con l D kp ck_NN ceFW_2_0 := ck_con_g rfl rpFW_2_0
theorem rpFW_3_0 : ck_gcon ceFW_3_0 := by
  intro σ E hgi hF hP hΦ
  have f0 : (0 : Int) ≤ 0 + (1 * σ 0 + ((-1) * σ 1 + 0)) := hF _ (List.mem_of_getElem? (i := 0) rfl)
  have f1 : (0 : Int) ≤ 0 + ((-1) * σ 0 + (1 * σ 1 + 0)) := hF _ (List.mem_of_getElem? (i := 1) rfl)
  have f2 : (0 : Int) ≤ 0 + (1 * σ 2 + ((-1) * σ 3 + 0)) := hF _ (List.mem_of_getElem? (i := 2) rfl)
  have f3 : (0 : Int) ≤ 0 + ((-1) * σ 2 + (1 * σ 3 + 0)) := hF _ (List.mem_of_getElem? (i := 3) rfl)
  have f4 : (0 : Int) ≤ 0 + (1 * σ 4 + ((-1) * σ 10 + 0)) := hF _ (List.mem_of_getElem? (i := 4) rfl)
  have f5 : (0 : Int) ≤ 0 + ((-1) * σ 4 + (1 * σ 10 + 0)) := hF _ (List.mem_of_getElem? (i := 5) rfl)
  have f6 : (0 : Int) ≤ 0 + (1 * σ 5 + ((-1) * σ 11 + 0)) := hF _ (List.mem_of_getElem? (i := 6) rfl)
  have f7 : (0 : Int) ≤ 0 + ((-1) * σ 5 + (1 * σ 11 + 0)) := hF _ (List.mem_of_getElem? (i := 7) rfl)
  have f8 : (0 : Int) ≤ 0 + (1 * σ 6 + ((-1) * σ 12 + 0)) := hF _ (List.mem_of_getElem? (i := 8) rfl)
  have f9 : (0 : Int) ≤ 0 + ((-1) * σ 6 + (1 * σ 12 + 0)) := hF _ (List.mem_of_getElem? (i := 9) rfl)
  have f10 : (0 : Int) ≤ 0 + (1 * σ 7 + ((-1) * σ 13 + 0)) := hF _ (List.mem_of_getElem? (i := 10) rfl)
  have f11 : (0 : Int) ≤ 0 + ((-1) * σ 7 + (1 * σ 13 + 0)) := hF _ (List.mem_of_getElem? (i := 11) rfl)
  have f12 : (0 : Int) ≤ 0 + (1 * σ 8 + ((-1) * σ 14 + 0)) := hF _ (List.mem_of_getElem? (i := 12) rfl)
  have f13 : (0 : Int) ≤ 0 + ((-1) * σ 8 + (1 * σ 14 + 0)) := hF _ (List.mem_of_getElem? (i := 13) rfl)
  have f14 : (0 : Int) ≤ 0 + (1 * σ 9 + ((-1) * σ 15 + 0)) := hF _ (List.mem_of_getElem? (i := 14) rfl)
  have f15 : (0 : Int) ≤ 0 + ((-1) * σ 9 + (1 * σ 15 + 0)) := hF _ (List.mem_of_getElem? (i := 15) rfl)
  have p0 : ck_lk E 65 (3 + 0) = 0 + (1 * σ 0 + 0) := (hP _ (List.mem_of_getElem? (i := 0) rfl)).2.2
  have q0 : (0 : Int) ≤ 3 + 0 := (hP _ (List.mem_of_getElem? (i := 0) rfl)).2.1
  have p1 : ck_lk E 65 (0 + 0) = 0 + (1 * σ 1 + 0) := (hP _ (List.mem_of_getElem? (i := 1) rfl)).2.2
  have q1 : (0 : Int) ≤ 0 + 0 := (hP _ (List.mem_of_getElem? (i := 1) rfl)).2.1
  have p2 : ck_lk E 70 (7 + 0) = 0 + (1 * σ 2 + 0) := (hP _ (List.mem_of_getElem? (i := 2) rfl)).2.2
  have q2 : (0 : Int) ≤ 7 + 0 := (hP _ (List.mem_of_getElem? (i := 2) rfl)).2.1
  have p3 : ck_lk E 70 (1 + 0) = 0 + (1 * σ 3 + 0) := (hP _ (List.mem_of_getElem? (i := 3) rfl)).2.2
  have q3 : (0 : Int) ≤ 1 + 0 := (hP _ (List.mem_of_getElem? (i := 3) rfl)).2.1
  have p4 : ck_lk E 67 (18 + 0) = 0 + (1 * σ 4 + 0) := (hP _ (List.mem_of_getElem? (i := 4) rfl)).2.2
  have q4 : (0 : Int) ≤ 18 + 0 := (hP _ (List.mem_of_getElem? (i := 4) rfl)).2.1
  have p5 : ck_lk E 67 (19 + 0) = 0 + (1 * σ 5 + 0) := (hP _ (List.mem_of_getElem? (i := 5) rfl)).2.2
  have q5 : (0 : Int) ≤ 19 + 0 := (hP _ (List.mem_of_getElem? (i := 5) rfl)).2.1
  have p6 : ck_lk E 67 (20 + 0) = 0 + (1 * σ 6 + 0) := (hP _ (List.mem_of_getElem? (i := 6) rfl)).2.2
  have q6 : (0 : Int) ≤ 20 + 0 := (hP _ (List.mem_of_getElem? (i := 6) rfl)).2.1
  have p7 : ck_lk E 67 (21 + 0) = 0 + (1 * σ 7 + 0) := (hP _ (List.mem_of_getElem? (i := 7) rfl)).2.2
  have q7 : (0 : Int) ≤ 21 + 0 := (hP _ (List.mem_of_getElem? (i := 7) rfl)).2.1
  have p8 : ck_lk E 67 (22 + 0) = 0 + (1 * σ 8 + 0) := (hP _ (List.mem_of_getElem? (i := 8) rfl)).2.2
  have q8 : (0 : Int) ≤ 22 + 0 := (hP _ (List.mem_of_getElem? (i := 8) rfl)).2.1
  have p9 : ck_lk E 67 (23 + 0) = 0 + (1 * σ 9 + 0) := (hP _ (List.mem_of_getElem? (i := 9) rfl)).2.2
  have q9 : (0 : Int) ≤ 23 + 0 := (hP _ (List.mem_of_getElem? (i := 9) rfl)).2.1
  have p10 : ck_lk E 67 (0 + 0) = 0 + (1 * σ 10 + 0) := (hP _ (List.mem_of_getElem? (i := 10) rfl)).2.2
  have q10 : (0 : Int) ≤ 0 + 0 := (hP _ (List.mem_of_getElem? (i := 10) rfl)).2.1
  have p11 : ck_lk E 67 (1 + 0) = 0 + (1 * σ 11 + 0) := (hP _ (List.mem_of_getElem? (i := 11) rfl)).2.2
  have q11 : (0 : Int) ≤ 1 + 0 := (hP _ (List.mem_of_getElem? (i := 11) rfl)).2.1
  have p12 : ck_lk E 67 (2 + 0) = 0 + (1 * σ 12 + 0) := (hP _ (List.mem_of_getElem? (i := 12) rfl)).2.2
  have q12 : (0 : Int) ≤ 2 + 0 := (hP _ (List.mem_of_getElem? (i := 12) rfl)).2.1
  have p13 : ck_lk E 67 (3 + 0) = 0 + (1 * σ 13 + 0) := (hP _ (List.mem_of_getElem? (i := 13) rfl)).2.2
  have q13 : (0 : Int) ≤ 3 + 0 := (hP _ (List.mem_of_getElem? (i := 13) rfl)).2.1
  have p14 : ck_lk E 67 (4 + 0) = 0 + (1 * σ 14 + 0) := (hP _ (List.mem_of_getElem? (i := 14) rfl)).2.2
  have q14 : (0 : Int) ≤ 4 + 0 := (hP _ (List.mem_of_getElem? (i := 14) rfl)).2.1
  have p15 : ck_lk E 67 (5 + 0) = 0 + (1 * σ 15 + 0) := (hP _ (List.mem_of_getElem? (i := 15) rfl)).2.2
  have q15 : (0 : Int) ≤ 5 + 0 := (hP _ (List.mem_of_getElem? (i := 15) rfl)).2.1
  have g0 : ck_FL 3 E := hΦ _ (List.mem_of_getElem? (i := 0) rfl)
  have key : (ck_FL 0 E ∧ True) := by
    rw [kc (i := 3) (by decide) (by decide)] at p0
    rw [kc (i := 0) (by decide) (by decide)] at p1
    rw [kc (i := 7) (by decide) (by decide)] at p2
    rw [kc (i := 1) (by decide) (by decide)] at p3
    rw [kc (i := 18) (by decide) (by decide)] at p4
    rw [kc (i := 0) (by decide) (by decide)] at p10
    rw [kc (i := 19) (by decide) (by decide)] at p5
    rw [kc (i := 1) (by decide) (by decide)] at p11
    rw [kc (i := 20) (by decide) (by decide)] at p6
    rw [kc (i := 2) (by decide) (by decide)] at p12
    rw [kc (i := 21) (by decide) (by decide)] at p7
    rw [kc (i := 3) (by decide) (by decide)] at p13
    rw [kc (i := 22) (by decide) (by decide)] at p8
    rw [kc (i := 4) (by decide) (by decide)] at p14
    rw [kc (i := 23) (by decide) (by decide)] at p9
    rw [kc (i := 5) (by decide) (by decide)] at p15
    refine ⟨?_, trivial⟩
    unfold ck_FL at g0 ⊢
    rw [if_pos (by decide)] at g0
    rw [if_pos (by decide)]
    have g0 : (ck_loc (E 65) 3 = 0 ∧ ck_loc (E 70) 7 = 0) ∨ ∀ r : Int, 0 ≤ r → r < 6 → 1 ≤ ck_loc (E 67) (18 + r) := g0
    rcases g0 with ⟨z1, z2⟩ | h
    · refine Or.inl ⟨?_, ?_⟩
      · show ck_loc (E 65) 0 = 0
        omega
      · show ck_loc (E 70) 1 = 0
        omega
    refine Or.inr ?_
    intro r r0 r6
    show 1 ≤ ck_loc (E 67) (0 + r)
    have y0 : 1 ≤ ck_loc (E 67) 18 := h 0 (by decide) (by decide)
    have y1 : 1 ≤ ck_loc (E 67) 19 := h 1 (by decide) (by decide)
    have y2 : 1 ≤ ck_loc (E 67) 20 := h 2 (by decide) (by decide)
    have y3 : 1 ≤ ck_loc (E 67) 21 := h 3 (by decide) (by decide)
    have y4 : 1 ≤ ck_loc (E 67) 22 := h 4 (by decide) (by decide)
    have y5 : 1 ≤ ck_loc (E 67) 23 := h 5 (by decide) (by decide)
    have hr : r = 0 ∨ r = 1 ∨ r = 2 ∨ r = 3 ∨ r = 4 ∨ r = 5 := by omega
    rcases hr with rfl | rfl | rfl | rfl | rfl | rfl
    · show 1 ≤ ck_loc (E 67) 0
      omega
    · show 1 ≤ ck_loc (E 67) 1
      omega
    · show 1 ≤ ck_loc (E 67) 2
      omega
    · show 1 ≤ ck_loc (E 67) 3
      omega
    · show 1 ≤ ck_loc (E 67) 4
      omega
    · show 1 ≤ ck_loc (E 67) 5
      omega
  obtain ⟨k0, -⟩ := key
  exact ⟨_, (List.mem_of_getElem? (i := 0) rfl), σ, ck_ag_rf, (fun _ h => absurd h List.not_mem_nil), (fun _ h => absurd h List.not_mem_nil), trivial, (fun _ h => absurd h List.not_mem_nil), (List.forall_mem_cons.mpr ⟨k0, (fun _ h => absurd h List.not_mem_nil)⟩)⟩
theorem ccFW_3_0 {l : Launch} {D : va_G} {kp : Nat → ClassId} : ck_con l D kp ck_NN ceFW_3_0 := ck_con_g rfl rpFW_3_0
theorem rpFC : ck_gcon ceFC := by
  intro σ E hgi hF hP hΦ
  have f0 : (0 : Int) ≤ (-1) + (1 * σ 0 + 0) := hF _ (List.mem_of_getElem? (i := 0) rfl)
  have f1 : (0 : Int) ≤ (-1) + (1 * σ 1 + 0) := hF _ (List.mem_of_getElem? (i := 1) rfl)
  have f2 : (0 : Int) ≤ (-1) + (1 * σ 2 + 0) := hF _ (List.mem_of_getElem? (i := 2) rfl)
  have f3 : (0 : Int) ≤ (-1) + (1 * σ 3 + 0) := hF _ (List.mem_of_getElem? (i := 3) rfl)
  have f4 : (0 : Int) ≤ (-1) + (1 * σ 4 + 0) := hF _ (List.mem_of_getElem? (i := 4) rfl)
  have f5 : (0 : Int) ≤ (-1) + (1 * σ 5 + 0) := hF _ (List.mem_of_getElem? (i := 5) rfl)
  have p0 : ck_lk E 67 (24 + 0) = 0 + (1 * σ 0 + 0) := (hP _ (List.mem_of_getElem? (i := 0) rfl)).2.2
  have q0 : (0 : Int) ≤ 24 + 0 := (hP _ (List.mem_of_getElem? (i := 0) rfl)).2.1
  have p1 : ck_lk E 67 (25 + 0) = 0 + (1 * σ 1 + 0) := (hP _ (List.mem_of_getElem? (i := 1) rfl)).2.2
  have q1 : (0 : Int) ≤ 25 + 0 := (hP _ (List.mem_of_getElem? (i := 1) rfl)).2.1
  have p2 : ck_lk E 67 (26 + 0) = 0 + (1 * σ 2 + 0) := (hP _ (List.mem_of_getElem? (i := 2) rfl)).2.2
  have q2 : (0 : Int) ≤ 26 + 0 := (hP _ (List.mem_of_getElem? (i := 2) rfl)).2.1
  have p3 : ck_lk E 67 (27 + 0) = 0 + (1 * σ 3 + 0) := (hP _ (List.mem_of_getElem? (i := 3) rfl)).2.2
  have q3 : (0 : Int) ≤ 27 + 0 := (hP _ (List.mem_of_getElem? (i := 3) rfl)).2.1
  have p4 : ck_lk E 67 (28 + 0) = 0 + (1 * σ 4 + 0) := (hP _ (List.mem_of_getElem? (i := 4) rfl)).2.2
  have q4 : (0 : Int) ≤ 28 + 0 := (hP _ (List.mem_of_getElem? (i := 4) rfl)).2.1
  have p5 : ck_lk E 67 (29 + 0) = 0 + (1 * σ 5 + 0) := (hP _ (List.mem_of_getElem? (i := 5) rfl)).2.2
  have q5 : (0 : Int) ≤ 29 + 0 := (hP _ (List.mem_of_getElem? (i := 5) rfl)).2.1
  have key : (ck_FL 14 E ∧ True) := by
    rw [kc (i := 24) (by decide) (by decide)] at p0
    rw [kc (i := 25) (by decide) (by decide)] at p1
    rw [kc (i := 26) (by decide) (by decide)] at p2
    rw [kc (i := 27) (by decide) (by decide)] at p3
    rw [kc (i := 28) (by decide) (by decide)] at p4
    rw [kc (i := 29) (by decide) (by decide)] at p5
    refine ⟨?_, trivial⟩
    unfold ck_FL
    rw [if_neg (by decide)]
    intro r r0 r6
    show 1 ≤ ck_loc (E 67) (24 + r)
    have hr : r = 0 ∨ r = 1 ∨ r = 2 ∨ r = 3 ∨ r = 4 ∨ r = 5 := by omega
    rcases hr with rfl | rfl | rfl | rfl | rfl | rfl
    · show 1 ≤ ck_loc (E 67) 24
      omega
    · show 1 ≤ ck_loc (E 67) 25
      omega
    · show 1 ≤ ck_loc (E 67) 26
      omega
    · show 1 ≤ ck_loc (E 67) 27
      omega
    · show 1 ≤ ck_loc (E 67) 28
      omega
    · show 1 ≤ ck_loc (E 67) 29
      omega
  obtain ⟨k0, -⟩ := key
  exact ⟨_, (List.mem_of_getElem? (i := 0) rfl), σ, ck_ag_rf, (fun _ h => absurd h List.not_mem_nil), (fun _ h => absurd h List.not_mem_nil), trivial, (fun _ h => absurd h List.not_mem_nil), (List.forall_mem_cons.mpr ⟨k0, (fun _ h => absurd h List.not_mem_nil)⟩)⟩
theorem ccFC {l : Launch} {D : va_G} {kp : Nat → ClassId} : ck_con l D kp ck_NN ceFC := ck_con_g rfl rpFC
theorem rpV0 : ck_gcon ceV0 := by
  intro σ E hgi hF hP hΦ
  have f0 : (0 : Int) ≤ 0 + (1 * σ 0 + 0) := hF _ (List.mem_of_getElem? (i := 0) rfl)
  have f1 : (0 : Int) ≤ 3 + ((-1) * σ 0 + 0) := hF _ (List.mem_of_getElem? (i := 1) rfl)
  have f2 : (0 : Int) ≤ 0 + (1 * σ 1 + 0) := hF _ (List.mem_of_getElem? (i := 2) rfl)
  have f3 : (0 : Int) ≤ 6 + ((-1) * σ 1 + 0) := hF _ (List.mem_of_getElem? (i := 3) rfl)
  have key : (((0 : Int) ≤ 0 + (1000 * σ 0 + (1 * σ 1 + 0)) ∧ ck_lk E 106 (0 + (1000 * σ 0 + (1 * σ 1 + 0))) = 1 + 0) ∧ True) := by
    refine ⟨⟨by omega, ?_⟩, trivial⟩
    rw [k106 (s := σ 0) (n := 0) (m := σ 1) (by omega) (by omega) (by omega) (by omega) (by omega)]
    refine (cb_t ?_).trans rfl
    intro i h1 h2
    omega
  obtain ⟨k0, -⟩ := key
  exact ⟨_, (List.mem_of_getElem? (i := 0) rfl), σ, ck_ag_rf, (fun _ h => absurd h List.not_mem_nil), (fun _ h => absurd h List.not_mem_nil), trivial, (List.forall_mem_cons.mpr ⟨⟨⟨ck_wb_ok rfl, ck_wb_ok rfl⟩, k0⟩, (fun _ h => absurd h List.not_mem_nil)⟩), (fun _ h => absurd h List.not_mem_nil)⟩
theorem ccV0 {l : Launch} {D : va_G} {kp : Nat → ClassId} : ck_con l D kp ck_NN ceV0 := ck_con_g rfl rpV0
theorem rpV1 : ck_gcon ceV1 := by
  intro σ E hgi hF hP hΦ
  have f0 : (0 : Int) ≤ 0 + (1 * σ 0 + 0) := hF _ (List.mem_of_getElem? (i := 0) rfl)
  have f1 : (0 : Int) ≤ 3 + ((-1) * σ 0 + 0) := hF _ (List.mem_of_getElem? (i := 1) rfl)
  have f2 : (0 : Int) ≤ 0 + (1 * σ 1 + 0) := hF _ (List.mem_of_getElem? (i := 2) rfl)
  have f3 : (0 : Int) ≤ 59 + ((-1) * σ 1 + 0) := hF _ (List.mem_of_getElem? (i := 3) rfl)
  have f4 : (0 : Int) ≤ 0 + (1 * σ 2 + 0) := hF _ (List.mem_of_getElem? (i := 4) rfl)
  have f5 : (0 : Int) ≤ 6 + ((-1) * σ 2 + 0) := hF _ (List.mem_of_getElem? (i := 5) rfl)
  have f6 : (0 : Int) ≤ (-1) + (1 * σ 3 + 0) := hF _ (List.mem_of_getElem? (i := 6) rfl)
  have f7 : (0 : Int) ≤ 0 + (1 * σ 4 + 0) := hF _ (List.mem_of_getElem? (i := 7) rfl)
  have f8 : (0 : Int) ≤ 99 + ((-1) * σ 4 + 0) := hF _ (List.mem_of_getElem? (i := 8) rfl)
  have f9 : (0 : Int) ≤ (-1) + (1 * σ 2 + ((-1) * σ 5 + 0)) := hF _ (List.mem_of_getElem? (i := 9) rfl)
  have p0 : ck_lk E 106 (0 + (1000 * σ 0 + (10 * σ 1 + (1 * σ 2 + 0)))) = 0 + (1 * σ 3 + 0) := (hP _ (List.mem_of_getElem? (i := 0) rfl)).2.2
  have q0 : (0 : Int) ≤ 0 + (1000 * σ 0 + (10 * σ 1 + (1 * σ 2 + 0))) := (hP _ (List.mem_of_getElem? (i := 0) rfl)).2.1
  have p1 : ck_lk E 61 (0 + (60 * σ 0 + (1 * σ 1 + 0))) = 0 + (1 * σ 4 + 0) := (hP _ (List.mem_of_getElem? (i := 1) rfl)).2.2
  have q1 : (0 : Int) ≤ 0 + (60 * σ 0 + (1 * σ 1 + 0)) := (hP _ (List.mem_of_getElem? (i := 1) rfl)).2.1
  have p2 : ck_lk E 207 (170141183460469231731687303715884105738 + (18446744073709551616 * σ 4 + 0)) = 0 + (1 * σ 5 + 0) := (hP _ (List.mem_of_getElem? (i := 2) rfl)).2.2
  have q2 : (0 : Int) ≤ 170141183460469231731687303715884105738 + (18446744073709551616 * σ 4 + 0) := (hP _ (List.mem_of_getElem? (i := 2) rfl)).2.1
  have key : (((0 : Int) ≤ 10 + (1000 * σ 0 + (10 * σ 1 + (1 * σ 2 + 0))) ∧ ck_lk E 106 (10 + (1000 * σ 0 + (10 * σ 1 + (1 * σ 2 + 0)))) = 1 + 0) ∧ True) := by
    rw [k106 (s := σ 0) (n := σ 1) (m := σ 2) (by omega) (by omega) (by omega) (by omega) (by omega)] at p0
    have hp := cb_ge p0 (by omega)
    rw [kc (i := 60 * σ 0 + σ 1) (by decide) (by omega)] at p1
    rw [k207 (a := σ 4) (b := 10) (by omega) (by omega) (by omega), Int.tmod_eq_emod_of_nonneg (by omega)] at p2
    refine ⟨⟨by omega, ?_⟩, trivial⟩
    rw [k106 (s := σ 0) (n := σ 1 + 1) (m := σ 2) (by omega) (by omega) (by omega) (by omega) (by omega)]
    refine (cb_t ?_).trans rfl
    intro i h1 h2
    by_cases hi : i = σ 1
    · rw [hi, p1]; omega
    · exact hp i h1 (by omega)
  obtain ⟨k0, -⟩ := key
  exact ⟨_, (List.mem_of_getElem? (i := 0) rfl), σ, ck_ag_rf, (fun _ h => absurd h List.not_mem_nil), (fun _ h => absurd h List.not_mem_nil), trivial, (List.forall_mem_cons.mpr ⟨⟨⟨ck_wb_ok rfl, ck_wb_ok rfl⟩, k0⟩, (fun _ h => absurd h List.not_mem_nil)⟩), (fun _ h => absurd h List.not_mem_nil)⟩
theorem ccV1 {l : Launch} {D : va_G} {kp : Nat → ClassId} : ck_con l D kp ck_NN ceV1 := ck_con_g rfl rpV1
theorem rpV2 : ck_gcon ceV2 := by
  intro σ E hgi hF hP hΦ
  have f0 : (0 : Int) ≤ 0 + (1 * σ 0 + 0) := hF _ (List.mem_of_getElem? (i := 0) rfl)
  have f1 : (0 : Int) ≤ 3 + ((-1) * σ 0 + 0) := hF _ (List.mem_of_getElem? (i := 1) rfl)
  have f2 : (0 : Int) ≤ 0 + (1 * σ 1 + 0) := hF _ (List.mem_of_getElem? (i := 2) rfl)
  have f3 : (0 : Int) ≤ (-1) + ((-1) * σ 1 + (1 * σ 3 + 0)) := hF _ (List.mem_of_getElem? (i := 3) rfl)
  have f4 : (0 : Int) ≤ 60 + ((-1) * σ 3 + 0) := hF _ (List.mem_of_getElem? (i := 4) rfl)
  have f5 : (0 : Int) ≤ 0 + (1 * σ 2 + 0) := hF _ (List.mem_of_getElem? (i := 5) rfl)
  have f6 : (0 : Int) ≤ 6 + ((-1) * σ 2 + 0) := hF _ (List.mem_of_getElem? (i := 6) rfl)
  have f7 : (0 : Int) ≤ (-1) + (1 * σ 4 + 0) := hF _ (List.mem_of_getElem? (i := 7) rfl)
  have p0 : ck_lk E 60 (0 + (1 * σ 0 + 0)) = 0 + (1 * σ 3 + 0) := (hP _ (List.mem_of_getElem? (i := 0) rfl)).2.2
  have q0 : (0 : Int) ≤ 0 + (1 * σ 0 + 0) := (hP _ (List.mem_of_getElem? (i := 0) rfl)).2.1
  have p1 : ck_lk E 106 (0 + (1000 * σ 0 + (1 * σ 2 + (10 * σ 3 + 0)))) = 0 + (1 * σ 4 + 0) := (hP _ (List.mem_of_getElem? (i := 1) rfl)).2.2
  have q1 : (0 : Int) ≤ 0 + (1000 * σ 0 + (1 * σ 2 + (10 * σ 3 + 0))) := (hP _ (List.mem_of_getElem? (i := 1) rfl)).2.1
  have p2 : ck_lk E 61 (0 + (60 * σ 0 + (1 * σ 1 + 0))) = 0 + (1 * σ 5 + 0) := (hP _ (List.mem_of_getElem? (i := 2) rfl)).2.2
  have q2 : (0 : Int) ≤ 0 + (60 * σ 0 + (1 * σ 1 + 0)) := (hP _ (List.mem_of_getElem? (i := 2) rfl)).2.1
  have key : ((0 : Int) ≤ 0 + (1 * σ 5 + 0) ∧ (0 : Int) ≤ 99 + ((-1) * σ 5 + 0) ∧ True) := by
    rw [k106 (s := σ 0) (n := σ 3) (m := σ 2) (by omega) (by omega) (by omega) (by omega) (by omega)] at p1
    have hp := cb_ge p1 (by omega) (σ 1) (by omega) (by omega)
    rw [kc (i := 60 * σ 0 + σ 1) (by decide) (by omega)] at p2
    rw [p2] at hp
    exact ⟨by omega, by omega, trivial⟩
  obtain ⟨k0, k1, -⟩ := key
  exact ⟨_, (List.mem_of_getElem? (i := 0) rfl), σ, ck_ag_rf, (List.forall_mem_cons.mpr ⟨k0, (List.forall_mem_cons.mpr ⟨k1, (fun _ h => absurd h List.not_mem_nil)⟩)⟩), (fun f hf => ck_wb_ok (List.all_eq_true.mp (show List.all _ (ck_wb 6) = true from rfl) f hf)), trivial, (fun _ h => absurd h List.not_mem_nil), (fun _ h => absurd h List.not_mem_nil)⟩
theorem ccV2 {l : Launch} {D : va_G} {kp : Nat → ClassId} : ck_con l D kp ck_NN ceV2 := ck_con_g rfl rpV2
theorem rpV3 : ck_gcon ceV3 := by
  intro σ E hgi hF hP hΦ
  have f0 : (0 : Int) ≤ 0 + (1 * σ 0 + 0) := hF _ (List.mem_of_getElem? (i := 0) rfl)
  have f1 : (0 : Int) ≤ 3 + ((-1) * σ 0 + 0) := hF _ (List.mem_of_getElem? (i := 1) rfl)
  have f2 : (0 : Int) ≤ 0 + (1 * σ 1 + 0) := hF _ (List.mem_of_getElem? (i := 2) rfl)
  have f3 : (0 : Int) ≤ (-1) + ((-1) * σ 1 + (1 * σ 3 + 0)) := hF _ (List.mem_of_getElem? (i := 3) rfl)
  have f4 : (0 : Int) ≤ 60 + ((-1) * σ 3 + 0) := hF _ (List.mem_of_getElem? (i := 4) rfl)
  have f5 : (0 : Int) ≤ 0 + (1 * σ 2 + 0) := hF _ (List.mem_of_getElem? (i := 5) rfl)
  have f6 : (0 : Int) ≤ 6 + ((-1) * σ 2 + 0) := hF _ (List.mem_of_getElem? (i := 6) rfl)
  have f7 : (0 : Int) ≤ (-1) + (1 * σ 4 + 0) := hF _ (List.mem_of_getElem? (i := 7) rfl)
  have f8 : (0 : Int) ≤ 0 + (1 * σ 5 + 0) := hF _ (List.mem_of_getElem? (i := 8) rfl)
  have f9 : (0 : Int) ≤ 99 + ((-1) * σ 5 + 0) := hF _ (List.mem_of_getElem? (i := 9) rfl)
  have p0 : ck_lk E 60 (0 + (1 * σ 0 + 0)) = 0 + (1 * σ 3 + 0) := (hP _ (List.mem_of_getElem? (i := 0) rfl)).2.2
  have q0 : (0 : Int) ≤ 0 + (1 * σ 0 + 0) := (hP _ (List.mem_of_getElem? (i := 0) rfl)).2.1
  have p1 : ck_lk E 106 (0 + (1000 * σ 0 + (1 * σ 2 + (10 * σ 3 + 0)))) = 0 + (1 * σ 4 + 0) := (hP _ (List.mem_of_getElem? (i := 1) rfl)).2.2
  have q1 : (0 : Int) ≤ 0 + (1000 * σ 0 + (1 * σ 2 + (10 * σ 3 + 0))) := (hP _ (List.mem_of_getElem? (i := 1) rfl)).2.1
  have p2 : ck_lk E 61 (0 + (60 * σ 0 + (1 * σ 1 + 0))) = 0 + (1 * σ 5 + 0) := (hP _ (List.mem_of_getElem? (i := 2) rfl)).2.2
  have q2 : (0 : Int) ≤ 0 + (60 * σ 0 + (1 * σ 1 + 0)) := (hP _ (List.mem_of_getElem? (i := 2) rfl)).2.1
  have p3 : ck_lk E 201 (9223372036854775818 + (4294967296 * σ 5 + 0)) = 0 + (1 * σ 6 + 0) := (hP _ (List.mem_of_getElem? (i := 3) rfl)).2.2
  have q3 : (0 : Int) ≤ 9223372036854775818 + (4294967296 * σ 5 + 0) := (hP _ (List.mem_of_getElem? (i := 3) rfl)).2.1
  have key : ((0 : Int) ≤ (-1) + (1 * σ 2 + ((-1) * σ 6 + 0)) ∧ True) := by
    rw [k106 (s := σ 0) (n := σ 3) (m := σ 2) (by omega) (by omega) (by omega) (by omega) (by omega)] at p1
    have hp := cb_ge p1 (by omega) (σ 1) (by omega) (by omega)
    rw [kc (i := 60 * σ 0 + σ 1) (by decide) (by omega)] at p2
    rw [p2] at hp
    rw [k201 (a := σ 5) (b := 10) (by omega) (by omega) (by omega), Int.tmod_eq_emod_of_nonneg (by omega)] at p3
    exact ⟨by omega, trivial⟩
  obtain ⟨k0, -⟩ := key
  exact ⟨_, (List.mem_of_getElem? (i := 0) rfl), σ, ck_ag_rf, (List.forall_mem_cons.mpr ⟨k0, (fun _ h => absurd h List.not_mem_nil)⟩), (fun f hf => ck_wb_ok (List.all_eq_true.mp (show List.all _ (ck_wb 7) = true from rfl) f hf)), trivial, (fun _ h => absurd h List.not_mem_nil), (fun _ h => absurd h List.not_mem_nil)⟩
theorem ccV3 {l : Launch} {D : va_G} {kp : Nat → ClassId} : ck_con l D kp ck_NN ceV3 := ck_con_g rfl rpV3
theorem rpWU_0 : ck_gcon ceWU_0 := by
  intro σ E hgi hF hP hΦ
  have key : (∃ v0 : Int, (0 : Int) ≤ 0 + (1 * v0 + 0) ∧ (0 : Int) ≤ 1 + ((-1) * v0 + 0) ∧ ((0 : Int) ≤ 0 + 0 ∧ ck_lk E 108 (0 + 0) = 0 + (1 * v0 + 0)) ∧ True) := by
    have hb : 0 ≤ ck_lk E 108 (0 + 0) ∧ ck_lk E 108 (0 + 0) ≤ 1 := by rw [ck_lk_v (by decide)]; exact cb_le _
    exact ⟨ck_lk E 108 (0 + 0), by omega, by omega, ⟨by decide, by omega⟩, trivial⟩
  obtain ⟨v0, k0, k1, k2, -⟩ := key
  exact ⟨_, (List.mem_of_getElem? (i := 0) rfl), (fun i => if i = 0 then v0 else σ i), (fun i hi => by show (if i = 0 then v0 else σ i) = σ i; rw [if_neg (show ¬ i = 0 by have : i < 0 := hi; omega)]), (List.forall_mem_cons.mpr ⟨k0, (List.forall_mem_cons.mpr ⟨k1, (fun _ h => absurd h List.not_mem_nil)⟩)⟩), (fun f hf => ck_wb_ok (List.all_eq_true.mp (show List.all _ (ck_wb 1) = true from rfl) f hf)), trivial, (List.forall_mem_cons.mpr ⟨⟨⟨ck_wb_ok rfl, ck_wb_ok rfl⟩, k2⟩, (fun _ h => absurd h List.not_mem_nil)⟩), (fun _ h => absurd h List.not_mem_nil)⟩
theorem ccWU_0 {l : Launch} {D : va_G} {kp : Nat → ClassId} : ck_con l D kp ck_NN ceWU_0 := ck_con_g rfl rpWU_0
theorem rpWU_1 : ck_gcon ceWU_1 := by
  intro σ E hgi hF hP hΦ
  have key : (∃ v0 : Int, (0 : Int) ≤ 0 + (1 * v0 + 0) ∧ (0 : Int) ≤ 1 + ((-1) * v0 + 0) ∧ ((0 : Int) ≤ 1 + 0 ∧ ck_lk E 108 (1 + 0) = 0 + (1 * v0 + 0)) ∧ True) := by
    have hb : 0 ≤ ck_lk E 108 (1 + 0) ∧ ck_lk E 108 (1 + 0) ≤ 1 := by rw [ck_lk_v (by decide)]; exact cb_le _
    exact ⟨ck_lk E 108 (1 + 0), by omega, by omega, ⟨by decide, by omega⟩, trivial⟩
  obtain ⟨v0, k0, k1, k2, -⟩ := key
  exact ⟨_, (List.mem_of_getElem? (i := 0) rfl), (fun i => if i = 0 then v0 else σ i), (fun i hi => by show (if i = 0 then v0 else σ i) = σ i; rw [if_neg (show ¬ i = 0 by have : i < 0 := hi; omega)]), (List.forall_mem_cons.mpr ⟨k0, (List.forall_mem_cons.mpr ⟨k1, (fun _ h => absurd h List.not_mem_nil)⟩)⟩), (fun f hf => ck_wb_ok (List.all_eq_true.mp (show List.all _ (ck_wb 1) = true from rfl) f hf)), trivial, (List.forall_mem_cons.mpr ⟨⟨⟨ck_wb_ok rfl, ck_wb_ok rfl⟩, k2⟩, (fun _ h => absurd h List.not_mem_nil)⟩), (fun _ h => absurd h List.not_mem_nil)⟩
theorem ccWU_1 {l : Launch} {D : va_G} {kp : Nat → ClassId} : ck_con l D kp ck_NN ceWU_1 := ck_con_g rfl rpWU_1
theorem rpWU_2 : ck_gcon ceWU_2 := by
  intro σ E hgi hF hP hΦ
  have key : (∃ v0 : Int, (0 : Int) ≤ 0 + (1 * v0 + 0) ∧ (0 : Int) ≤ 1 + ((-1) * v0 + 0) ∧ ((0 : Int) ≤ 2 + 0 ∧ ck_lk E 108 (2 + 0) = 0 + (1 * v0 + 0)) ∧ True) := by
    have hb : 0 ≤ ck_lk E 108 (2 + 0) ∧ ck_lk E 108 (2 + 0) ≤ 1 := by rw [ck_lk_v (by decide)]; exact cb_le _
    exact ⟨ck_lk E 108 (2 + 0), by omega, by omega, ⟨by decide, by omega⟩, trivial⟩
  obtain ⟨v0, k0, k1, k2, -⟩ := key
  exact ⟨_, (List.mem_of_getElem? (i := 0) rfl), (fun i => if i = 0 then v0 else σ i), (fun i hi => by show (if i = 0 then v0 else σ i) = σ i; rw [if_neg (show ¬ i = 0 by have : i < 0 := hi; omega)]), (List.forall_mem_cons.mpr ⟨k0, (List.forall_mem_cons.mpr ⟨k1, (fun _ h => absurd h List.not_mem_nil)⟩)⟩), (fun f hf => ck_wb_ok (List.all_eq_true.mp (show List.all _ (ck_wb 1) = true from rfl) f hf)), trivial, (List.forall_mem_cons.mpr ⟨⟨⟨ck_wb_ok rfl, ck_wb_ok rfl⟩, k2⟩, (fun _ h => absurd h List.not_mem_nil)⟩), (fun _ h => absurd h List.not_mem_nil)⟩
theorem ccWU_2 {l : Launch} {D : va_G} {kp : Nat → ClassId} : ck_con l D kp ck_NN ceWU_2 := ck_con_g rfl rpWU_2
theorem rpWU_3 : ck_gcon ceWU_3 := by
  intro σ E hgi hF hP hΦ
  have key : (∃ v0 : Int, (0 : Int) ≤ 0 + (1 * v0 + 0) ∧ (0 : Int) ≤ 1 + ((-1) * v0 + 0) ∧ ((0 : Int) ≤ 3 + 0 ∧ ck_lk E 108 (3 + 0) = 0 + (1 * v0 + 0)) ∧ True) := by
    have hb : 0 ≤ ck_lk E 108 (3 + 0) ∧ ck_lk E 108 (3 + 0) ≤ 1 := by rw [ck_lk_v (by decide)]; exact cb_le _
    exact ⟨ck_lk E 108 (3 + 0), by omega, by omega, ⟨by decide, by omega⟩, trivial⟩
  obtain ⟨v0, k0, k1, k2, -⟩ := key
  exact ⟨_, (List.mem_of_getElem? (i := 0) rfl), (fun i => if i = 0 then v0 else σ i), (fun i hi => by show (if i = 0 then v0 else σ i) = σ i; rw [if_neg (show ¬ i = 0 by have : i < 0 := hi; omega)]), (List.forall_mem_cons.mpr ⟨k0, (List.forall_mem_cons.mpr ⟨k1, (fun _ h => absurd h List.not_mem_nil)⟩)⟩), (fun f hf => ck_wb_ok (List.all_eq_true.mp (show List.all _ (ck_wb 1) = true from rfl) f hf)), trivial, (List.forall_mem_cons.mpr ⟨⟨⟨ck_wb_ok rfl, ck_wb_ok rfl⟩, k2⟩, (fun _ h => absurd h List.not_mem_nil)⟩), (fun _ h => absurd h List.not_mem_nil)⟩
theorem ccWU_3 {l : Launch} {D : va_G} {kp : Nat → ClassId} : ck_con l D kp ck_NN ceWU_3 := ck_con_g rfl rpWU_3
theorem rpWU_4 : ck_gcon ceWU_4 := by
  intro σ E hgi hF hP hΦ
  have key : (∃ v0 : Int, (0 : Int) ≤ 0 + (1 * v0 + 0) ∧ (0 : Int) ≤ 1 + ((-1) * v0 + 0) ∧ ((0 : Int) ≤ 4 + 0 ∧ ck_lk E 108 (4 + 0) = 0 + (1 * v0 + 0)) ∧ True) := by
    have hb : 0 ≤ ck_lk E 108 (4 + 0) ∧ ck_lk E 108 (4 + 0) ≤ 1 := by rw [ck_lk_v (by decide)]; exact cb_le _
    exact ⟨ck_lk E 108 (4 + 0), by omega, by omega, ⟨by decide, by omega⟩, trivial⟩
  obtain ⟨v0, k0, k1, k2, -⟩ := key
  exact ⟨_, (List.mem_of_getElem? (i := 0) rfl), (fun i => if i = 0 then v0 else σ i), (fun i hi => by show (if i = 0 then v0 else σ i) = σ i; rw [if_neg (show ¬ i = 0 by have : i < 0 := hi; omega)]), (List.forall_mem_cons.mpr ⟨k0, (List.forall_mem_cons.mpr ⟨k1, (fun _ h => absurd h List.not_mem_nil)⟩)⟩), (fun f hf => ck_wb_ok (List.all_eq_true.mp (show List.all _ (ck_wb 1) = true from rfl) f hf)), trivial, (List.forall_mem_cons.mpr ⟨⟨⟨ck_wb_ok rfl, ck_wb_ok rfl⟩, k2⟩, (fun _ h => absurd h List.not_mem_nil)⟩), (fun _ h => absurd h List.not_mem_nil)⟩
theorem ccWU_4 {l : Launch} {D : va_G} {kp : Nat → ClassId} : ck_con l D kp ck_NN ceWU_4 := ck_con_g rfl rpWU_4
theorem rpWU_5 : ck_gcon ceWU_5 := by
  intro σ E hgi hF hP hΦ
  have key : (∃ v0 : Int, (0 : Int) ≤ 0 + (1 * v0 + 0) ∧ (0 : Int) ≤ 1 + ((-1) * v0 + 0) ∧ ((0 : Int) ≤ 5 + 0 ∧ ck_lk E 108 (5 + 0) = 0 + (1 * v0 + 0)) ∧ True) := by
    have hb : 0 ≤ ck_lk E 108 (5 + 0) ∧ ck_lk E 108 (5 + 0) ≤ 1 := by rw [ck_lk_v (by decide)]; exact cb_le _
    exact ⟨ck_lk E 108 (5 + 0), by omega, by omega, ⟨by decide, by omega⟩, trivial⟩
  obtain ⟨v0, k0, k1, k2, -⟩ := key
  exact ⟨_, (List.mem_of_getElem? (i := 0) rfl), (fun i => if i = 0 then v0 else σ i), (fun i hi => by show (if i = 0 then v0 else σ i) = σ i; rw [if_neg (show ¬ i = 0 by have : i < 0 := hi; omega)]), (List.forall_mem_cons.mpr ⟨k0, (List.forall_mem_cons.mpr ⟨k1, (fun _ h => absurd h List.not_mem_nil)⟩)⟩), (fun f hf => ck_wb_ok (List.all_eq_true.mp (show List.all _ (ck_wb 1) = true from rfl) f hf)), trivial, (List.forall_mem_cons.mpr ⟨⟨⟨ck_wb_ok rfl, ck_wb_ok rfl⟩, k2⟩, (fun _ h => absurd h List.not_mem_nil)⟩), (fun _ h => absurd h List.not_mem_nil)⟩
theorem ccWU_5 {l : Launch} {D : va_G} {kp : Nat → ClassId} : ck_con l D kp ck_NN ceWU_5 := ck_con_g rfl rpWU_5
theorem rpWS_65_0 : ck_scon ceWS_65_0 65 := by
  intro σ E e' idx v hargs hgi hF hP hΦ hgi2 h0 l1 l2
  cases hargs
  have h0 : (0 : Int) ≤ 0 + (1 * σ 0 + 0) := h0
  have l1 : ck_loc e' (0 + (1 * σ 0 + 0)) = 0 + (1 * σ 1 + 0) := l1
  have l2 : ∀ j, 0 ≤ j → ¬ j = 0 + (1 * σ 0 + 0) → ck_loc e' j = ck_loc (E 65) j := l2
  have f0 : (0 : Int) ≤ 0 + (1 * σ 0 + 0) := hF _ (List.mem_of_getElem? (i := 0) rfl)
  have f1 : (0 : Int) ≤ 0 + ((-1) * σ 0 + 0) := hF _ (List.mem_of_getElem? (i := 1) rfl)
  have p0 : ck_lk E 108 (1 + 0) = 0 + (1 * σ 2 + 0) := (hP _ (List.mem_of_getElem? (i := 0) rfl)).2.2
  have q0 : (0 : Int) ≤ 1 + 0 := (hP _ (List.mem_of_getElem? (i := 0) rfl)).2.1
  have p1 : ck_lk E 108 (2 + 0) = 0 + (1 * σ 3 + 0) := (hP _ (List.mem_of_getElem? (i := 1) rfl)).2.2
  have q1 : (0 : Int) ≤ 2 + 0 := (hP _ (List.mem_of_getElem? (i := 1) rfl)).2.1
  have p2 : ck_lk E 108 (3 + 0) = 0 + (1 * σ 4 + 0) := (hP _ (List.mem_of_getElem? (i := 2) rfl)).2.2
  have q2 : (0 : Int) ≤ 3 + 0 := (hP _ (List.mem_of_getElem? (i := 2) rfl)).2.1
  have p3 : ck_lk E 108 (4 + 0) = 0 + (1 * σ 5 + 0) := (hP _ (List.mem_of_getElem? (i := 3) rfl)).2.2
  have q3 : (0 : Int) ≤ 4 + 0 := (hP _ (List.mem_of_getElem? (i := 3) rfl)).2.1
  have p4 : ck_lk E 108 (5 + 0) = 0 + (1 * σ 6 + 0) := (hP _ (List.mem_of_getElem? (i := 4) rfl)).2.2
  have q4 : (0 : Int) ≤ 5 + 0 := (hP _ (List.mem_of_getElem? (i := 4) rfl)).2.1
  have key : (((0 : Int) ≤ 1 + 0 ∧ ck_lk (va_up E 65 e') 108 (1 + 0) = 0 + (1 * σ 2 + 0)) ∧ ((0 : Int) ≤ 2 + 0 ∧ ck_lk (va_up E 65 e') 108 (2 + 0) = 0 + (1 * σ 3 + 0)) ∧ ((0 : Int) ≤ 3 + 0 ∧ ck_lk (va_up E 65 e') 108 (3 + 0) = 0 + (1 * σ 4 + 0)) ∧ ((0 : Int) ≤ 4 + 0 ∧ ck_lk (va_up E 65 e') 108 (4 + 0) = 0 + (1 * σ 5 + 0)) ∧ ((0 : Int) ≤ 5 + 0 ∧ ck_lk (va_up E 65 e') 108 (5 + 0) = 0 + (1 * σ 6 + 0)) ∧ True) := by
    refine ⟨⟨by decide, ?_⟩, ⟨by decide, ?_⟩, ⟨by decide, ?_⟩, ⟨by decide, ?_⟩, ⟨by decide, ?_⟩, trivial⟩
    · rw [k108 (c := 1) (by decide)] at p0
      rw [k108 (c := 1) (by decide), vf_wx_st hgi hgi2 (by decide) (by decide) l2 ⟨fun _ => by omega, fun q => absurd q (by decide), fun q => absurd q (by decide), fun q => absurd q (by decide), fun q => absurd q (by decide)⟩]
      exact p0
    · rw [k108 (c := 2) (by decide)] at p1
      rw [k108 (c := 2) (by decide), vf_wx_st hgi hgi2 (by decide) (by decide) l2 ⟨fun _ => by omega, fun q => absurd q (by decide), fun q => absurd q (by decide), fun q => absurd q (by decide), fun q => absurd q (by decide)⟩]
      exact p1
    · rw [k108 (c := 3) (by decide)] at p2
      rw [k108 (c := 3) (by decide), vf_wx_st hgi hgi2 (by decide) (by decide) l2 ⟨fun _ => by omega, fun q => absurd q (by decide), fun q => absurd q (by decide), fun q => absurd q (by decide), fun q => absurd q (by decide)⟩]
      exact p2
    · rw [k108 (c := 4) (by decide)] at p3
      rw [k108 (c := 4) (by decide), vf_wx_st hgi hgi2 (by decide) (by decide) l2 ⟨fun _ => by omega, fun q => absurd q (by decide), fun q => absurd q (by decide), fun q => absurd q (by decide), fun q => absurd q (by decide)⟩]
      exact p3
    · rw [k108 (c := 5) (by decide)] at p4
      rw [k108 (c := 5) (by decide), vf_wx_st hgi hgi2 (by decide) (by decide) l2 ⟨fun _ => by omega, fun q => absurd q (by decide), fun q => absurd q (by decide), fun q => absurd q (by decide), fun q => absurd q (by decide)⟩]
      exact p4
  obtain ⟨k0, k1, k2, k3, k4, -⟩ := key
  exact ⟨_, (List.mem_of_getElem? (i := 0) rfl), σ, ck_ag_rf, (fun _ h => absurd h List.not_mem_nil), (fun _ h => absurd h List.not_mem_nil), trivial, (List.forall_mem_cons.mpr ⟨⟨⟨ck_wb_ok rfl, ck_wb_ok rfl⟩, k0⟩, (List.forall_mem_cons.mpr ⟨⟨⟨ck_wb_ok rfl, ck_wb_ok rfl⟩, k1⟩, (List.forall_mem_cons.mpr ⟨⟨⟨ck_wb_ok rfl, ck_wb_ok rfl⟩, k2⟩, (List.forall_mem_cons.mpr ⟨⟨⟨ck_wb_ok rfl, ck_wb_ok rfl⟩, k3⟩, (List.forall_mem_cons.mpr ⟨⟨⟨ck_wb_ok rfl, ck_wb_ok rfl⟩, k4⟩, (fun _ h => absurd h List.not_mem_nil)⟩)⟩)⟩)⟩)⟩), (fun _ h => absurd h List.not_mem_nil)⟩
theorem ccWS_65_0 {l : Launch} {D : va_G} {kp : Nat → ClassId} : ck_con l D kp ck_NN ceWS_65_0 := ck_con_s (k := 65) rfl rpWS_65_0
theorem rpWS_67_0 : ck_scon ceWS_67_0 67 := by
  intro σ E e' idx v hargs hgi hF hP hΦ hgi2 h0 l1 l2
  cases hargs
  have h0 : (0 : Int) ≤ 0 + (1 * σ 0 + 0) := h0
  have l1 : ck_loc e' (0 + (1 * σ 0 + 0)) = 0 + (1 * σ 1 + 0) := l1
  have l2 : ∀ j, 0 ≤ j → ¬ j = 0 + (1 * σ 0 + 0) → ck_loc e' j = ck_loc (E 67) j := l2
  have f0 : (0 : Int) ≤ 0 + (1 * σ 0 + 0) := hF _ (List.mem_of_getElem? (i := 0) rfl)
  have f1 : (0 : Int) ≤ 5 + ((-1) * σ 0 + 0) := hF _ (List.mem_of_getElem? (i := 1) rfl)
  have p0 : ck_lk E 108 (1 + 0) = 0 + (1 * σ 2 + 0) := (hP _ (List.mem_of_getElem? (i := 0) rfl)).2.2
  have q0 : (0 : Int) ≤ 1 + 0 := (hP _ (List.mem_of_getElem? (i := 0) rfl)).2.1
  have p1 : ck_lk E 108 (2 + 0) = 0 + (1 * σ 3 + 0) := (hP _ (List.mem_of_getElem? (i := 1) rfl)).2.2
  have q1 : (0 : Int) ≤ 2 + 0 := (hP _ (List.mem_of_getElem? (i := 1) rfl)).2.1
  have p2 : ck_lk E 108 (3 + 0) = 0 + (1 * σ 4 + 0) := (hP _ (List.mem_of_getElem? (i := 2) rfl)).2.2
  have q2 : (0 : Int) ≤ 3 + 0 := (hP _ (List.mem_of_getElem? (i := 2) rfl)).2.1
  have p3 : ck_lk E 108 (4 + 0) = 0 + (1 * σ 5 + 0) := (hP _ (List.mem_of_getElem? (i := 3) rfl)).2.2
  have q3 : (0 : Int) ≤ 4 + 0 := (hP _ (List.mem_of_getElem? (i := 3) rfl)).2.1
  have p4 : ck_lk E 108 (5 + 0) = 0 + (1 * σ 6 + 0) := (hP _ (List.mem_of_getElem? (i := 4) rfl)).2.2
  have q4 : (0 : Int) ≤ 5 + 0 := (hP _ (List.mem_of_getElem? (i := 4) rfl)).2.1
  have key : (((0 : Int) ≤ 1 + 0 ∧ ck_lk (va_up E 67 e') 108 (1 + 0) = 0 + (1 * σ 2 + 0)) ∧ ((0 : Int) ≤ 2 + 0 ∧ ck_lk (va_up E 67 e') 108 (2 + 0) = 0 + (1 * σ 3 + 0)) ∧ ((0 : Int) ≤ 3 + 0 ∧ ck_lk (va_up E 67 e') 108 (3 + 0) = 0 + (1 * σ 4 + 0)) ∧ ((0 : Int) ≤ 4 + 0 ∧ ck_lk (va_up E 67 e') 108 (4 + 0) = 0 + (1 * σ 5 + 0)) ∧ ((0 : Int) ≤ 5 + 0 ∧ ck_lk (va_up E 67 e') 108 (5 + 0) = 0 + (1 * σ 6 + 0)) ∧ True) := by
    refine ⟨⟨by decide, ?_⟩, ⟨by decide, ?_⟩, ⟨by decide, ?_⟩, ⟨by decide, ?_⟩, ⟨by decide, ?_⟩, trivial⟩
    · rw [k108 (c := 1) (by decide)] at p0
      rw [k108 (c := 1) (by decide), vf_wx_st hgi hgi2 (by decide) (by decide) l2 ⟨fun q => absurd q (by decide), fun _ => by omega, fun q => absurd q (by decide), fun q => absurd q (by decide), fun q => absurd q (by decide)⟩]
      exact p0
    · rw [k108 (c := 2) (by decide)] at p1
      rw [k108 (c := 2) (by decide), vf_wx_st hgi hgi2 (by decide) (by decide) l2 ⟨fun q => absurd q (by decide), fun _ => by omega, fun q => absurd q (by decide), fun q => absurd q (by decide), fun q => absurd q (by decide)⟩]
      exact p1
    · rw [k108 (c := 3) (by decide)] at p2
      rw [k108 (c := 3) (by decide), vf_wx_st hgi hgi2 (by decide) (by decide) l2 ⟨fun q => absurd q (by decide), fun _ => by omega, fun q => absurd q (by decide), fun q => absurd q (by decide), fun q => absurd q (by decide)⟩]
      exact p2
    · rw [k108 (c := 4) (by decide)] at p3
      rw [k108 (c := 4) (by decide), vf_wx_st hgi hgi2 (by decide) (by decide) l2 ⟨fun q => absurd q (by decide), fun _ => by omega, fun q => absurd q (by decide), fun q => absurd q (by decide), fun q => absurd q (by decide)⟩]
      exact p3
    · rw [k108 (c := 5) (by decide)] at p4
      rw [k108 (c := 5) (by decide), vf_wx_st hgi hgi2 (by decide) (by decide) l2 ⟨fun q => absurd q (by decide), fun _ => by omega, fun q => absurd q (by decide), fun q => absurd q (by decide), fun q => absurd q (by decide)⟩]
      exact p4
  obtain ⟨k0, k1, k2, k3, k4, -⟩ := key
  exact ⟨_, (List.mem_of_getElem? (i := 0) rfl), σ, ck_ag_rf, (fun _ h => absurd h List.not_mem_nil), (fun _ h => absurd h List.not_mem_nil), trivial, (List.forall_mem_cons.mpr ⟨⟨⟨ck_wb_ok rfl, ck_wb_ok rfl⟩, k0⟩, (List.forall_mem_cons.mpr ⟨⟨⟨ck_wb_ok rfl, ck_wb_ok rfl⟩, k1⟩, (List.forall_mem_cons.mpr ⟨⟨⟨ck_wb_ok rfl, ck_wb_ok rfl⟩, k2⟩, (List.forall_mem_cons.mpr ⟨⟨⟨ck_wb_ok rfl, ck_wb_ok rfl⟩, k3⟩, (List.forall_mem_cons.mpr ⟨⟨⟨ck_wb_ok rfl, ck_wb_ok rfl⟩, k4⟩, (fun _ h => absurd h List.not_mem_nil)⟩)⟩)⟩)⟩)⟩), (fun _ h => absurd h List.not_mem_nil)⟩
theorem ccWS_67_0 {l : Launch} {D : va_G} {kp : Nat → ClassId} : ck_con l D kp ck_NN ceWS_67_0 := ck_con_s (k := 67) rfl rpWS_67_0
theorem rpWS_69_0 : ck_scon ceWS_69_0 69 := by
  intro σ E e' idx v hargs hgi hF hP hΦ hgi2 h0 l1 l2
  cases hargs
  have h0 : (0 : Int) ≤ 0 + (1 * σ 0 + 0) := h0
  have l1 : ck_loc e' (0 + (1 * σ 0 + 0)) = 0 + (1 * σ 1 + 0) := l1
  have l2 : ∀ j, 0 ≤ j → ¬ j = 0 + (1 * σ 0 + 0) → ck_loc e' j = ck_loc (E 69) j := l2
  have f0 : (0 : Int) ≤ 0 + (1 * σ 0 + 0) := hF _ (List.mem_of_getElem? (i := 0) rfl)
  have f1 : (0 : Int) ≤ 47 + ((-1) * σ 0 + 0) := hF _ (List.mem_of_getElem? (i := 1) rfl)
  have p0 : ck_lk E 108 (1 + 0) = 0 + (1 * σ 2 + 0) := (hP _ (List.mem_of_getElem? (i := 0) rfl)).2.2
  have q0 : (0 : Int) ≤ 1 + 0 := (hP _ (List.mem_of_getElem? (i := 0) rfl)).2.1
  have p1 : ck_lk E 108 (2 + 0) = 0 + (1 * σ 3 + 0) := (hP _ (List.mem_of_getElem? (i := 1) rfl)).2.2
  have q1 : (0 : Int) ≤ 2 + 0 := (hP _ (List.mem_of_getElem? (i := 1) rfl)).2.1
  have p2 : ck_lk E 108 (3 + 0) = 0 + (1 * σ 4 + 0) := (hP _ (List.mem_of_getElem? (i := 2) rfl)).2.2
  have q2 : (0 : Int) ≤ 3 + 0 := (hP _ (List.mem_of_getElem? (i := 2) rfl)).2.1
  have p3 : ck_lk E 108 (4 + 0) = 0 + (1 * σ 5 + 0) := (hP _ (List.mem_of_getElem? (i := 3) rfl)).2.2
  have q3 : (0 : Int) ≤ 4 + 0 := (hP _ (List.mem_of_getElem? (i := 3) rfl)).2.1
  have p4 : ck_lk E 108 (5 + 0) = 0 + (1 * σ 6 + 0) := (hP _ (List.mem_of_getElem? (i := 4) rfl)).2.2
  have q4 : (0 : Int) ≤ 5 + 0 := (hP _ (List.mem_of_getElem? (i := 4) rfl)).2.1
  have key : (((0 : Int) ≤ 1 + 0 ∧ ck_lk (va_up E 69 e') 108 (1 + 0) = 0 + (1 * σ 2 + 0)) ∧ ((0 : Int) ≤ 2 + 0 ∧ ck_lk (va_up E 69 e') 108 (2 + 0) = 0 + (1 * σ 3 + 0)) ∧ ((0 : Int) ≤ 3 + 0 ∧ ck_lk (va_up E 69 e') 108 (3 + 0) = 0 + (1 * σ 4 + 0)) ∧ ((0 : Int) ≤ 4 + 0 ∧ ck_lk (va_up E 69 e') 108 (4 + 0) = 0 + (1 * σ 5 + 0)) ∧ ((0 : Int) ≤ 5 + 0 ∧ ck_lk (va_up E 69 e') 108 (5 + 0) = 0 + (1 * σ 6 + 0)) ∧ True) := by
    refine ⟨⟨by decide, ?_⟩, ⟨by decide, ?_⟩, ⟨by decide, ?_⟩, ⟨by decide, ?_⟩, ⟨by decide, ?_⟩, trivial⟩
    · rw [k108 (c := 1) (by decide)] at p0
      rw [k108 (c := 1) (by decide), vf_wx_st hgi hgi2 (by decide) (by decide) l2 ⟨fun q => absurd q (by decide), fun q => absurd q (by decide), fun _ => by omega, fun q => absurd q (by decide), fun q => absurd q (by decide)⟩]
      exact p0
    · rw [k108 (c := 2) (by decide)] at p1
      rw [k108 (c := 2) (by decide), vf_wx_st hgi hgi2 (by decide) (by decide) l2 ⟨fun q => absurd q (by decide), fun q => absurd q (by decide), fun _ => by omega, fun q => absurd q (by decide), fun q => absurd q (by decide)⟩]
      exact p1
    · rw [k108 (c := 3) (by decide)] at p2
      rw [k108 (c := 3) (by decide), vf_wx_st hgi hgi2 (by decide) (by decide) l2 ⟨fun q => absurd q (by decide), fun q => absurd q (by decide), fun _ => by omega, fun q => absurd q (by decide), fun q => absurd q (by decide)⟩]
      exact p2
    · rw [k108 (c := 4) (by decide)] at p3
      rw [k108 (c := 4) (by decide), vf_wx_st hgi hgi2 (by decide) (by decide) l2 ⟨fun q => absurd q (by decide), fun q => absurd q (by decide), fun _ => by omega, fun q => absurd q (by decide), fun q => absurd q (by decide)⟩]
      exact p3
    · rw [k108 (c := 5) (by decide)] at p4
      rw [k108 (c := 5) (by decide), vf_wx_st hgi hgi2 (by decide) (by decide) l2 ⟨fun q => absurd q (by decide), fun q => absurd q (by decide), fun _ => by omega, fun q => absurd q (by decide), fun q => absurd q (by decide)⟩]
      exact p4
  obtain ⟨k0, k1, k2, k3, k4, -⟩ := key
  exact ⟨_, (List.mem_of_getElem? (i := 0) rfl), σ, ck_ag_rf, (fun _ h => absurd h List.not_mem_nil), (fun _ h => absurd h List.not_mem_nil), trivial, (List.forall_mem_cons.mpr ⟨⟨⟨ck_wb_ok rfl, ck_wb_ok rfl⟩, k0⟩, (List.forall_mem_cons.mpr ⟨⟨⟨ck_wb_ok rfl, ck_wb_ok rfl⟩, k1⟩, (List.forall_mem_cons.mpr ⟨⟨⟨ck_wb_ok rfl, ck_wb_ok rfl⟩, k2⟩, (List.forall_mem_cons.mpr ⟨⟨⟨ck_wb_ok rfl, ck_wb_ok rfl⟩, k3⟩, (List.forall_mem_cons.mpr ⟨⟨⟨ck_wb_ok rfl, ck_wb_ok rfl⟩, k4⟩, (fun _ h => absurd h List.not_mem_nil)⟩)⟩)⟩)⟩)⟩), (fun _ h => absurd h List.not_mem_nil)⟩
theorem ccWS_69_0 {l : Launch} {D : va_G} {kp : Nat → ClassId} : ck_con l D kp ck_NN ceWS_69_0 := ck_con_s (k := 69) rfl rpWS_69_0
theorem rpWS_70_0 : ck_scon ceWS_70_0 70 := by
  intro σ E e' idx v hargs hgi hF hP hΦ hgi2 h0 l1 l2
  cases hargs
  have h0 : (0 : Int) ≤ 0 + (1 * σ 0 + 0) := h0
  have l1 : ck_loc e' (0 + (1 * σ 0 + 0)) = 0 + (1 * σ 1 + 0) := l1
  have l2 : ∀ j, 0 ≤ j → ¬ j = 0 + (1 * σ 0 + 0) → ck_loc e' j = ck_loc (E 70) j := l2
  have f0 : (0 : Int) ≤ 0 + (1 * σ 0 + 0) := hF _ (List.mem_of_getElem? (i := 0) rfl)
  have f1 : (0 : Int) ≤ 1 + ((-1) * σ 0 + 0) := hF _ (List.mem_of_getElem? (i := 1) rfl)
  have p0 : ck_lk E 108 (1 + 0) = 0 + (1 * σ 2 + 0) := (hP _ (List.mem_of_getElem? (i := 0) rfl)).2.2
  have q0 : (0 : Int) ≤ 1 + 0 := (hP _ (List.mem_of_getElem? (i := 0) rfl)).2.1
  have p1 : ck_lk E 108 (2 + 0) = 0 + (1 * σ 3 + 0) := (hP _ (List.mem_of_getElem? (i := 1) rfl)).2.2
  have q1 : (0 : Int) ≤ 2 + 0 := (hP _ (List.mem_of_getElem? (i := 1) rfl)).2.1
  have p2 : ck_lk E 108 (3 + 0) = 0 + (1 * σ 4 + 0) := (hP _ (List.mem_of_getElem? (i := 2) rfl)).2.2
  have q2 : (0 : Int) ≤ 3 + 0 := (hP _ (List.mem_of_getElem? (i := 2) rfl)).2.1
  have p3 : ck_lk E 108 (4 + 0) = 0 + (1 * σ 5 + 0) := (hP _ (List.mem_of_getElem? (i := 3) rfl)).2.2
  have q3 : (0 : Int) ≤ 4 + 0 := (hP _ (List.mem_of_getElem? (i := 3) rfl)).2.1
  have p4 : ck_lk E 108 (5 + 0) = 0 + (1 * σ 6 + 0) := (hP _ (List.mem_of_getElem? (i := 4) rfl)).2.2
  have q4 : (0 : Int) ≤ 5 + 0 := (hP _ (List.mem_of_getElem? (i := 4) rfl)).2.1
  have key : (((0 : Int) ≤ 1 + 0 ∧ ck_lk (va_up E 70 e') 108 (1 + 0) = 0 + (1 * σ 2 + 0)) ∧ ((0 : Int) ≤ 2 + 0 ∧ ck_lk (va_up E 70 e') 108 (2 + 0) = 0 + (1 * σ 3 + 0)) ∧ ((0 : Int) ≤ 3 + 0 ∧ ck_lk (va_up E 70 e') 108 (3 + 0) = 0 + (1 * σ 4 + 0)) ∧ ((0 : Int) ≤ 4 + 0 ∧ ck_lk (va_up E 70 e') 108 (4 + 0) = 0 + (1 * σ 5 + 0)) ∧ ((0 : Int) ≤ 5 + 0 ∧ ck_lk (va_up E 70 e') 108 (5 + 0) = 0 + (1 * σ 6 + 0)) ∧ True) := by
    refine ⟨⟨by decide, ?_⟩, ⟨by decide, ?_⟩, ⟨by decide, ?_⟩, ⟨by decide, ?_⟩, ⟨by decide, ?_⟩, trivial⟩
    · rw [k108 (c := 1) (by decide)] at p0
      rw [k108 (c := 1) (by decide), vf_wx_st hgi hgi2 (by decide) (by decide) l2 ⟨fun q => absurd q (by decide), fun q => absurd q (by decide), fun q => absurd q (by decide), fun _ => by omega, fun q => absurd q (by decide)⟩]
      exact p0
    · rw [k108 (c := 2) (by decide)] at p1
      rw [k108 (c := 2) (by decide), vf_wx_st hgi hgi2 (by decide) (by decide) l2 ⟨fun q => absurd q (by decide), fun q => absurd q (by decide), fun q => absurd q (by decide), fun _ => by omega, fun q => absurd q (by decide)⟩]
      exact p1
    · rw [k108 (c := 3) (by decide)] at p2
      rw [k108 (c := 3) (by decide), vf_wx_st hgi hgi2 (by decide) (by decide) l2 ⟨fun q => absurd q (by decide), fun q => absurd q (by decide), fun q => absurd q (by decide), fun _ => by omega, fun q => absurd q (by decide)⟩]
      exact p2
    · rw [k108 (c := 4) (by decide)] at p3
      rw [k108 (c := 4) (by decide), vf_wx_st hgi hgi2 (by decide) (by decide) l2 ⟨fun q => absurd q (by decide), fun q => absurd q (by decide), fun q => absurd q (by decide), fun _ => by omega, fun q => absurd q (by decide)⟩]
      exact p3
    · rw [k108 (c := 5) (by decide)] at p4
      rw [k108 (c := 5) (by decide), vf_wx_st hgi hgi2 (by decide) (by decide) l2 ⟨fun q => absurd q (by decide), fun q => absurd q (by decide), fun q => absurd q (by decide), fun _ => by omega, fun q => absurd q (by decide)⟩]
      exact p4
  obtain ⟨k0, k1, k2, k3, k4, -⟩ := key
  exact ⟨_, (List.mem_of_getElem? (i := 0) rfl), σ, ck_ag_rf, (fun _ h => absurd h List.not_mem_nil), (fun _ h => absurd h List.not_mem_nil), trivial, (List.forall_mem_cons.mpr ⟨⟨⟨ck_wb_ok rfl, ck_wb_ok rfl⟩, k0⟩, (List.forall_mem_cons.mpr ⟨⟨⟨ck_wb_ok rfl, ck_wb_ok rfl⟩, k1⟩, (List.forall_mem_cons.mpr ⟨⟨⟨ck_wb_ok rfl, ck_wb_ok rfl⟩, k2⟩, (List.forall_mem_cons.mpr ⟨⟨⟨ck_wb_ok rfl, ck_wb_ok rfl⟩, k3⟩, (List.forall_mem_cons.mpr ⟨⟨⟨ck_wb_ok rfl, ck_wb_ok rfl⟩, k4⟩, (fun _ h => absurd h List.not_mem_nil)⟩)⟩)⟩)⟩)⟩), (fun _ h => absurd h List.not_mem_nil)⟩
theorem ccWS_70_0 {l : Launch} {D : va_G} {kp : Nat → ClassId} : ck_con l D kp ck_NN ceWS_70_0 := ck_con_s (k := 70) rfl rpWS_70_0
theorem rpWS_72_0 : ck_scon ceWS_72_0 72 := by
  intro σ E e' idx v hargs hgi hF hP hΦ hgi2 h0 l1 l2
  cases hargs
  have h0 : (0 : Int) ≤ 0 + (1 * σ 0 + 0) := h0
  have l1 : ck_loc e' (0 + (1 * σ 0 + 0)) = 0 + (1 * σ 1 + 0) := l1
  have l2 : ∀ j, 0 ≤ j → ¬ j = 0 + (1 * σ 0 + 0) → ck_loc e' j = ck_loc (E 72) j := l2
  have f0 : (0 : Int) ≤ 0 + (1 * σ 0 + 0) := hF _ (List.mem_of_getElem? (i := 0) rfl)
  have f1 : (0 : Int) ≤ 23 + ((-1) * σ 0 + 0) := hF _ (List.mem_of_getElem? (i := 1) rfl)
  have p0 : ck_lk E 108 (1 + 0) = 0 + (1 * σ 2 + 0) := (hP _ (List.mem_of_getElem? (i := 0) rfl)).2.2
  have q0 : (0 : Int) ≤ 1 + 0 := (hP _ (List.mem_of_getElem? (i := 0) rfl)).2.1
  have p1 : ck_lk E 108 (2 + 0) = 0 + (1 * σ 3 + 0) := (hP _ (List.mem_of_getElem? (i := 1) rfl)).2.2
  have q1 : (0 : Int) ≤ 2 + 0 := (hP _ (List.mem_of_getElem? (i := 1) rfl)).2.1
  have p2 : ck_lk E 108 (3 + 0) = 0 + (1 * σ 4 + 0) := (hP _ (List.mem_of_getElem? (i := 2) rfl)).2.2
  have q2 : (0 : Int) ≤ 3 + 0 := (hP _ (List.mem_of_getElem? (i := 2) rfl)).2.1
  have p3 : ck_lk E 108 (4 + 0) = 0 + (1 * σ 5 + 0) := (hP _ (List.mem_of_getElem? (i := 3) rfl)).2.2
  have q3 : (0 : Int) ≤ 4 + 0 := (hP _ (List.mem_of_getElem? (i := 3) rfl)).2.1
  have p4 : ck_lk E 108 (5 + 0) = 0 + (1 * σ 6 + 0) := (hP _ (List.mem_of_getElem? (i := 4) rfl)).2.2
  have q4 : (0 : Int) ≤ 5 + 0 := (hP _ (List.mem_of_getElem? (i := 4) rfl)).2.1
  have key : (((0 : Int) ≤ 1 + 0 ∧ ck_lk (va_up E 72 e') 108 (1 + 0) = 0 + (1 * σ 2 + 0)) ∧ ((0 : Int) ≤ 2 + 0 ∧ ck_lk (va_up E 72 e') 108 (2 + 0) = 0 + (1 * σ 3 + 0)) ∧ ((0 : Int) ≤ 3 + 0 ∧ ck_lk (va_up E 72 e') 108 (3 + 0) = 0 + (1 * σ 4 + 0)) ∧ ((0 : Int) ≤ 4 + 0 ∧ ck_lk (va_up E 72 e') 108 (4 + 0) = 0 + (1 * σ 5 + 0)) ∧ ((0 : Int) ≤ 5 + 0 ∧ ck_lk (va_up E 72 e') 108 (5 + 0) = 0 + (1 * σ 6 + 0)) ∧ True) := by
    refine ⟨⟨by decide, ?_⟩, ⟨by decide, ?_⟩, ⟨by decide, ?_⟩, ⟨by decide, ?_⟩, ⟨by decide, ?_⟩, trivial⟩
    · rw [k108 (c := 1) (by decide)] at p0
      rw [k108 (c := 1) (by decide), vf_wx_st hgi hgi2 (by decide) (by decide) l2 ⟨fun q => absurd q (by decide), fun q => absurd q (by decide), fun q => absurd q (by decide), fun q => absurd q (by decide), fun _ => by omega⟩]
      exact p0
    · rw [k108 (c := 2) (by decide)] at p1
      rw [k108 (c := 2) (by decide), vf_wx_st hgi hgi2 (by decide) (by decide) l2 ⟨fun q => absurd q (by decide), fun q => absurd q (by decide), fun q => absurd q (by decide), fun q => absurd q (by decide), fun _ => by omega⟩]
      exact p1
    · rw [k108 (c := 3) (by decide)] at p2
      rw [k108 (c := 3) (by decide), vf_wx_st hgi hgi2 (by decide) (by decide) l2 ⟨fun q => absurd q (by decide), fun q => absurd q (by decide), fun q => absurd q (by decide), fun q => absurd q (by decide), fun _ => by omega⟩]
      exact p2
    · rw [k108 (c := 4) (by decide)] at p3
      rw [k108 (c := 4) (by decide), vf_wx_st hgi hgi2 (by decide) (by decide) l2 ⟨fun q => absurd q (by decide), fun q => absurd q (by decide), fun q => absurd q (by decide), fun q => absurd q (by decide), fun _ => by omega⟩]
      exact p3
    · rw [k108 (c := 5) (by decide)] at p4
      rw [k108 (c := 5) (by decide), vf_wx_st hgi hgi2 (by decide) (by decide) l2 ⟨fun q => absurd q (by decide), fun q => absurd q (by decide), fun q => absurd q (by decide), fun q => absurd q (by decide), fun _ => by omega⟩]
      exact p4
  obtain ⟨k0, k1, k2, k3, k4, -⟩ := key
  exact ⟨_, (List.mem_of_getElem? (i := 0) rfl), σ, ck_ag_rf, (fun _ h => absurd h List.not_mem_nil), (fun _ h => absurd h List.not_mem_nil), trivial, (List.forall_mem_cons.mpr ⟨⟨⟨ck_wb_ok rfl, ck_wb_ok rfl⟩, k0⟩, (List.forall_mem_cons.mpr ⟨⟨⟨ck_wb_ok rfl, ck_wb_ok rfl⟩, k1⟩, (List.forall_mem_cons.mpr ⟨⟨⟨ck_wb_ok rfl, ck_wb_ok rfl⟩, k2⟩, (List.forall_mem_cons.mpr ⟨⟨⟨ck_wb_ok rfl, ck_wb_ok rfl⟩, k3⟩, (List.forall_mem_cons.mpr ⟨⟨⟨ck_wb_ok rfl, ck_wb_ok rfl⟩, k4⟩, (fun _ h => absurd h List.not_mem_nil)⟩)⟩)⟩)⟩)⟩), (fun _ h => absurd h List.not_mem_nil)⟩
theorem ccWS_72_0 {l : Launch} {D : va_G} {kp : Nat → ClassId} : ck_con l D kp ck_NN ceWS_72_0 := ck_con_s (k := 72) rfl rpWS_72_0
theorem rpWS_65_1 : ck_scon ceWS_65_1 65 := by
  intro σ E e' idx v hargs hgi hF hP hΦ hgi2 h0 l1 l2
  cases hargs
  have h0 : (0 : Int) ≤ 0 + (1 * σ 0 + 0) := h0
  have l1 : ck_loc e' (0 + (1 * σ 0 + 0)) = 0 + (1 * σ 1 + 0) := l1
  have l2 : ∀ j, 0 ≤ j → ¬ j = 0 + (1 * σ 0 + 0) → ck_loc e' j = ck_loc (E 65) j := l2
  have f0 : (0 : Int) ≤ (-1) + (1 * σ 0 + 0) := hF _ (List.mem_of_getElem? (i := 0) rfl)
  have f1 : (0 : Int) ≤ 1 + ((-1) * σ 0 + 0) := hF _ (List.mem_of_getElem? (i := 1) rfl)
  have p0 : ck_lk E 108 (0 + 0) = 0 + (1 * σ 2 + 0) := (hP _ (List.mem_of_getElem? (i := 0) rfl)).2.2
  have q0 : (0 : Int) ≤ 0 + 0 := (hP _ (List.mem_of_getElem? (i := 0) rfl)).2.1
  have p1 : ck_lk E 108 (2 + 0) = 0 + (1 * σ 3 + 0) := (hP _ (List.mem_of_getElem? (i := 1) rfl)).2.2
  have q1 : (0 : Int) ≤ 2 + 0 := (hP _ (List.mem_of_getElem? (i := 1) rfl)).2.1
  have p2 : ck_lk E 108 (3 + 0) = 0 + (1 * σ 4 + 0) := (hP _ (List.mem_of_getElem? (i := 2) rfl)).2.2
  have q2 : (0 : Int) ≤ 3 + 0 := (hP _ (List.mem_of_getElem? (i := 2) rfl)).2.1
  have p3 : ck_lk E 108 (4 + 0) = 0 + (1 * σ 5 + 0) := (hP _ (List.mem_of_getElem? (i := 3) rfl)).2.2
  have q3 : (0 : Int) ≤ 4 + 0 := (hP _ (List.mem_of_getElem? (i := 3) rfl)).2.1
  have p4 : ck_lk E 108 (5 + 0) = 0 + (1 * σ 6 + 0) := (hP _ (List.mem_of_getElem? (i := 4) rfl)).2.2
  have q4 : (0 : Int) ≤ 5 + 0 := (hP _ (List.mem_of_getElem? (i := 4) rfl)).2.1
  have key : (((0 : Int) ≤ 0 + 0 ∧ ck_lk (va_up E 65 e') 108 (0 + 0) = 0 + (1 * σ 2 + 0)) ∧ ((0 : Int) ≤ 2 + 0 ∧ ck_lk (va_up E 65 e') 108 (2 + 0) = 0 + (1 * σ 3 + 0)) ∧ ((0 : Int) ≤ 3 + 0 ∧ ck_lk (va_up E 65 e') 108 (3 + 0) = 0 + (1 * σ 4 + 0)) ∧ ((0 : Int) ≤ 4 + 0 ∧ ck_lk (va_up E 65 e') 108 (4 + 0) = 0 + (1 * σ 5 + 0)) ∧ ((0 : Int) ≤ 5 + 0 ∧ ck_lk (va_up E 65 e') 108 (5 + 0) = 0 + (1 * σ 6 + 0)) ∧ True) := by
    refine ⟨⟨by decide, ?_⟩, ⟨by decide, ?_⟩, ⟨by decide, ?_⟩, ⟨by decide, ?_⟩, ⟨by decide, ?_⟩, trivial⟩
    · rw [k108 (c := 0) (by decide)] at p0
      rw [k108 (c := 0) (by decide), vf_wx_st hgi hgi2 (by decide) (by decide) l2 ⟨fun _ => by omega, fun q => absurd q (by decide), fun q => absurd q (by decide), fun q => absurd q (by decide), fun q => absurd q (by decide)⟩]
      exact p0
    · rw [k108 (c := 2) (by decide)] at p1
      rw [k108 (c := 2) (by decide), vf_wx_st hgi hgi2 (by decide) (by decide) l2 ⟨fun _ => by omega, fun q => absurd q (by decide), fun q => absurd q (by decide), fun q => absurd q (by decide), fun q => absurd q (by decide)⟩]
      exact p1
    · rw [k108 (c := 3) (by decide)] at p2
      rw [k108 (c := 3) (by decide), vf_wx_st hgi hgi2 (by decide) (by decide) l2 ⟨fun _ => by omega, fun q => absurd q (by decide), fun q => absurd q (by decide), fun q => absurd q (by decide), fun q => absurd q (by decide)⟩]
      exact p2
    · rw [k108 (c := 4) (by decide)] at p3
      rw [k108 (c := 4) (by decide), vf_wx_st hgi hgi2 (by decide) (by decide) l2 ⟨fun _ => by omega, fun q => absurd q (by decide), fun q => absurd q (by decide), fun q => absurd q (by decide), fun q => absurd q (by decide)⟩]
      exact p3
    · rw [k108 (c := 5) (by decide)] at p4
      rw [k108 (c := 5) (by decide), vf_wx_st hgi hgi2 (by decide) (by decide) l2 ⟨fun _ => by omega, fun q => absurd q (by decide), fun q => absurd q (by decide), fun q => absurd q (by decide), fun q => absurd q (by decide)⟩]
      exact p4
  obtain ⟨k0, k1, k2, k3, k4, -⟩ := key
  exact ⟨_, (List.mem_of_getElem? (i := 0) rfl), σ, ck_ag_rf, (fun _ h => absurd h List.not_mem_nil), (fun _ h => absurd h List.not_mem_nil), trivial, (List.forall_mem_cons.mpr ⟨⟨⟨ck_wb_ok rfl, ck_wb_ok rfl⟩, k0⟩, (List.forall_mem_cons.mpr ⟨⟨⟨ck_wb_ok rfl, ck_wb_ok rfl⟩, k1⟩, (List.forall_mem_cons.mpr ⟨⟨⟨ck_wb_ok rfl, ck_wb_ok rfl⟩, k2⟩, (List.forall_mem_cons.mpr ⟨⟨⟨ck_wb_ok rfl, ck_wb_ok rfl⟩, k3⟩, (List.forall_mem_cons.mpr ⟨⟨⟨ck_wb_ok rfl, ck_wb_ok rfl⟩, k4⟩, (fun _ h => absurd h List.not_mem_nil)⟩)⟩)⟩)⟩)⟩), (fun _ h => absurd h List.not_mem_nil)⟩
theorem ccWS_65_1 {l : Launch} {D : va_G} {kp : Nat → ClassId} : ck_con l D kp ck_NN ceWS_65_1 := ck_con_s (k := 65) rfl rpWS_65_1
theorem rpWS_67_1 : ck_scon ceWS_67_1 67 := by
  intro σ E e' idx v hargs hgi hF hP hΦ hgi2 h0 l1 l2
  cases hargs
  have h0 : (0 : Int) ≤ 0 + (1 * σ 0 + 0) := h0
  have l1 : ck_loc e' (0 + (1 * σ 0 + 0)) = 0 + (1 * σ 1 + 0) := l1
  have l2 : ∀ j, 0 ≤ j → ¬ j = 0 + (1 * σ 0 + 0) → ck_loc e' j = ck_loc (E 67) j := l2
  have f0 : (0 : Int) ≤ (-6) + (1 * σ 0 + 0) := hF _ (List.mem_of_getElem? (i := 0) rfl)
  have f1 : (0 : Int) ≤ 11 + ((-1) * σ 0 + 0) := hF _ (List.mem_of_getElem? (i := 1) rfl)
  have p0 : ck_lk E 108 (0 + 0) = 0 + (1 * σ 2 + 0) := (hP _ (List.mem_of_getElem? (i := 0) rfl)).2.2
  have q0 : (0 : Int) ≤ 0 + 0 := (hP _ (List.mem_of_getElem? (i := 0) rfl)).2.1
  have p1 : ck_lk E 108 (2 + 0) = 0 + (1 * σ 3 + 0) := (hP _ (List.mem_of_getElem? (i := 1) rfl)).2.2
  have q1 : (0 : Int) ≤ 2 + 0 := (hP _ (List.mem_of_getElem? (i := 1) rfl)).2.1
  have p2 : ck_lk E 108 (3 + 0) = 0 + (1 * σ 4 + 0) := (hP _ (List.mem_of_getElem? (i := 2) rfl)).2.2
  have q2 : (0 : Int) ≤ 3 + 0 := (hP _ (List.mem_of_getElem? (i := 2) rfl)).2.1
  have p3 : ck_lk E 108 (4 + 0) = 0 + (1 * σ 5 + 0) := (hP _ (List.mem_of_getElem? (i := 3) rfl)).2.2
  have q3 : (0 : Int) ≤ 4 + 0 := (hP _ (List.mem_of_getElem? (i := 3) rfl)).2.1
  have p4 : ck_lk E 108 (5 + 0) = 0 + (1 * σ 6 + 0) := (hP _ (List.mem_of_getElem? (i := 4) rfl)).2.2
  have q4 : (0 : Int) ≤ 5 + 0 := (hP _ (List.mem_of_getElem? (i := 4) rfl)).2.1
  have key : (((0 : Int) ≤ 0 + 0 ∧ ck_lk (va_up E 67 e') 108 (0 + 0) = 0 + (1 * σ 2 + 0)) ∧ ((0 : Int) ≤ 2 + 0 ∧ ck_lk (va_up E 67 e') 108 (2 + 0) = 0 + (1 * σ 3 + 0)) ∧ ((0 : Int) ≤ 3 + 0 ∧ ck_lk (va_up E 67 e') 108 (3 + 0) = 0 + (1 * σ 4 + 0)) ∧ ((0 : Int) ≤ 4 + 0 ∧ ck_lk (va_up E 67 e') 108 (4 + 0) = 0 + (1 * σ 5 + 0)) ∧ ((0 : Int) ≤ 5 + 0 ∧ ck_lk (va_up E 67 e') 108 (5 + 0) = 0 + (1 * σ 6 + 0)) ∧ True) := by
    refine ⟨⟨by decide, ?_⟩, ⟨by decide, ?_⟩, ⟨by decide, ?_⟩, ⟨by decide, ?_⟩, ⟨by decide, ?_⟩, trivial⟩
    · rw [k108 (c := 0) (by decide)] at p0
      rw [k108 (c := 0) (by decide), vf_wx_st hgi hgi2 (by decide) (by decide) l2 ⟨fun q => absurd q (by decide), fun _ => by omega, fun q => absurd q (by decide), fun q => absurd q (by decide), fun q => absurd q (by decide)⟩]
      exact p0
    · rw [k108 (c := 2) (by decide)] at p1
      rw [k108 (c := 2) (by decide), vf_wx_st hgi hgi2 (by decide) (by decide) l2 ⟨fun q => absurd q (by decide), fun _ => by omega, fun q => absurd q (by decide), fun q => absurd q (by decide), fun q => absurd q (by decide)⟩]
      exact p1
    · rw [k108 (c := 3) (by decide)] at p2
      rw [k108 (c := 3) (by decide), vf_wx_st hgi hgi2 (by decide) (by decide) l2 ⟨fun q => absurd q (by decide), fun _ => by omega, fun q => absurd q (by decide), fun q => absurd q (by decide), fun q => absurd q (by decide)⟩]
      exact p2
    · rw [k108 (c := 4) (by decide)] at p3
      rw [k108 (c := 4) (by decide), vf_wx_st hgi hgi2 (by decide) (by decide) l2 ⟨fun q => absurd q (by decide), fun _ => by omega, fun q => absurd q (by decide), fun q => absurd q (by decide), fun q => absurd q (by decide)⟩]
      exact p3
    · rw [k108 (c := 5) (by decide)] at p4
      rw [k108 (c := 5) (by decide), vf_wx_st hgi hgi2 (by decide) (by decide) l2 ⟨fun q => absurd q (by decide), fun _ => by omega, fun q => absurd q (by decide), fun q => absurd q (by decide), fun q => absurd q (by decide)⟩]
      exact p4
  obtain ⟨k0, k1, k2, k3, k4, -⟩ := key
  exact ⟨_, (List.mem_of_getElem? (i := 0) rfl), σ, ck_ag_rf, (fun _ h => absurd h List.not_mem_nil), (fun _ h => absurd h List.not_mem_nil), trivial, (List.forall_mem_cons.mpr ⟨⟨⟨ck_wb_ok rfl, ck_wb_ok rfl⟩, k0⟩, (List.forall_mem_cons.mpr ⟨⟨⟨ck_wb_ok rfl, ck_wb_ok rfl⟩, k1⟩, (List.forall_mem_cons.mpr ⟨⟨⟨ck_wb_ok rfl, ck_wb_ok rfl⟩, k2⟩, (List.forall_mem_cons.mpr ⟨⟨⟨ck_wb_ok rfl, ck_wb_ok rfl⟩, k3⟩, (List.forall_mem_cons.mpr ⟨⟨⟨ck_wb_ok rfl, ck_wb_ok rfl⟩, k4⟩, (fun _ h => absurd h List.not_mem_nil)⟩)⟩)⟩)⟩)⟩), (fun _ h => absurd h List.not_mem_nil)⟩
theorem ccWS_67_1 {l : Launch} {D : va_G} {kp : Nat → ClassId} : ck_con l D kp ck_NN ceWS_67_1 := ck_con_s (k := 67) rfl rpWS_67_1
theorem rpWS_69_1 : ck_scon ceWS_69_1 69 := by
  intro σ E e' idx v hargs hgi hF hP hΦ hgi2 h0 l1 l2
  cases hargs
  have h0 : (0 : Int) ≤ 0 + (1 * σ 0 + 0) := h0
  have l1 : ck_loc e' (0 + (1 * σ 0 + 0)) = 0 + (1 * σ 1 + 0) := l1
  have l2 : ∀ j, 0 ≤ j → ¬ j = 0 + (1 * σ 0 + 0) → ck_loc e' j = ck_loc (E 69) j := l2
  have f0 : (0 : Int) ≤ (-48) + (1 * σ 0 + 0) := hF _ (List.mem_of_getElem? (i := 0) rfl)
  have f1 : (0 : Int) ≤ 95 + ((-1) * σ 0 + 0) := hF _ (List.mem_of_getElem? (i := 1) rfl)
  have p0 : ck_lk E 108 (0 + 0) = 0 + (1 * σ 2 + 0) := (hP _ (List.mem_of_getElem? (i := 0) rfl)).2.2
  have q0 : (0 : Int) ≤ 0 + 0 := (hP _ (List.mem_of_getElem? (i := 0) rfl)).2.1
  have p1 : ck_lk E 108 (2 + 0) = 0 + (1 * σ 3 + 0) := (hP _ (List.mem_of_getElem? (i := 1) rfl)).2.2
  have q1 : (0 : Int) ≤ 2 + 0 := (hP _ (List.mem_of_getElem? (i := 1) rfl)).2.1
  have p2 : ck_lk E 108 (3 + 0) = 0 + (1 * σ 4 + 0) := (hP _ (List.mem_of_getElem? (i := 2) rfl)).2.2
  have q2 : (0 : Int) ≤ 3 + 0 := (hP _ (List.mem_of_getElem? (i := 2) rfl)).2.1
  have p3 : ck_lk E 108 (4 + 0) = 0 + (1 * σ 5 + 0) := (hP _ (List.mem_of_getElem? (i := 3) rfl)).2.2
  have q3 : (0 : Int) ≤ 4 + 0 := (hP _ (List.mem_of_getElem? (i := 3) rfl)).2.1
  have p4 : ck_lk E 108 (5 + 0) = 0 + (1 * σ 6 + 0) := (hP _ (List.mem_of_getElem? (i := 4) rfl)).2.2
  have q4 : (0 : Int) ≤ 5 + 0 := (hP _ (List.mem_of_getElem? (i := 4) rfl)).2.1
  have key : (((0 : Int) ≤ 0 + 0 ∧ ck_lk (va_up E 69 e') 108 (0 + 0) = 0 + (1 * σ 2 + 0)) ∧ ((0 : Int) ≤ 2 + 0 ∧ ck_lk (va_up E 69 e') 108 (2 + 0) = 0 + (1 * σ 3 + 0)) ∧ ((0 : Int) ≤ 3 + 0 ∧ ck_lk (va_up E 69 e') 108 (3 + 0) = 0 + (1 * σ 4 + 0)) ∧ ((0 : Int) ≤ 4 + 0 ∧ ck_lk (va_up E 69 e') 108 (4 + 0) = 0 + (1 * σ 5 + 0)) ∧ ((0 : Int) ≤ 5 + 0 ∧ ck_lk (va_up E 69 e') 108 (5 + 0) = 0 + (1 * σ 6 + 0)) ∧ True) := by
    refine ⟨⟨by decide, ?_⟩, ⟨by decide, ?_⟩, ⟨by decide, ?_⟩, ⟨by decide, ?_⟩, ⟨by decide, ?_⟩, trivial⟩
    · rw [k108 (c := 0) (by decide)] at p0
      rw [k108 (c := 0) (by decide), vf_wx_st hgi hgi2 (by decide) (by decide) l2 ⟨fun q => absurd q (by decide), fun q => absurd q (by decide), fun _ => by omega, fun q => absurd q (by decide), fun q => absurd q (by decide)⟩]
      exact p0
    · rw [k108 (c := 2) (by decide)] at p1
      rw [k108 (c := 2) (by decide), vf_wx_st hgi hgi2 (by decide) (by decide) l2 ⟨fun q => absurd q (by decide), fun q => absurd q (by decide), fun _ => by omega, fun q => absurd q (by decide), fun q => absurd q (by decide)⟩]
      exact p1
    · rw [k108 (c := 3) (by decide)] at p2
      rw [k108 (c := 3) (by decide), vf_wx_st hgi hgi2 (by decide) (by decide) l2 ⟨fun q => absurd q (by decide), fun q => absurd q (by decide), fun _ => by omega, fun q => absurd q (by decide), fun q => absurd q (by decide)⟩]
      exact p2
    · rw [k108 (c := 4) (by decide)] at p3
      rw [k108 (c := 4) (by decide), vf_wx_st hgi hgi2 (by decide) (by decide) l2 ⟨fun q => absurd q (by decide), fun q => absurd q (by decide), fun _ => by omega, fun q => absurd q (by decide), fun q => absurd q (by decide)⟩]
      exact p3
    · rw [k108 (c := 5) (by decide)] at p4
      rw [k108 (c := 5) (by decide), vf_wx_st hgi hgi2 (by decide) (by decide) l2 ⟨fun q => absurd q (by decide), fun q => absurd q (by decide), fun _ => by omega, fun q => absurd q (by decide), fun q => absurd q (by decide)⟩]
      exact p4
  obtain ⟨k0, k1, k2, k3, k4, -⟩ := key
  exact ⟨_, (List.mem_of_getElem? (i := 0) rfl), σ, ck_ag_rf, (fun _ h => absurd h List.not_mem_nil), (fun _ h => absurd h List.not_mem_nil), trivial, (List.forall_mem_cons.mpr ⟨⟨⟨ck_wb_ok rfl, ck_wb_ok rfl⟩, k0⟩, (List.forall_mem_cons.mpr ⟨⟨⟨ck_wb_ok rfl, ck_wb_ok rfl⟩, k1⟩, (List.forall_mem_cons.mpr ⟨⟨⟨ck_wb_ok rfl, ck_wb_ok rfl⟩, k2⟩, (List.forall_mem_cons.mpr ⟨⟨⟨ck_wb_ok rfl, ck_wb_ok rfl⟩, k3⟩, (List.forall_mem_cons.mpr ⟨⟨⟨ck_wb_ok rfl, ck_wb_ok rfl⟩, k4⟩, (fun _ h => absurd h List.not_mem_nil)⟩)⟩)⟩)⟩)⟩), (fun _ h => absurd h List.not_mem_nil)⟩
theorem ccWS_69_1 {l : Launch} {D : va_G} {kp : Nat → ClassId} : ck_con l D kp ck_NN ceWS_69_1 := ck_con_s (k := 69) rfl rpWS_69_1
theorem rpWS_70_1 : ck_scon ceWS_70_1 70 := by
  intro σ E e' idx v hargs hgi hF hP hΦ hgi2 h0 l1 l2
  cases hargs
  have h0 : (0 : Int) ≤ 0 + (1 * σ 0 + 0) := h0
  have l1 : ck_loc e' (0 + (1 * σ 0 + 0)) = 0 + (1 * σ 1 + 0) := l1
  have l2 : ∀ j, 0 ≤ j → ¬ j = 0 + (1 * σ 0 + 0) → ck_loc e' j = ck_loc (E 70) j := l2
  have f0 : (0 : Int) ≤ (-2) + (1 * σ 0 + 0) := hF _ (List.mem_of_getElem? (i := 0) rfl)
  have f1 : (0 : Int) ≤ 3 + ((-1) * σ 0 + 0) := hF _ (List.mem_of_getElem? (i := 1) rfl)
  have p0 : ck_lk E 108 (0 + 0) = 0 + (1 * σ 2 + 0) := (hP _ (List.mem_of_getElem? (i := 0) rfl)).2.2
  have q0 : (0 : Int) ≤ 0 + 0 := (hP _ (List.mem_of_getElem? (i := 0) rfl)).2.1
  have p1 : ck_lk E 108 (2 + 0) = 0 + (1 * σ 3 + 0) := (hP _ (List.mem_of_getElem? (i := 1) rfl)).2.2
  have q1 : (0 : Int) ≤ 2 + 0 := (hP _ (List.mem_of_getElem? (i := 1) rfl)).2.1
  have p2 : ck_lk E 108 (3 + 0) = 0 + (1 * σ 4 + 0) := (hP _ (List.mem_of_getElem? (i := 2) rfl)).2.2
  have q2 : (0 : Int) ≤ 3 + 0 := (hP _ (List.mem_of_getElem? (i := 2) rfl)).2.1
  have p3 : ck_lk E 108 (4 + 0) = 0 + (1 * σ 5 + 0) := (hP _ (List.mem_of_getElem? (i := 3) rfl)).2.2
  have q3 : (0 : Int) ≤ 4 + 0 := (hP _ (List.mem_of_getElem? (i := 3) rfl)).2.1
  have p4 : ck_lk E 108 (5 + 0) = 0 + (1 * σ 6 + 0) := (hP _ (List.mem_of_getElem? (i := 4) rfl)).2.2
  have q4 : (0 : Int) ≤ 5 + 0 := (hP _ (List.mem_of_getElem? (i := 4) rfl)).2.1
  have key : (((0 : Int) ≤ 0 + 0 ∧ ck_lk (va_up E 70 e') 108 (0 + 0) = 0 + (1 * σ 2 + 0)) ∧ ((0 : Int) ≤ 2 + 0 ∧ ck_lk (va_up E 70 e') 108 (2 + 0) = 0 + (1 * σ 3 + 0)) ∧ ((0 : Int) ≤ 3 + 0 ∧ ck_lk (va_up E 70 e') 108 (3 + 0) = 0 + (1 * σ 4 + 0)) ∧ ((0 : Int) ≤ 4 + 0 ∧ ck_lk (va_up E 70 e') 108 (4 + 0) = 0 + (1 * σ 5 + 0)) ∧ ((0 : Int) ≤ 5 + 0 ∧ ck_lk (va_up E 70 e') 108 (5 + 0) = 0 + (1 * σ 6 + 0)) ∧ True) := by
    refine ⟨⟨by decide, ?_⟩, ⟨by decide, ?_⟩, ⟨by decide, ?_⟩, ⟨by decide, ?_⟩, ⟨by decide, ?_⟩, trivial⟩
    · rw [k108 (c := 0) (by decide)] at p0
      rw [k108 (c := 0) (by decide), vf_wx_st hgi hgi2 (by decide) (by decide) l2 ⟨fun q => absurd q (by decide), fun q => absurd q (by decide), fun q => absurd q (by decide), fun _ => by omega, fun q => absurd q (by decide)⟩]
      exact p0
    · rw [k108 (c := 2) (by decide)] at p1
      rw [k108 (c := 2) (by decide), vf_wx_st hgi hgi2 (by decide) (by decide) l2 ⟨fun q => absurd q (by decide), fun q => absurd q (by decide), fun q => absurd q (by decide), fun _ => by omega, fun q => absurd q (by decide)⟩]
      exact p1
    · rw [k108 (c := 3) (by decide)] at p2
      rw [k108 (c := 3) (by decide), vf_wx_st hgi hgi2 (by decide) (by decide) l2 ⟨fun q => absurd q (by decide), fun q => absurd q (by decide), fun q => absurd q (by decide), fun _ => by omega, fun q => absurd q (by decide)⟩]
      exact p2
    · rw [k108 (c := 4) (by decide)] at p3
      rw [k108 (c := 4) (by decide), vf_wx_st hgi hgi2 (by decide) (by decide) l2 ⟨fun q => absurd q (by decide), fun q => absurd q (by decide), fun q => absurd q (by decide), fun _ => by omega, fun q => absurd q (by decide)⟩]
      exact p3
    · rw [k108 (c := 5) (by decide)] at p4
      rw [k108 (c := 5) (by decide), vf_wx_st hgi hgi2 (by decide) (by decide) l2 ⟨fun q => absurd q (by decide), fun q => absurd q (by decide), fun q => absurd q (by decide), fun _ => by omega, fun q => absurd q (by decide)⟩]
      exact p4
  obtain ⟨k0, k1, k2, k3, k4, -⟩ := key
  exact ⟨_, (List.mem_of_getElem? (i := 0) rfl), σ, ck_ag_rf, (fun _ h => absurd h List.not_mem_nil), (fun _ h => absurd h List.not_mem_nil), trivial, (List.forall_mem_cons.mpr ⟨⟨⟨ck_wb_ok rfl, ck_wb_ok rfl⟩, k0⟩, (List.forall_mem_cons.mpr ⟨⟨⟨ck_wb_ok rfl, ck_wb_ok rfl⟩, k1⟩, (List.forall_mem_cons.mpr ⟨⟨⟨ck_wb_ok rfl, ck_wb_ok rfl⟩, k2⟩, (List.forall_mem_cons.mpr ⟨⟨⟨ck_wb_ok rfl, ck_wb_ok rfl⟩, k3⟩, (List.forall_mem_cons.mpr ⟨⟨⟨ck_wb_ok rfl, ck_wb_ok rfl⟩, k4⟩, (fun _ h => absurd h List.not_mem_nil)⟩)⟩)⟩)⟩)⟩), (fun _ h => absurd h List.not_mem_nil)⟩
theorem ccWS_70_1 {l : Launch} {D : va_G} {kp : Nat → ClassId} : ck_con l D kp ck_NN ceWS_70_1 := ck_con_s (k := 70) rfl rpWS_70_1
theorem rpWS_72_1 : ck_scon ceWS_72_1 72 := by
  intro σ E e' idx v hargs hgi hF hP hΦ hgi2 h0 l1 l2
  cases hargs
  have h0 : (0 : Int) ≤ 0 + (1 * σ 0 + 0) := h0
  have l1 : ck_loc e' (0 + (1 * σ 0 + 0)) = 0 + (1 * σ 1 + 0) := l1
  have l2 : ∀ j, 0 ≤ j → ¬ j = 0 + (1 * σ 0 + 0) → ck_loc e' j = ck_loc (E 72) j := l2
  have f0 : (0 : Int) ≤ (-24) + (1 * σ 0 + 0) := hF _ (List.mem_of_getElem? (i := 0) rfl)
  have f1 : (0 : Int) ≤ 47 + ((-1) * σ 0 + 0) := hF _ (List.mem_of_getElem? (i := 1) rfl)
  have p0 : ck_lk E 108 (0 + 0) = 0 + (1 * σ 2 + 0) := (hP _ (List.mem_of_getElem? (i := 0) rfl)).2.2
  have q0 : (0 : Int) ≤ 0 + 0 := (hP _ (List.mem_of_getElem? (i := 0) rfl)).2.1
  have p1 : ck_lk E 108 (2 + 0) = 0 + (1 * σ 3 + 0) := (hP _ (List.mem_of_getElem? (i := 1) rfl)).2.2
  have q1 : (0 : Int) ≤ 2 + 0 := (hP _ (List.mem_of_getElem? (i := 1) rfl)).2.1
  have p2 : ck_lk E 108 (3 + 0) = 0 + (1 * σ 4 + 0) := (hP _ (List.mem_of_getElem? (i := 2) rfl)).2.2
  have q2 : (0 : Int) ≤ 3 + 0 := (hP _ (List.mem_of_getElem? (i := 2) rfl)).2.1
  have p3 : ck_lk E 108 (4 + 0) = 0 + (1 * σ 5 + 0) := (hP _ (List.mem_of_getElem? (i := 3) rfl)).2.2
  have q3 : (0 : Int) ≤ 4 + 0 := (hP _ (List.mem_of_getElem? (i := 3) rfl)).2.1
  have p4 : ck_lk E 108 (5 + 0) = 0 + (1 * σ 6 + 0) := (hP _ (List.mem_of_getElem? (i := 4) rfl)).2.2
  have q4 : (0 : Int) ≤ 5 + 0 := (hP _ (List.mem_of_getElem? (i := 4) rfl)).2.1
  have key : (((0 : Int) ≤ 0 + 0 ∧ ck_lk (va_up E 72 e') 108 (0 + 0) = 0 + (1 * σ 2 + 0)) ∧ ((0 : Int) ≤ 2 + 0 ∧ ck_lk (va_up E 72 e') 108 (2 + 0) = 0 + (1 * σ 3 + 0)) ∧ ((0 : Int) ≤ 3 + 0 ∧ ck_lk (va_up E 72 e') 108 (3 + 0) = 0 + (1 * σ 4 + 0)) ∧ ((0 : Int) ≤ 4 + 0 ∧ ck_lk (va_up E 72 e') 108 (4 + 0) = 0 + (1 * σ 5 + 0)) ∧ ((0 : Int) ≤ 5 + 0 ∧ ck_lk (va_up E 72 e') 108 (5 + 0) = 0 + (1 * σ 6 + 0)) ∧ True) := by
    refine ⟨⟨by decide, ?_⟩, ⟨by decide, ?_⟩, ⟨by decide, ?_⟩, ⟨by decide, ?_⟩, ⟨by decide, ?_⟩, trivial⟩
    · rw [k108 (c := 0) (by decide)] at p0
      rw [k108 (c := 0) (by decide), vf_wx_st hgi hgi2 (by decide) (by decide) l2 ⟨fun q => absurd q (by decide), fun q => absurd q (by decide), fun q => absurd q (by decide), fun q => absurd q (by decide), fun _ => by omega⟩]
      exact p0
    · rw [k108 (c := 2) (by decide)] at p1
      rw [k108 (c := 2) (by decide), vf_wx_st hgi hgi2 (by decide) (by decide) l2 ⟨fun q => absurd q (by decide), fun q => absurd q (by decide), fun q => absurd q (by decide), fun q => absurd q (by decide), fun _ => by omega⟩]
      exact p1
    · rw [k108 (c := 3) (by decide)] at p2
      rw [k108 (c := 3) (by decide), vf_wx_st hgi hgi2 (by decide) (by decide) l2 ⟨fun q => absurd q (by decide), fun q => absurd q (by decide), fun q => absurd q (by decide), fun q => absurd q (by decide), fun _ => by omega⟩]
      exact p2
    · rw [k108 (c := 4) (by decide)] at p3
      rw [k108 (c := 4) (by decide), vf_wx_st hgi hgi2 (by decide) (by decide) l2 ⟨fun q => absurd q (by decide), fun q => absurd q (by decide), fun q => absurd q (by decide), fun q => absurd q (by decide), fun _ => by omega⟩]
      exact p3
    · rw [k108 (c := 5) (by decide)] at p4
      rw [k108 (c := 5) (by decide), vf_wx_st hgi hgi2 (by decide) (by decide) l2 ⟨fun q => absurd q (by decide), fun q => absurd q (by decide), fun q => absurd q (by decide), fun q => absurd q (by decide), fun _ => by omega⟩]
      exact p4
  obtain ⟨k0, k1, k2, k3, k4, -⟩ := key
  exact ⟨_, (List.mem_of_getElem? (i := 0) rfl), σ, ck_ag_rf, (fun _ h => absurd h List.not_mem_nil), (fun _ h => absurd h List.not_mem_nil), trivial, (List.forall_mem_cons.mpr ⟨⟨⟨ck_wb_ok rfl, ck_wb_ok rfl⟩, k0⟩, (List.forall_mem_cons.mpr ⟨⟨⟨ck_wb_ok rfl, ck_wb_ok rfl⟩, k1⟩, (List.forall_mem_cons.mpr ⟨⟨⟨ck_wb_ok rfl, ck_wb_ok rfl⟩, k2⟩, (List.forall_mem_cons.mpr ⟨⟨⟨ck_wb_ok rfl, ck_wb_ok rfl⟩, k3⟩, (List.forall_mem_cons.mpr ⟨⟨⟨ck_wb_ok rfl, ck_wb_ok rfl⟩, k4⟩, (fun _ h => absurd h List.not_mem_nil)⟩)⟩)⟩)⟩)⟩), (fun _ h => absurd h List.not_mem_nil)⟩
theorem ccWS_72_1 {l : Launch} {D : va_G} {kp : Nat → ClassId} : ck_con l D kp ck_NN ceWS_72_1 := ck_con_s (k := 72) rfl rpWS_72_1
theorem rpWS_65_2 : ck_scon ceWS_65_2 65 := by
  intro σ E e' idx v hargs hgi hF hP hΦ hgi2 h0 l1 l2
  cases hargs
  have h0 : (0 : Int) ≤ 0 + (1 * σ 0 + 0) := h0
  have l1 : ck_loc e' (0 + (1 * σ 0 + 0)) = 0 + (1 * σ 1 + 0) := l1
  have l2 : ∀ j, 0 ≤ j → ¬ j = 0 + (1 * σ 0 + 0) → ck_loc e' j = ck_loc (E 65) j := l2
  have f0 : (0 : Int) ≤ (-2) + (1 * σ 0 + 0) := hF _ (List.mem_of_getElem? (i := 0) rfl)
  have f1 : (0 : Int) ≤ 2 + ((-1) * σ 0 + 0) := hF _ (List.mem_of_getElem? (i := 1) rfl)
  have p0 : ck_lk E 108 (0 + 0) = 0 + (1 * σ 2 + 0) := (hP _ (List.mem_of_getElem? (i := 0) rfl)).2.2
  have q0 : (0 : Int) ≤ 0 + 0 := (hP _ (List.mem_of_getElem? (i := 0) rfl)).2.1
  have p1 : ck_lk E 108 (1 + 0) = 0 + (1 * σ 3 + 0) := (hP _ (List.mem_of_getElem? (i := 1) rfl)).2.2
  have q1 : (0 : Int) ≤ 1 + 0 := (hP _ (List.mem_of_getElem? (i := 1) rfl)).2.1
  have p2 : ck_lk E 108 (3 + 0) = 0 + (1 * σ 4 + 0) := (hP _ (List.mem_of_getElem? (i := 2) rfl)).2.2
  have q2 : (0 : Int) ≤ 3 + 0 := (hP _ (List.mem_of_getElem? (i := 2) rfl)).2.1
  have p3 : ck_lk E 108 (4 + 0) = 0 + (1 * σ 5 + 0) := (hP _ (List.mem_of_getElem? (i := 3) rfl)).2.2
  have q3 : (0 : Int) ≤ 4 + 0 := (hP _ (List.mem_of_getElem? (i := 3) rfl)).2.1
  have p4 : ck_lk E 108 (5 + 0) = 0 + (1 * σ 6 + 0) := (hP _ (List.mem_of_getElem? (i := 4) rfl)).2.2
  have q4 : (0 : Int) ≤ 5 + 0 := (hP _ (List.mem_of_getElem? (i := 4) rfl)).2.1
  have key : (((0 : Int) ≤ 0 + 0 ∧ ck_lk (va_up E 65 e') 108 (0 + 0) = 0 + (1 * σ 2 + 0)) ∧ ((0 : Int) ≤ 1 + 0 ∧ ck_lk (va_up E 65 e') 108 (1 + 0) = 0 + (1 * σ 3 + 0)) ∧ ((0 : Int) ≤ 3 + 0 ∧ ck_lk (va_up E 65 e') 108 (3 + 0) = 0 + (1 * σ 4 + 0)) ∧ ((0 : Int) ≤ 4 + 0 ∧ ck_lk (va_up E 65 e') 108 (4 + 0) = 0 + (1 * σ 5 + 0)) ∧ ((0 : Int) ≤ 5 + 0 ∧ ck_lk (va_up E 65 e') 108 (5 + 0) = 0 + (1 * σ 6 + 0)) ∧ True) := by
    refine ⟨⟨by decide, ?_⟩, ⟨by decide, ?_⟩, ⟨by decide, ?_⟩, ⟨by decide, ?_⟩, ⟨by decide, ?_⟩, trivial⟩
    · rw [k108 (c := 0) (by decide)] at p0
      rw [k108 (c := 0) (by decide), vf_wx_st hgi hgi2 (by decide) (by decide) l2 ⟨fun _ => by omega, fun q => absurd q (by decide), fun q => absurd q (by decide), fun q => absurd q (by decide), fun q => absurd q (by decide)⟩]
      exact p0
    · rw [k108 (c := 1) (by decide)] at p1
      rw [k108 (c := 1) (by decide), vf_wx_st hgi hgi2 (by decide) (by decide) l2 ⟨fun _ => by omega, fun q => absurd q (by decide), fun q => absurd q (by decide), fun q => absurd q (by decide), fun q => absurd q (by decide)⟩]
      exact p1
    · rw [k108 (c := 3) (by decide)] at p2
      rw [k108 (c := 3) (by decide), vf_wx_st hgi hgi2 (by decide) (by decide) l2 ⟨fun _ => by omega, fun q => absurd q (by decide), fun q => absurd q (by decide), fun q => absurd q (by decide), fun q => absurd q (by decide)⟩]
      exact p2
    · rw [k108 (c := 4) (by decide)] at p3
      rw [k108 (c := 4) (by decide), vf_wx_st hgi hgi2 (by decide) (by decide) l2 ⟨fun _ => by omega, fun q => absurd q (by decide), fun q => absurd q (by decide), fun q => absurd q (by decide), fun q => absurd q (by decide)⟩]
      exact p3
    · rw [k108 (c := 5) (by decide)] at p4
      rw [k108 (c := 5) (by decide), vf_wx_st hgi hgi2 (by decide) (by decide) l2 ⟨fun _ => by omega, fun q => absurd q (by decide), fun q => absurd q (by decide), fun q => absurd q (by decide), fun q => absurd q (by decide)⟩]
      exact p4
  obtain ⟨k0, k1, k2, k3, k4, -⟩ := key
  exact ⟨_, (List.mem_of_getElem? (i := 0) rfl), σ, ck_ag_rf, (fun _ h => absurd h List.not_mem_nil), (fun _ h => absurd h List.not_mem_nil), trivial, (List.forall_mem_cons.mpr ⟨⟨⟨ck_wb_ok rfl, ck_wb_ok rfl⟩, k0⟩, (List.forall_mem_cons.mpr ⟨⟨⟨ck_wb_ok rfl, ck_wb_ok rfl⟩, k1⟩, (List.forall_mem_cons.mpr ⟨⟨⟨ck_wb_ok rfl, ck_wb_ok rfl⟩, k2⟩, (List.forall_mem_cons.mpr ⟨⟨⟨ck_wb_ok rfl, ck_wb_ok rfl⟩, k3⟩, (List.forall_mem_cons.mpr ⟨⟨⟨ck_wb_ok rfl, ck_wb_ok rfl⟩, k4⟩, (fun _ h => absurd h List.not_mem_nil)⟩)⟩)⟩)⟩)⟩), (fun _ h => absurd h List.not_mem_nil)⟩
theorem ccWS_65_2 {l : Launch} {D : va_G} {kp : Nat → ClassId} : ck_con l D kp ck_NN ceWS_65_2 := ck_con_s (k := 65) rfl rpWS_65_2
theorem rpWS_67_2 : ck_scon ceWS_67_2 67 := by
  intro σ E e' idx v hargs hgi hF hP hΦ hgi2 h0 l1 l2
  cases hargs
  have h0 : (0 : Int) ≤ 0 + (1 * σ 0 + 0) := h0
  have l1 : ck_loc e' (0 + (1 * σ 0 + 0)) = 0 + (1 * σ 1 + 0) := l1
  have l2 : ∀ j, 0 ≤ j → ¬ j = 0 + (1 * σ 0 + 0) → ck_loc e' j = ck_loc (E 67) j := l2
  have f0 : (0 : Int) ≤ (-12) + (1 * σ 0 + 0) := hF _ (List.mem_of_getElem? (i := 0) rfl)
  have f1 : (0 : Int) ≤ 17 + ((-1) * σ 0 + 0) := hF _ (List.mem_of_getElem? (i := 1) rfl)
  have p0 : ck_lk E 108 (0 + 0) = 0 + (1 * σ 2 + 0) := (hP _ (List.mem_of_getElem? (i := 0) rfl)).2.2
  have q0 : (0 : Int) ≤ 0 + 0 := (hP _ (List.mem_of_getElem? (i := 0) rfl)).2.1
  have p1 : ck_lk E 108 (1 + 0) = 0 + (1 * σ 3 + 0) := (hP _ (List.mem_of_getElem? (i := 1) rfl)).2.2
  have q1 : (0 : Int) ≤ 1 + 0 := (hP _ (List.mem_of_getElem? (i := 1) rfl)).2.1
  have p2 : ck_lk E 108 (3 + 0) = 0 + (1 * σ 4 + 0) := (hP _ (List.mem_of_getElem? (i := 2) rfl)).2.2
  have q2 : (0 : Int) ≤ 3 + 0 := (hP _ (List.mem_of_getElem? (i := 2) rfl)).2.1
  have p3 : ck_lk E 108 (4 + 0) = 0 + (1 * σ 5 + 0) := (hP _ (List.mem_of_getElem? (i := 3) rfl)).2.2
  have q3 : (0 : Int) ≤ 4 + 0 := (hP _ (List.mem_of_getElem? (i := 3) rfl)).2.1
  have p4 : ck_lk E 108 (5 + 0) = 0 + (1 * σ 6 + 0) := (hP _ (List.mem_of_getElem? (i := 4) rfl)).2.2
  have q4 : (0 : Int) ≤ 5 + 0 := (hP _ (List.mem_of_getElem? (i := 4) rfl)).2.1
  have key : (((0 : Int) ≤ 0 + 0 ∧ ck_lk (va_up E 67 e') 108 (0 + 0) = 0 + (1 * σ 2 + 0)) ∧ ((0 : Int) ≤ 1 + 0 ∧ ck_lk (va_up E 67 e') 108 (1 + 0) = 0 + (1 * σ 3 + 0)) ∧ ((0 : Int) ≤ 3 + 0 ∧ ck_lk (va_up E 67 e') 108 (3 + 0) = 0 + (1 * σ 4 + 0)) ∧ ((0 : Int) ≤ 4 + 0 ∧ ck_lk (va_up E 67 e') 108 (4 + 0) = 0 + (1 * σ 5 + 0)) ∧ ((0 : Int) ≤ 5 + 0 ∧ ck_lk (va_up E 67 e') 108 (5 + 0) = 0 + (1 * σ 6 + 0)) ∧ True) := by
    refine ⟨⟨by decide, ?_⟩, ⟨by decide, ?_⟩, ⟨by decide, ?_⟩, ⟨by decide, ?_⟩, ⟨by decide, ?_⟩, trivial⟩
    · rw [k108 (c := 0) (by decide)] at p0
      rw [k108 (c := 0) (by decide), vf_wx_st hgi hgi2 (by decide) (by decide) l2 ⟨fun q => absurd q (by decide), fun _ => by omega, fun q => absurd q (by decide), fun q => absurd q (by decide), fun q => absurd q (by decide)⟩]
      exact p0
    · rw [k108 (c := 1) (by decide)] at p1
      rw [k108 (c := 1) (by decide), vf_wx_st hgi hgi2 (by decide) (by decide) l2 ⟨fun q => absurd q (by decide), fun _ => by omega, fun q => absurd q (by decide), fun q => absurd q (by decide), fun q => absurd q (by decide)⟩]
      exact p1
    · rw [k108 (c := 3) (by decide)] at p2
      rw [k108 (c := 3) (by decide), vf_wx_st hgi hgi2 (by decide) (by decide) l2 ⟨fun q => absurd q (by decide), fun _ => by omega, fun q => absurd q (by decide), fun q => absurd q (by decide), fun q => absurd q (by decide)⟩]
      exact p2
    · rw [k108 (c := 4) (by decide)] at p3
      rw [k108 (c := 4) (by decide), vf_wx_st hgi hgi2 (by decide) (by decide) l2 ⟨fun q => absurd q (by decide), fun _ => by omega, fun q => absurd q (by decide), fun q => absurd q (by decide), fun q => absurd q (by decide)⟩]
      exact p3
    · rw [k108 (c := 5) (by decide)] at p4
      rw [k108 (c := 5) (by decide), vf_wx_st hgi hgi2 (by decide) (by decide) l2 ⟨fun q => absurd q (by decide), fun _ => by omega, fun q => absurd q (by decide), fun q => absurd q (by decide), fun q => absurd q (by decide)⟩]
      exact p4
  obtain ⟨k0, k1, k2, k3, k4, -⟩ := key
  exact ⟨_, (List.mem_of_getElem? (i := 0) rfl), σ, ck_ag_rf, (fun _ h => absurd h List.not_mem_nil), (fun _ h => absurd h List.not_mem_nil), trivial, (List.forall_mem_cons.mpr ⟨⟨⟨ck_wb_ok rfl, ck_wb_ok rfl⟩, k0⟩, (List.forall_mem_cons.mpr ⟨⟨⟨ck_wb_ok rfl, ck_wb_ok rfl⟩, k1⟩, (List.forall_mem_cons.mpr ⟨⟨⟨ck_wb_ok rfl, ck_wb_ok rfl⟩, k2⟩, (List.forall_mem_cons.mpr ⟨⟨⟨ck_wb_ok rfl, ck_wb_ok rfl⟩, k3⟩, (List.forall_mem_cons.mpr ⟨⟨⟨ck_wb_ok rfl, ck_wb_ok rfl⟩, k4⟩, (fun _ h => absurd h List.not_mem_nil)⟩)⟩)⟩)⟩)⟩), (fun _ h => absurd h List.not_mem_nil)⟩
theorem ccWS_67_2 {l : Launch} {D : va_G} {kp : Nat → ClassId} : ck_con l D kp ck_NN ceWS_67_2 := ck_con_s (k := 67) rfl rpWS_67_2
theorem rpWS_69_2 : ck_scon ceWS_69_2 69 := by
  intro σ E e' idx v hargs hgi hF hP hΦ hgi2 h0 l1 l2
  cases hargs
  have h0 : (0 : Int) ≤ 0 + (1 * σ 0 + 0) := h0
  have l1 : ck_loc e' (0 + (1 * σ 0 + 0)) = 0 + (1 * σ 1 + 0) := l1
  have l2 : ∀ j, 0 ≤ j → ¬ j = 0 + (1 * σ 0 + 0) → ck_loc e' j = ck_loc (E 69) j := l2
  have f0 : (0 : Int) ≤ (-96) + (1 * σ 0 + 0) := hF _ (List.mem_of_getElem? (i := 0) rfl)
  have f1 : (0 : Int) ≤ 143 + ((-1) * σ 0 + 0) := hF _ (List.mem_of_getElem? (i := 1) rfl)
  have p0 : ck_lk E 108 (0 + 0) = 0 + (1 * σ 2 + 0) := (hP _ (List.mem_of_getElem? (i := 0) rfl)).2.2
  have q0 : (0 : Int) ≤ 0 + 0 := (hP _ (List.mem_of_getElem? (i := 0) rfl)).2.1
  have p1 : ck_lk E 108 (1 + 0) = 0 + (1 * σ 3 + 0) := (hP _ (List.mem_of_getElem? (i := 1) rfl)).2.2
  have q1 : (0 : Int) ≤ 1 + 0 := (hP _ (List.mem_of_getElem? (i := 1) rfl)).2.1
  have p2 : ck_lk E 108 (3 + 0) = 0 + (1 * σ 4 + 0) := (hP _ (List.mem_of_getElem? (i := 2) rfl)).2.2
  have q2 : (0 : Int) ≤ 3 + 0 := (hP _ (List.mem_of_getElem? (i := 2) rfl)).2.1
  have p3 : ck_lk E 108 (4 + 0) = 0 + (1 * σ 5 + 0) := (hP _ (List.mem_of_getElem? (i := 3) rfl)).2.2
  have q3 : (0 : Int) ≤ 4 + 0 := (hP _ (List.mem_of_getElem? (i := 3) rfl)).2.1
  have p4 : ck_lk E 108 (5 + 0) = 0 + (1 * σ 6 + 0) := (hP _ (List.mem_of_getElem? (i := 4) rfl)).2.2
  have q4 : (0 : Int) ≤ 5 + 0 := (hP _ (List.mem_of_getElem? (i := 4) rfl)).2.1
  have key : (((0 : Int) ≤ 0 + 0 ∧ ck_lk (va_up E 69 e') 108 (0 + 0) = 0 + (1 * σ 2 + 0)) ∧ ((0 : Int) ≤ 1 + 0 ∧ ck_lk (va_up E 69 e') 108 (1 + 0) = 0 + (1 * σ 3 + 0)) ∧ ((0 : Int) ≤ 3 + 0 ∧ ck_lk (va_up E 69 e') 108 (3 + 0) = 0 + (1 * σ 4 + 0)) ∧ ((0 : Int) ≤ 4 + 0 ∧ ck_lk (va_up E 69 e') 108 (4 + 0) = 0 + (1 * σ 5 + 0)) ∧ ((0 : Int) ≤ 5 + 0 ∧ ck_lk (va_up E 69 e') 108 (5 + 0) = 0 + (1 * σ 6 + 0)) ∧ True) := by
    refine ⟨⟨by decide, ?_⟩, ⟨by decide, ?_⟩, ⟨by decide, ?_⟩, ⟨by decide, ?_⟩, ⟨by decide, ?_⟩, trivial⟩
    · rw [k108 (c := 0) (by decide)] at p0
      rw [k108 (c := 0) (by decide), vf_wx_st hgi hgi2 (by decide) (by decide) l2 ⟨fun q => absurd q (by decide), fun q => absurd q (by decide), fun _ => by omega, fun q => absurd q (by decide), fun q => absurd q (by decide)⟩]
      exact p0
    · rw [k108 (c := 1) (by decide)] at p1
      rw [k108 (c := 1) (by decide), vf_wx_st hgi hgi2 (by decide) (by decide) l2 ⟨fun q => absurd q (by decide), fun q => absurd q (by decide), fun _ => by omega, fun q => absurd q (by decide), fun q => absurd q (by decide)⟩]
      exact p1
    · rw [k108 (c := 3) (by decide)] at p2
      rw [k108 (c := 3) (by decide), vf_wx_st hgi hgi2 (by decide) (by decide) l2 ⟨fun q => absurd q (by decide), fun q => absurd q (by decide), fun _ => by omega, fun q => absurd q (by decide), fun q => absurd q (by decide)⟩]
      exact p2
    · rw [k108 (c := 4) (by decide)] at p3
      rw [k108 (c := 4) (by decide), vf_wx_st hgi hgi2 (by decide) (by decide) l2 ⟨fun q => absurd q (by decide), fun q => absurd q (by decide), fun _ => by omega, fun q => absurd q (by decide), fun q => absurd q (by decide)⟩]
      exact p3
    · rw [k108 (c := 5) (by decide)] at p4
      rw [k108 (c := 5) (by decide), vf_wx_st hgi hgi2 (by decide) (by decide) l2 ⟨fun q => absurd q (by decide), fun q => absurd q (by decide), fun _ => by omega, fun q => absurd q (by decide), fun q => absurd q (by decide)⟩]
      exact p4
  obtain ⟨k0, k1, k2, k3, k4, -⟩ := key
  exact ⟨_, (List.mem_of_getElem? (i := 0) rfl), σ, ck_ag_rf, (fun _ h => absurd h List.not_mem_nil), (fun _ h => absurd h List.not_mem_nil), trivial, (List.forall_mem_cons.mpr ⟨⟨⟨ck_wb_ok rfl, ck_wb_ok rfl⟩, k0⟩, (List.forall_mem_cons.mpr ⟨⟨⟨ck_wb_ok rfl, ck_wb_ok rfl⟩, k1⟩, (List.forall_mem_cons.mpr ⟨⟨⟨ck_wb_ok rfl, ck_wb_ok rfl⟩, k2⟩, (List.forall_mem_cons.mpr ⟨⟨⟨ck_wb_ok rfl, ck_wb_ok rfl⟩, k3⟩, (List.forall_mem_cons.mpr ⟨⟨⟨ck_wb_ok rfl, ck_wb_ok rfl⟩, k4⟩, (fun _ h => absurd h List.not_mem_nil)⟩)⟩)⟩)⟩)⟩), (fun _ h => absurd h List.not_mem_nil)⟩
theorem ccWS_69_2 {l : Launch} {D : va_G} {kp : Nat → ClassId} : ck_con l D kp ck_NN ceWS_69_2 := ck_con_s (k := 69) rfl rpWS_69_2
theorem rpWS_70_2 : ck_scon ceWS_70_2 70 := by
  intro σ E e' idx v hargs hgi hF hP hΦ hgi2 h0 l1 l2
  cases hargs
  have h0 : (0 : Int) ≤ 0 + (1 * σ 0 + 0) := h0
  have l1 : ck_loc e' (0 + (1 * σ 0 + 0)) = 0 + (1 * σ 1 + 0) := l1
  have l2 : ∀ j, 0 ≤ j → ¬ j = 0 + (1 * σ 0 + 0) → ck_loc e' j = ck_loc (E 70) j := l2
  have f0 : (0 : Int) ≤ (-4) + (1 * σ 0 + 0) := hF _ (List.mem_of_getElem? (i := 0) rfl)
  have f1 : (0 : Int) ≤ 5 + ((-1) * σ 0 + 0) := hF _ (List.mem_of_getElem? (i := 1) rfl)
  have p0 : ck_lk E 108 (0 + 0) = 0 + (1 * σ 2 + 0) := (hP _ (List.mem_of_getElem? (i := 0) rfl)).2.2
  have q0 : (0 : Int) ≤ 0 + 0 := (hP _ (List.mem_of_getElem? (i := 0) rfl)).2.1
  have p1 : ck_lk E 108 (1 + 0) = 0 + (1 * σ 3 + 0) := (hP _ (List.mem_of_getElem? (i := 1) rfl)).2.2
  have q1 : (0 : Int) ≤ 1 + 0 := (hP _ (List.mem_of_getElem? (i := 1) rfl)).2.1
  have p2 : ck_lk E 108 (3 + 0) = 0 + (1 * σ 4 + 0) := (hP _ (List.mem_of_getElem? (i := 2) rfl)).2.2
  have q2 : (0 : Int) ≤ 3 + 0 := (hP _ (List.mem_of_getElem? (i := 2) rfl)).2.1
  have p3 : ck_lk E 108 (4 + 0) = 0 + (1 * σ 5 + 0) := (hP _ (List.mem_of_getElem? (i := 3) rfl)).2.2
  have q3 : (0 : Int) ≤ 4 + 0 := (hP _ (List.mem_of_getElem? (i := 3) rfl)).2.1
  have p4 : ck_lk E 108 (5 + 0) = 0 + (1 * σ 6 + 0) := (hP _ (List.mem_of_getElem? (i := 4) rfl)).2.2
  have q4 : (0 : Int) ≤ 5 + 0 := (hP _ (List.mem_of_getElem? (i := 4) rfl)).2.1
  have key : (((0 : Int) ≤ 0 + 0 ∧ ck_lk (va_up E 70 e') 108 (0 + 0) = 0 + (1 * σ 2 + 0)) ∧ ((0 : Int) ≤ 1 + 0 ∧ ck_lk (va_up E 70 e') 108 (1 + 0) = 0 + (1 * σ 3 + 0)) ∧ ((0 : Int) ≤ 3 + 0 ∧ ck_lk (va_up E 70 e') 108 (3 + 0) = 0 + (1 * σ 4 + 0)) ∧ ((0 : Int) ≤ 4 + 0 ∧ ck_lk (va_up E 70 e') 108 (4 + 0) = 0 + (1 * σ 5 + 0)) ∧ ((0 : Int) ≤ 5 + 0 ∧ ck_lk (va_up E 70 e') 108 (5 + 0) = 0 + (1 * σ 6 + 0)) ∧ True) := by
    refine ⟨⟨by decide, ?_⟩, ⟨by decide, ?_⟩, ⟨by decide, ?_⟩, ⟨by decide, ?_⟩, ⟨by decide, ?_⟩, trivial⟩
    · rw [k108 (c := 0) (by decide)] at p0
      rw [k108 (c := 0) (by decide), vf_wx_st hgi hgi2 (by decide) (by decide) l2 ⟨fun q => absurd q (by decide), fun q => absurd q (by decide), fun q => absurd q (by decide), fun _ => by omega, fun q => absurd q (by decide)⟩]
      exact p0
    · rw [k108 (c := 1) (by decide)] at p1
      rw [k108 (c := 1) (by decide), vf_wx_st hgi hgi2 (by decide) (by decide) l2 ⟨fun q => absurd q (by decide), fun q => absurd q (by decide), fun q => absurd q (by decide), fun _ => by omega, fun q => absurd q (by decide)⟩]
      exact p1
    · rw [k108 (c := 3) (by decide)] at p2
      rw [k108 (c := 3) (by decide), vf_wx_st hgi hgi2 (by decide) (by decide) l2 ⟨fun q => absurd q (by decide), fun q => absurd q (by decide), fun q => absurd q (by decide), fun _ => by omega, fun q => absurd q (by decide)⟩]
      exact p2
    · rw [k108 (c := 4) (by decide)] at p3
      rw [k108 (c := 4) (by decide), vf_wx_st hgi hgi2 (by decide) (by decide) l2 ⟨fun q => absurd q (by decide), fun q => absurd q (by decide), fun q => absurd q (by decide), fun _ => by omega, fun q => absurd q (by decide)⟩]
      exact p3
    · rw [k108 (c := 5) (by decide)] at p4
      rw [k108 (c := 5) (by decide), vf_wx_st hgi hgi2 (by decide) (by decide) l2 ⟨fun q => absurd q (by decide), fun q => absurd q (by decide), fun q => absurd q (by decide), fun _ => by omega, fun q => absurd q (by decide)⟩]
      exact p4
  obtain ⟨k0, k1, k2, k3, k4, -⟩ := key
  exact ⟨_, (List.mem_of_getElem? (i := 0) rfl), σ, ck_ag_rf, (fun _ h => absurd h List.not_mem_nil), (fun _ h => absurd h List.not_mem_nil), trivial, (List.forall_mem_cons.mpr ⟨⟨⟨ck_wb_ok rfl, ck_wb_ok rfl⟩, k0⟩, (List.forall_mem_cons.mpr ⟨⟨⟨ck_wb_ok rfl, ck_wb_ok rfl⟩, k1⟩, (List.forall_mem_cons.mpr ⟨⟨⟨ck_wb_ok rfl, ck_wb_ok rfl⟩, k2⟩, (List.forall_mem_cons.mpr ⟨⟨⟨ck_wb_ok rfl, ck_wb_ok rfl⟩, k3⟩, (List.forall_mem_cons.mpr ⟨⟨⟨ck_wb_ok rfl, ck_wb_ok rfl⟩, k4⟩, (fun _ h => absurd h List.not_mem_nil)⟩)⟩)⟩)⟩)⟩), (fun _ h => absurd h List.not_mem_nil)⟩
theorem ccWS_70_2 {l : Launch} {D : va_G} {kp : Nat → ClassId} : ck_con l D kp ck_NN ceWS_70_2 := ck_con_s (k := 70) rfl rpWS_70_2
theorem rpWS_72_2 : ck_scon ceWS_72_2 72 := by
  intro σ E e' idx v hargs hgi hF hP hΦ hgi2 h0 l1 l2
  cases hargs
  have h0 : (0 : Int) ≤ 0 + (1 * σ 0 + 0) := h0
  have l1 : ck_loc e' (0 + (1 * σ 0 + 0)) = 0 + (1 * σ 1 + 0) := l1
  have l2 : ∀ j, 0 ≤ j → ¬ j = 0 + (1 * σ 0 + 0) → ck_loc e' j = ck_loc (E 72) j := l2
  have f0 : (0 : Int) ≤ (-48) + (1 * σ 0 + 0) := hF _ (List.mem_of_getElem? (i := 0) rfl)
  have f1 : (0 : Int) ≤ 71 + ((-1) * σ 0 + 0) := hF _ (List.mem_of_getElem? (i := 1) rfl)
  have p0 : ck_lk E 108 (0 + 0) = 0 + (1 * σ 2 + 0) := (hP _ (List.mem_of_getElem? (i := 0) rfl)).2.2
  have q0 : (0 : Int) ≤ 0 + 0 := (hP _ (List.mem_of_getElem? (i := 0) rfl)).2.1
  have p1 : ck_lk E 108 (1 + 0) = 0 + (1 * σ 3 + 0) := (hP _ (List.mem_of_getElem? (i := 1) rfl)).2.2
  have q1 : (0 : Int) ≤ 1 + 0 := (hP _ (List.mem_of_getElem? (i := 1) rfl)).2.1
  have p2 : ck_lk E 108 (3 + 0) = 0 + (1 * σ 4 + 0) := (hP _ (List.mem_of_getElem? (i := 2) rfl)).2.2
  have q2 : (0 : Int) ≤ 3 + 0 := (hP _ (List.mem_of_getElem? (i := 2) rfl)).2.1
  have p3 : ck_lk E 108 (4 + 0) = 0 + (1 * σ 5 + 0) := (hP _ (List.mem_of_getElem? (i := 3) rfl)).2.2
  have q3 : (0 : Int) ≤ 4 + 0 := (hP _ (List.mem_of_getElem? (i := 3) rfl)).2.1
  have p4 : ck_lk E 108 (5 + 0) = 0 + (1 * σ 6 + 0) := (hP _ (List.mem_of_getElem? (i := 4) rfl)).2.2
  have q4 : (0 : Int) ≤ 5 + 0 := (hP _ (List.mem_of_getElem? (i := 4) rfl)).2.1
  have key : (((0 : Int) ≤ 0 + 0 ∧ ck_lk (va_up E 72 e') 108 (0 + 0) = 0 + (1 * σ 2 + 0)) ∧ ((0 : Int) ≤ 1 + 0 ∧ ck_lk (va_up E 72 e') 108 (1 + 0) = 0 + (1 * σ 3 + 0)) ∧ ((0 : Int) ≤ 3 + 0 ∧ ck_lk (va_up E 72 e') 108 (3 + 0) = 0 + (1 * σ 4 + 0)) ∧ ((0 : Int) ≤ 4 + 0 ∧ ck_lk (va_up E 72 e') 108 (4 + 0) = 0 + (1 * σ 5 + 0)) ∧ ((0 : Int) ≤ 5 + 0 ∧ ck_lk (va_up E 72 e') 108 (5 + 0) = 0 + (1 * σ 6 + 0)) ∧ True) := by
    refine ⟨⟨by decide, ?_⟩, ⟨by decide, ?_⟩, ⟨by decide, ?_⟩, ⟨by decide, ?_⟩, ⟨by decide, ?_⟩, trivial⟩
    · rw [k108 (c := 0) (by decide)] at p0
      rw [k108 (c := 0) (by decide), vf_wx_st hgi hgi2 (by decide) (by decide) l2 ⟨fun q => absurd q (by decide), fun q => absurd q (by decide), fun q => absurd q (by decide), fun q => absurd q (by decide), fun _ => by omega⟩]
      exact p0
    · rw [k108 (c := 1) (by decide)] at p1
      rw [k108 (c := 1) (by decide), vf_wx_st hgi hgi2 (by decide) (by decide) l2 ⟨fun q => absurd q (by decide), fun q => absurd q (by decide), fun q => absurd q (by decide), fun q => absurd q (by decide), fun _ => by omega⟩]
      exact p1
    · rw [k108 (c := 3) (by decide)] at p2
      rw [k108 (c := 3) (by decide), vf_wx_st hgi hgi2 (by decide) (by decide) l2 ⟨fun q => absurd q (by decide), fun q => absurd q (by decide), fun q => absurd q (by decide), fun q => absurd q (by decide), fun _ => by omega⟩]
      exact p2
    · rw [k108 (c := 4) (by decide)] at p3
      rw [k108 (c := 4) (by decide), vf_wx_st hgi hgi2 (by decide) (by decide) l2 ⟨fun q => absurd q (by decide), fun q => absurd q (by decide), fun q => absurd q (by decide), fun q => absurd q (by decide), fun _ => by omega⟩]
      exact p3
    · rw [k108 (c := 5) (by decide)] at p4
      rw [k108 (c := 5) (by decide), vf_wx_st hgi hgi2 (by decide) (by decide) l2 ⟨fun q => absurd q (by decide), fun q => absurd q (by decide), fun q => absurd q (by decide), fun q => absurd q (by decide), fun _ => by omega⟩]
      exact p4
  obtain ⟨k0, k1, k2, k3, k4, -⟩ := key
  exact ⟨_, (List.mem_of_getElem? (i := 0) rfl), σ, ck_ag_rf, (fun _ h => absurd h List.not_mem_nil), (fun _ h => absurd h List.not_mem_nil), trivial, (List.forall_mem_cons.mpr ⟨⟨⟨ck_wb_ok rfl, ck_wb_ok rfl⟩, k0⟩, (List.forall_mem_cons.mpr ⟨⟨⟨ck_wb_ok rfl, ck_wb_ok rfl⟩, k1⟩, (List.forall_mem_cons.mpr ⟨⟨⟨ck_wb_ok rfl, ck_wb_ok rfl⟩, k2⟩, (List.forall_mem_cons.mpr ⟨⟨⟨ck_wb_ok rfl, ck_wb_ok rfl⟩, k3⟩, (List.forall_mem_cons.mpr ⟨⟨⟨ck_wb_ok rfl, ck_wb_ok rfl⟩, k4⟩, (fun _ h => absurd h List.not_mem_nil)⟩)⟩)⟩)⟩)⟩), (fun _ h => absurd h List.not_mem_nil)⟩
theorem ccWS_72_2 {l : Launch} {D : va_G} {kp : Nat → ClassId} : ck_con l D kp ck_NN ceWS_72_2 := ck_con_s (k := 72) rfl rpWS_72_2
theorem rpWS_65_3 : ck_scon ceWS_65_3 65 := by
  intro σ E e' idx v hargs hgi hF hP hΦ hgi2 h0 l1 l2
  cases hargs
  have h0 : (0 : Int) ≤ 0 + (1 * σ 0 + 0) := h0
  have l1 : ck_loc e' (0 + (1 * σ 0 + 0)) = 0 + (1 * σ 1 + 0) := l1
  have l2 : ∀ j, 0 ≤ j → ¬ j = 0 + (1 * σ 0 + 0) → ck_loc e' j = ck_loc (E 65) j := l2
  have f0 : (0 : Int) ≤ (-3) + (1 * σ 0 + 0) := hF _ (List.mem_of_getElem? (i := 0) rfl)
  have f1 : (0 : Int) ≤ 3 + ((-1) * σ 0 + 0) := hF _ (List.mem_of_getElem? (i := 1) rfl)
  have p0 : ck_lk E 108 (0 + 0) = 0 + (1 * σ 2 + 0) := (hP _ (List.mem_of_getElem? (i := 0) rfl)).2.2
  have q0 : (0 : Int) ≤ 0 + 0 := (hP _ (List.mem_of_getElem? (i := 0) rfl)).2.1
  have p1 : ck_lk E 108 (1 + 0) = 0 + (1 * σ 3 + 0) := (hP _ (List.mem_of_getElem? (i := 1) rfl)).2.2
  have q1 : (0 : Int) ≤ 1 + 0 := (hP _ (List.mem_of_getElem? (i := 1) rfl)).2.1
  have p2 : ck_lk E 108 (2 + 0) = 0 + (1 * σ 4 + 0) := (hP _ (List.mem_of_getElem? (i := 2) rfl)).2.2
  have q2 : (0 : Int) ≤ 2 + 0 := (hP _ (List.mem_of_getElem? (i := 2) rfl)).2.1
  have p3 : ck_lk E 108 (4 + 0) = 0 + (1 * σ 5 + 0) := (hP _ (List.mem_of_getElem? (i := 3) rfl)).2.2
  have q3 : (0 : Int) ≤ 4 + 0 := (hP _ (List.mem_of_getElem? (i := 3) rfl)).2.1
  have p4 : ck_lk E 108 (5 + 0) = 0 + (1 * σ 6 + 0) := (hP _ (List.mem_of_getElem? (i := 4) rfl)).2.2
  have q4 : (0 : Int) ≤ 5 + 0 := (hP _ (List.mem_of_getElem? (i := 4) rfl)).2.1
  have key : (((0 : Int) ≤ 0 + 0 ∧ ck_lk (va_up E 65 e') 108 (0 + 0) = 0 + (1 * σ 2 + 0)) ∧ ((0 : Int) ≤ 1 + 0 ∧ ck_lk (va_up E 65 e') 108 (1 + 0) = 0 + (1 * σ 3 + 0)) ∧ ((0 : Int) ≤ 2 + 0 ∧ ck_lk (va_up E 65 e') 108 (2 + 0) = 0 + (1 * σ 4 + 0)) ∧ ((0 : Int) ≤ 4 + 0 ∧ ck_lk (va_up E 65 e') 108 (4 + 0) = 0 + (1 * σ 5 + 0)) ∧ ((0 : Int) ≤ 5 + 0 ∧ ck_lk (va_up E 65 e') 108 (5 + 0) = 0 + (1 * σ 6 + 0)) ∧ True) := by
    refine ⟨⟨by decide, ?_⟩, ⟨by decide, ?_⟩, ⟨by decide, ?_⟩, ⟨by decide, ?_⟩, ⟨by decide, ?_⟩, trivial⟩
    · rw [k108 (c := 0) (by decide)] at p0
      rw [k108 (c := 0) (by decide), vf_wx_st hgi hgi2 (by decide) (by decide) l2 ⟨fun _ => by omega, fun q => absurd q (by decide), fun q => absurd q (by decide), fun q => absurd q (by decide), fun q => absurd q (by decide)⟩]
      exact p0
    · rw [k108 (c := 1) (by decide)] at p1
      rw [k108 (c := 1) (by decide), vf_wx_st hgi hgi2 (by decide) (by decide) l2 ⟨fun _ => by omega, fun q => absurd q (by decide), fun q => absurd q (by decide), fun q => absurd q (by decide), fun q => absurd q (by decide)⟩]
      exact p1
    · rw [k108 (c := 2) (by decide)] at p2
      rw [k108 (c := 2) (by decide), vf_wx_st hgi hgi2 (by decide) (by decide) l2 ⟨fun _ => by omega, fun q => absurd q (by decide), fun q => absurd q (by decide), fun q => absurd q (by decide), fun q => absurd q (by decide)⟩]
      exact p2
    · rw [k108 (c := 4) (by decide)] at p3
      rw [k108 (c := 4) (by decide), vf_wx_st hgi hgi2 (by decide) (by decide) l2 ⟨fun _ => by omega, fun q => absurd q (by decide), fun q => absurd q (by decide), fun q => absurd q (by decide), fun q => absurd q (by decide)⟩]
      exact p3
    · rw [k108 (c := 5) (by decide)] at p4
      rw [k108 (c := 5) (by decide), vf_wx_st hgi hgi2 (by decide) (by decide) l2 ⟨fun _ => by omega, fun q => absurd q (by decide), fun q => absurd q (by decide), fun q => absurd q (by decide), fun q => absurd q (by decide)⟩]
      exact p4
  obtain ⟨k0, k1, k2, k3, k4, -⟩ := key
  exact ⟨_, (List.mem_of_getElem? (i := 0) rfl), σ, ck_ag_rf, (fun _ h => absurd h List.not_mem_nil), (fun _ h => absurd h List.not_mem_nil), trivial, (List.forall_mem_cons.mpr ⟨⟨⟨ck_wb_ok rfl, ck_wb_ok rfl⟩, k0⟩, (List.forall_mem_cons.mpr ⟨⟨⟨ck_wb_ok rfl, ck_wb_ok rfl⟩, k1⟩, (List.forall_mem_cons.mpr ⟨⟨⟨ck_wb_ok rfl, ck_wb_ok rfl⟩, k2⟩, (List.forall_mem_cons.mpr ⟨⟨⟨ck_wb_ok rfl, ck_wb_ok rfl⟩, k3⟩, (List.forall_mem_cons.mpr ⟨⟨⟨ck_wb_ok rfl, ck_wb_ok rfl⟩, k4⟩, (fun _ h => absurd h List.not_mem_nil)⟩)⟩)⟩)⟩)⟩), (fun _ h => absurd h List.not_mem_nil)⟩
theorem ccWS_65_3 {l : Launch} {D : va_G} {kp : Nat → ClassId} : ck_con l D kp ck_NN ceWS_65_3 := ck_con_s (k := 65) rfl rpWS_65_3
theorem rpWS_67_3 : ck_scon ceWS_67_3 67 := by
  intro σ E e' idx v hargs hgi hF hP hΦ hgi2 h0 l1 l2
  cases hargs
  have h0 : (0 : Int) ≤ 0 + (1 * σ 0 + 0) := h0
  have l1 : ck_loc e' (0 + (1 * σ 0 + 0)) = 0 + (1 * σ 1 + 0) := l1
  have l2 : ∀ j, 0 ≤ j → ¬ j = 0 + (1 * σ 0 + 0) → ck_loc e' j = ck_loc (E 67) j := l2
  have f0 : (0 : Int) ≤ (-18) + (1 * σ 0 + 0) := hF _ (List.mem_of_getElem? (i := 0) rfl)
  have f1 : (0 : Int) ≤ 23 + ((-1) * σ 0 + 0) := hF _ (List.mem_of_getElem? (i := 1) rfl)
  have p0 : ck_lk E 108 (0 + 0) = 0 + (1 * σ 2 + 0) := (hP _ (List.mem_of_getElem? (i := 0) rfl)).2.2
  have q0 : (0 : Int) ≤ 0 + 0 := (hP _ (List.mem_of_getElem? (i := 0) rfl)).2.1
  have p1 : ck_lk E 108 (1 + 0) = 0 + (1 * σ 3 + 0) := (hP _ (List.mem_of_getElem? (i := 1) rfl)).2.2
  have q1 : (0 : Int) ≤ 1 + 0 := (hP _ (List.mem_of_getElem? (i := 1) rfl)).2.1
  have p2 : ck_lk E 108 (2 + 0) = 0 + (1 * σ 4 + 0) := (hP _ (List.mem_of_getElem? (i := 2) rfl)).2.2
  have q2 : (0 : Int) ≤ 2 + 0 := (hP _ (List.mem_of_getElem? (i := 2) rfl)).2.1
  have p3 : ck_lk E 108 (4 + 0) = 0 + (1 * σ 5 + 0) := (hP _ (List.mem_of_getElem? (i := 3) rfl)).2.2
  have q3 : (0 : Int) ≤ 4 + 0 := (hP _ (List.mem_of_getElem? (i := 3) rfl)).2.1
  have p4 : ck_lk E 108 (5 + 0) = 0 + (1 * σ 6 + 0) := (hP _ (List.mem_of_getElem? (i := 4) rfl)).2.2
  have q4 : (0 : Int) ≤ 5 + 0 := (hP _ (List.mem_of_getElem? (i := 4) rfl)).2.1
  have key : (((0 : Int) ≤ 0 + 0 ∧ ck_lk (va_up E 67 e') 108 (0 + 0) = 0 + (1 * σ 2 + 0)) ∧ ((0 : Int) ≤ 1 + 0 ∧ ck_lk (va_up E 67 e') 108 (1 + 0) = 0 + (1 * σ 3 + 0)) ∧ ((0 : Int) ≤ 2 + 0 ∧ ck_lk (va_up E 67 e') 108 (2 + 0) = 0 + (1 * σ 4 + 0)) ∧ ((0 : Int) ≤ 4 + 0 ∧ ck_lk (va_up E 67 e') 108 (4 + 0) = 0 + (1 * σ 5 + 0)) ∧ ((0 : Int) ≤ 5 + 0 ∧ ck_lk (va_up E 67 e') 108 (5 + 0) = 0 + (1 * σ 6 + 0)) ∧ True) := by
    refine ⟨⟨by decide, ?_⟩, ⟨by decide, ?_⟩, ⟨by decide, ?_⟩, ⟨by decide, ?_⟩, ⟨by decide, ?_⟩, trivial⟩
    · rw [k108 (c := 0) (by decide)] at p0
      rw [k108 (c := 0) (by decide), vf_wx_st hgi hgi2 (by decide) (by decide) l2 ⟨fun q => absurd q (by decide), fun _ => by omega, fun q => absurd q (by decide), fun q => absurd q (by decide), fun q => absurd q (by decide)⟩]
      exact p0
    · rw [k108 (c := 1) (by decide)] at p1
      rw [k108 (c := 1) (by decide), vf_wx_st hgi hgi2 (by decide) (by decide) l2 ⟨fun q => absurd q (by decide), fun _ => by omega, fun q => absurd q (by decide), fun q => absurd q (by decide), fun q => absurd q (by decide)⟩]
      exact p1
    · rw [k108 (c := 2) (by decide)] at p2
      rw [k108 (c := 2) (by decide), vf_wx_st hgi hgi2 (by decide) (by decide) l2 ⟨fun q => absurd q (by decide), fun _ => by omega, fun q => absurd q (by decide), fun q => absurd q (by decide), fun q => absurd q (by decide)⟩]
      exact p2
    · rw [k108 (c := 4) (by decide)] at p3
      rw [k108 (c := 4) (by decide), vf_wx_st hgi hgi2 (by decide) (by decide) l2 ⟨fun q => absurd q (by decide), fun _ => by omega, fun q => absurd q (by decide), fun q => absurd q (by decide), fun q => absurd q (by decide)⟩]
      exact p3
    · rw [k108 (c := 5) (by decide)] at p4
      rw [k108 (c := 5) (by decide), vf_wx_st hgi hgi2 (by decide) (by decide) l2 ⟨fun q => absurd q (by decide), fun _ => by omega, fun q => absurd q (by decide), fun q => absurd q (by decide), fun q => absurd q (by decide)⟩]
      exact p4
  obtain ⟨k0, k1, k2, k3, k4, -⟩ := key
  exact ⟨_, (List.mem_of_getElem? (i := 0) rfl), σ, ck_ag_rf, (fun _ h => absurd h List.not_mem_nil), (fun _ h => absurd h List.not_mem_nil), trivial, (List.forall_mem_cons.mpr ⟨⟨⟨ck_wb_ok rfl, ck_wb_ok rfl⟩, k0⟩, (List.forall_mem_cons.mpr ⟨⟨⟨ck_wb_ok rfl, ck_wb_ok rfl⟩, k1⟩, (List.forall_mem_cons.mpr ⟨⟨⟨ck_wb_ok rfl, ck_wb_ok rfl⟩, k2⟩, (List.forall_mem_cons.mpr ⟨⟨⟨ck_wb_ok rfl, ck_wb_ok rfl⟩, k3⟩, (List.forall_mem_cons.mpr ⟨⟨⟨ck_wb_ok rfl, ck_wb_ok rfl⟩, k4⟩, (fun _ h => absurd h List.not_mem_nil)⟩)⟩)⟩)⟩)⟩), (fun _ h => absurd h List.not_mem_nil)⟩
theorem ccWS_67_3 {l : Launch} {D : va_G} {kp : Nat → ClassId} : ck_con l D kp ck_NN ceWS_67_3 := ck_con_s (k := 67) rfl rpWS_67_3
theorem rpWS_69_3 : ck_scon ceWS_69_3 69 := by
  intro σ E e' idx v hargs hgi hF hP hΦ hgi2 h0 l1 l2
  cases hargs
  have h0 : (0 : Int) ≤ 0 + (1 * σ 0 + 0) := h0
  have l1 : ck_loc e' (0 + (1 * σ 0 + 0)) = 0 + (1 * σ 1 + 0) := l1
  have l2 : ∀ j, 0 ≤ j → ¬ j = 0 + (1 * σ 0 + 0) → ck_loc e' j = ck_loc (E 69) j := l2
  have f0 : (0 : Int) ≤ (-144) + (1 * σ 0 + 0) := hF _ (List.mem_of_getElem? (i := 0) rfl)
  have f1 : (0 : Int) ≤ 191 + ((-1) * σ 0 + 0) := hF _ (List.mem_of_getElem? (i := 1) rfl)
  have p0 : ck_lk E 108 (0 + 0) = 0 + (1 * σ 2 + 0) := (hP _ (List.mem_of_getElem? (i := 0) rfl)).2.2
  have q0 : (0 : Int) ≤ 0 + 0 := (hP _ (List.mem_of_getElem? (i := 0) rfl)).2.1
  have p1 : ck_lk E 108 (1 + 0) = 0 + (1 * σ 3 + 0) := (hP _ (List.mem_of_getElem? (i := 1) rfl)).2.2
  have q1 : (0 : Int) ≤ 1 + 0 := (hP _ (List.mem_of_getElem? (i := 1) rfl)).2.1
  have p2 : ck_lk E 108 (2 + 0) = 0 + (1 * σ 4 + 0) := (hP _ (List.mem_of_getElem? (i := 2) rfl)).2.2
  have q2 : (0 : Int) ≤ 2 + 0 := (hP _ (List.mem_of_getElem? (i := 2) rfl)).2.1
  have p3 : ck_lk E 108 (4 + 0) = 0 + (1 * σ 5 + 0) := (hP _ (List.mem_of_getElem? (i := 3) rfl)).2.2
  have q3 : (0 : Int) ≤ 4 + 0 := (hP _ (List.mem_of_getElem? (i := 3) rfl)).2.1
  have p4 : ck_lk E 108 (5 + 0) = 0 + (1 * σ 6 + 0) := (hP _ (List.mem_of_getElem? (i := 4) rfl)).2.2
  have q4 : (0 : Int) ≤ 5 + 0 := (hP _ (List.mem_of_getElem? (i := 4) rfl)).2.1
  have key : (((0 : Int) ≤ 0 + 0 ∧ ck_lk (va_up E 69 e') 108 (0 + 0) = 0 + (1 * σ 2 + 0)) ∧ ((0 : Int) ≤ 1 + 0 ∧ ck_lk (va_up E 69 e') 108 (1 + 0) = 0 + (1 * σ 3 + 0)) ∧ ((0 : Int) ≤ 2 + 0 ∧ ck_lk (va_up E 69 e') 108 (2 + 0) = 0 + (1 * σ 4 + 0)) ∧ ((0 : Int) ≤ 4 + 0 ∧ ck_lk (va_up E 69 e') 108 (4 + 0) = 0 + (1 * σ 5 + 0)) ∧ ((0 : Int) ≤ 5 + 0 ∧ ck_lk (va_up E 69 e') 108 (5 + 0) = 0 + (1 * σ 6 + 0)) ∧ True) := by
    refine ⟨⟨by decide, ?_⟩, ⟨by decide, ?_⟩, ⟨by decide, ?_⟩, ⟨by decide, ?_⟩, ⟨by decide, ?_⟩, trivial⟩
    · rw [k108 (c := 0) (by decide)] at p0
      rw [k108 (c := 0) (by decide), vf_wx_st hgi hgi2 (by decide) (by decide) l2 ⟨fun q => absurd q (by decide), fun q => absurd q (by decide), fun _ => by omega, fun q => absurd q (by decide), fun q => absurd q (by decide)⟩]
      exact p0
    · rw [k108 (c := 1) (by decide)] at p1
      rw [k108 (c := 1) (by decide), vf_wx_st hgi hgi2 (by decide) (by decide) l2 ⟨fun q => absurd q (by decide), fun q => absurd q (by decide), fun _ => by omega, fun q => absurd q (by decide), fun q => absurd q (by decide)⟩]
      exact p1
    · rw [k108 (c := 2) (by decide)] at p2
      rw [k108 (c := 2) (by decide), vf_wx_st hgi hgi2 (by decide) (by decide) l2 ⟨fun q => absurd q (by decide), fun q => absurd q (by decide), fun _ => by omega, fun q => absurd q (by decide), fun q => absurd q (by decide)⟩]
      exact p2
    · rw [k108 (c := 4) (by decide)] at p3
      rw [k108 (c := 4) (by decide), vf_wx_st hgi hgi2 (by decide) (by decide) l2 ⟨fun q => absurd q (by decide), fun q => absurd q (by decide), fun _ => by omega, fun q => absurd q (by decide), fun q => absurd q (by decide)⟩]
      exact p3
    · rw [k108 (c := 5) (by decide)] at p4
      rw [k108 (c := 5) (by decide), vf_wx_st hgi hgi2 (by decide) (by decide) l2 ⟨fun q => absurd q (by decide), fun q => absurd q (by decide), fun _ => by omega, fun q => absurd q (by decide), fun q => absurd q (by decide)⟩]
      exact p4
  obtain ⟨k0, k1, k2, k3, k4, -⟩ := key
  exact ⟨_, (List.mem_of_getElem? (i := 0) rfl), σ, ck_ag_rf, (fun _ h => absurd h List.not_mem_nil), (fun _ h => absurd h List.not_mem_nil), trivial, (List.forall_mem_cons.mpr ⟨⟨⟨ck_wb_ok rfl, ck_wb_ok rfl⟩, k0⟩, (List.forall_mem_cons.mpr ⟨⟨⟨ck_wb_ok rfl, ck_wb_ok rfl⟩, k1⟩, (List.forall_mem_cons.mpr ⟨⟨⟨ck_wb_ok rfl, ck_wb_ok rfl⟩, k2⟩, (List.forall_mem_cons.mpr ⟨⟨⟨ck_wb_ok rfl, ck_wb_ok rfl⟩, k3⟩, (List.forall_mem_cons.mpr ⟨⟨⟨ck_wb_ok rfl, ck_wb_ok rfl⟩, k4⟩, (fun _ h => absurd h List.not_mem_nil)⟩)⟩)⟩)⟩)⟩), (fun _ h => absurd h List.not_mem_nil)⟩
theorem ccWS_69_3 {l : Launch} {D : va_G} {kp : Nat → ClassId} : ck_con l D kp ck_NN ceWS_69_3 := ck_con_s (k := 69) rfl rpWS_69_3
theorem rpWS_70_3 : ck_scon ceWS_70_3 70 := by
  intro σ E e' idx v hargs hgi hF hP hΦ hgi2 h0 l1 l2
  cases hargs
  have h0 : (0 : Int) ≤ 0 + (1 * σ 0 + 0) := h0
  have l1 : ck_loc e' (0 + (1 * σ 0 + 0)) = 0 + (1 * σ 1 + 0) := l1
  have l2 : ∀ j, 0 ≤ j → ¬ j = 0 + (1 * σ 0 + 0) → ck_loc e' j = ck_loc (E 70) j := l2
  have f0 : (0 : Int) ≤ (-6) + (1 * σ 0 + 0) := hF _ (List.mem_of_getElem? (i := 0) rfl)
  have f1 : (0 : Int) ≤ 7 + ((-1) * σ 0 + 0) := hF _ (List.mem_of_getElem? (i := 1) rfl)
  have p0 : ck_lk E 108 (0 + 0) = 0 + (1 * σ 2 + 0) := (hP _ (List.mem_of_getElem? (i := 0) rfl)).2.2
  have q0 : (0 : Int) ≤ 0 + 0 := (hP _ (List.mem_of_getElem? (i := 0) rfl)).2.1
  have p1 : ck_lk E 108 (1 + 0) = 0 + (1 * σ 3 + 0) := (hP _ (List.mem_of_getElem? (i := 1) rfl)).2.2
  have q1 : (0 : Int) ≤ 1 + 0 := (hP _ (List.mem_of_getElem? (i := 1) rfl)).2.1
  have p2 : ck_lk E 108 (2 + 0) = 0 + (1 * σ 4 + 0) := (hP _ (List.mem_of_getElem? (i := 2) rfl)).2.2
  have q2 : (0 : Int) ≤ 2 + 0 := (hP _ (List.mem_of_getElem? (i := 2) rfl)).2.1
  have p3 : ck_lk E 108 (4 + 0) = 0 + (1 * σ 5 + 0) := (hP _ (List.mem_of_getElem? (i := 3) rfl)).2.2
  have q3 : (0 : Int) ≤ 4 + 0 := (hP _ (List.mem_of_getElem? (i := 3) rfl)).2.1
  have p4 : ck_lk E 108 (5 + 0) = 0 + (1 * σ 6 + 0) := (hP _ (List.mem_of_getElem? (i := 4) rfl)).2.2
  have q4 : (0 : Int) ≤ 5 + 0 := (hP _ (List.mem_of_getElem? (i := 4) rfl)).2.1
  have key : (((0 : Int) ≤ 0 + 0 ∧ ck_lk (va_up E 70 e') 108 (0 + 0) = 0 + (1 * σ 2 + 0)) ∧ ((0 : Int) ≤ 1 + 0 ∧ ck_lk (va_up E 70 e') 108 (1 + 0) = 0 + (1 * σ 3 + 0)) ∧ ((0 : Int) ≤ 2 + 0 ∧ ck_lk (va_up E 70 e') 108 (2 + 0) = 0 + (1 * σ 4 + 0)) ∧ ((0 : Int) ≤ 4 + 0 ∧ ck_lk (va_up E 70 e') 108 (4 + 0) = 0 + (1 * σ 5 + 0)) ∧ ((0 : Int) ≤ 5 + 0 ∧ ck_lk (va_up E 70 e') 108 (5 + 0) = 0 + (1 * σ 6 + 0)) ∧ True) := by
    refine ⟨⟨by decide, ?_⟩, ⟨by decide, ?_⟩, ⟨by decide, ?_⟩, ⟨by decide, ?_⟩, ⟨by decide, ?_⟩, trivial⟩
    · rw [k108 (c := 0) (by decide)] at p0
      rw [k108 (c := 0) (by decide), vf_wx_st hgi hgi2 (by decide) (by decide) l2 ⟨fun q => absurd q (by decide), fun q => absurd q (by decide), fun q => absurd q (by decide), fun _ => by omega, fun q => absurd q (by decide)⟩]
      exact p0
    · rw [k108 (c := 1) (by decide)] at p1
      rw [k108 (c := 1) (by decide), vf_wx_st hgi hgi2 (by decide) (by decide) l2 ⟨fun q => absurd q (by decide), fun q => absurd q (by decide), fun q => absurd q (by decide), fun _ => by omega, fun q => absurd q (by decide)⟩]
      exact p1
    · rw [k108 (c := 2) (by decide)] at p2
      rw [k108 (c := 2) (by decide), vf_wx_st hgi hgi2 (by decide) (by decide) l2 ⟨fun q => absurd q (by decide), fun q => absurd q (by decide), fun q => absurd q (by decide), fun _ => by omega, fun q => absurd q (by decide)⟩]
      exact p2
    · rw [k108 (c := 4) (by decide)] at p3
      rw [k108 (c := 4) (by decide), vf_wx_st hgi hgi2 (by decide) (by decide) l2 ⟨fun q => absurd q (by decide), fun q => absurd q (by decide), fun q => absurd q (by decide), fun _ => by omega, fun q => absurd q (by decide)⟩]
      exact p3
    · rw [k108 (c := 5) (by decide)] at p4
      rw [k108 (c := 5) (by decide), vf_wx_st hgi hgi2 (by decide) (by decide) l2 ⟨fun q => absurd q (by decide), fun q => absurd q (by decide), fun q => absurd q (by decide), fun _ => by omega, fun q => absurd q (by decide)⟩]
      exact p4
  obtain ⟨k0, k1, k2, k3, k4, -⟩ := key
  exact ⟨_, (List.mem_of_getElem? (i := 0) rfl), σ, ck_ag_rf, (fun _ h => absurd h List.not_mem_nil), (fun _ h => absurd h List.not_mem_nil), trivial, (List.forall_mem_cons.mpr ⟨⟨⟨ck_wb_ok rfl, ck_wb_ok rfl⟩, k0⟩, (List.forall_mem_cons.mpr ⟨⟨⟨ck_wb_ok rfl, ck_wb_ok rfl⟩, k1⟩, (List.forall_mem_cons.mpr ⟨⟨⟨ck_wb_ok rfl, ck_wb_ok rfl⟩, k2⟩, (List.forall_mem_cons.mpr ⟨⟨⟨ck_wb_ok rfl, ck_wb_ok rfl⟩, k3⟩, (List.forall_mem_cons.mpr ⟨⟨⟨ck_wb_ok rfl, ck_wb_ok rfl⟩, k4⟩, (fun _ h => absurd h List.not_mem_nil)⟩)⟩)⟩)⟩)⟩), (fun _ h => absurd h List.not_mem_nil)⟩
theorem ccWS_70_3 {l : Launch} {D : va_G} {kp : Nat → ClassId} : ck_con l D kp ck_NN ceWS_70_3 := ck_con_s (k := 70) rfl rpWS_70_3
theorem rpWS_72_3 : ck_scon ceWS_72_3 72 := by
  intro σ E e' idx v hargs hgi hF hP hΦ hgi2 h0 l1 l2
  cases hargs
  have h0 : (0 : Int) ≤ 0 + (1 * σ 0 + 0) := h0
  have l1 : ck_loc e' (0 + (1 * σ 0 + 0)) = 0 + (1 * σ 1 + 0) := l1
  have l2 : ∀ j, 0 ≤ j → ¬ j = 0 + (1 * σ 0 + 0) → ck_loc e' j = ck_loc (E 72) j := l2
  have f0 : (0 : Int) ≤ (-72) + (1 * σ 0 + 0) := hF _ (List.mem_of_getElem? (i := 0) rfl)
  have f1 : (0 : Int) ≤ 95 + ((-1) * σ 0 + 0) := hF _ (List.mem_of_getElem? (i := 1) rfl)
  have p0 : ck_lk E 108 (0 + 0) = 0 + (1 * σ 2 + 0) := (hP _ (List.mem_of_getElem? (i := 0) rfl)).2.2
  have q0 : (0 : Int) ≤ 0 + 0 := (hP _ (List.mem_of_getElem? (i := 0) rfl)).2.1
  have p1 : ck_lk E 108 (1 + 0) = 0 + (1 * σ 3 + 0) := (hP _ (List.mem_of_getElem? (i := 1) rfl)).2.2
  have q1 : (0 : Int) ≤ 1 + 0 := (hP _ (List.mem_of_getElem? (i := 1) rfl)).2.1
  have p2 : ck_lk E 108 (2 + 0) = 0 + (1 * σ 4 + 0) := (hP _ (List.mem_of_getElem? (i := 2) rfl)).2.2
  have q2 : (0 : Int) ≤ 2 + 0 := (hP _ (List.mem_of_getElem? (i := 2) rfl)).2.1
  have p3 : ck_lk E 108 (4 + 0) = 0 + (1 * σ 5 + 0) := (hP _ (List.mem_of_getElem? (i := 3) rfl)).2.2
  have q3 : (0 : Int) ≤ 4 + 0 := (hP _ (List.mem_of_getElem? (i := 3) rfl)).2.1
  have p4 : ck_lk E 108 (5 + 0) = 0 + (1 * σ 6 + 0) := (hP _ (List.mem_of_getElem? (i := 4) rfl)).2.2
  have q4 : (0 : Int) ≤ 5 + 0 := (hP _ (List.mem_of_getElem? (i := 4) rfl)).2.1
  have key : (((0 : Int) ≤ 0 + 0 ∧ ck_lk (va_up E 72 e') 108 (0 + 0) = 0 + (1 * σ 2 + 0)) ∧ ((0 : Int) ≤ 1 + 0 ∧ ck_lk (va_up E 72 e') 108 (1 + 0) = 0 + (1 * σ 3 + 0)) ∧ ((0 : Int) ≤ 2 + 0 ∧ ck_lk (va_up E 72 e') 108 (2 + 0) = 0 + (1 * σ 4 + 0)) ∧ ((0 : Int) ≤ 4 + 0 ∧ ck_lk (va_up E 72 e') 108 (4 + 0) = 0 + (1 * σ 5 + 0)) ∧ ((0 : Int) ≤ 5 + 0 ∧ ck_lk (va_up E 72 e') 108 (5 + 0) = 0 + (1 * σ 6 + 0)) ∧ True) := by
    refine ⟨⟨by decide, ?_⟩, ⟨by decide, ?_⟩, ⟨by decide, ?_⟩, ⟨by decide, ?_⟩, ⟨by decide, ?_⟩, trivial⟩
    · rw [k108 (c := 0) (by decide)] at p0
      rw [k108 (c := 0) (by decide), vf_wx_st hgi hgi2 (by decide) (by decide) l2 ⟨fun q => absurd q (by decide), fun q => absurd q (by decide), fun q => absurd q (by decide), fun q => absurd q (by decide), fun _ => by omega⟩]
      exact p0
    · rw [k108 (c := 1) (by decide)] at p1
      rw [k108 (c := 1) (by decide), vf_wx_st hgi hgi2 (by decide) (by decide) l2 ⟨fun q => absurd q (by decide), fun q => absurd q (by decide), fun q => absurd q (by decide), fun q => absurd q (by decide), fun _ => by omega⟩]
      exact p1
    · rw [k108 (c := 2) (by decide)] at p2
      rw [k108 (c := 2) (by decide), vf_wx_st hgi hgi2 (by decide) (by decide) l2 ⟨fun q => absurd q (by decide), fun q => absurd q (by decide), fun q => absurd q (by decide), fun q => absurd q (by decide), fun _ => by omega⟩]
      exact p2
    · rw [k108 (c := 4) (by decide)] at p3
      rw [k108 (c := 4) (by decide), vf_wx_st hgi hgi2 (by decide) (by decide) l2 ⟨fun q => absurd q (by decide), fun q => absurd q (by decide), fun q => absurd q (by decide), fun q => absurd q (by decide), fun _ => by omega⟩]
      exact p3
    · rw [k108 (c := 5) (by decide)] at p4
      rw [k108 (c := 5) (by decide), vf_wx_st hgi hgi2 (by decide) (by decide) l2 ⟨fun q => absurd q (by decide), fun q => absurd q (by decide), fun q => absurd q (by decide), fun q => absurd q (by decide), fun _ => by omega⟩]
      exact p4
  obtain ⟨k0, k1, k2, k3, k4, -⟩ := key
  exact ⟨_, (List.mem_of_getElem? (i := 0) rfl), σ, ck_ag_rf, (fun _ h => absurd h List.not_mem_nil), (fun _ h => absurd h List.not_mem_nil), trivial, (List.forall_mem_cons.mpr ⟨⟨⟨ck_wb_ok rfl, ck_wb_ok rfl⟩, k0⟩, (List.forall_mem_cons.mpr ⟨⟨⟨ck_wb_ok rfl, ck_wb_ok rfl⟩, k1⟩, (List.forall_mem_cons.mpr ⟨⟨⟨ck_wb_ok rfl, ck_wb_ok rfl⟩, k2⟩, (List.forall_mem_cons.mpr ⟨⟨⟨ck_wb_ok rfl, ck_wb_ok rfl⟩, k3⟩, (List.forall_mem_cons.mpr ⟨⟨⟨ck_wb_ok rfl, ck_wb_ok rfl⟩, k4⟩, (fun _ h => absurd h List.not_mem_nil)⟩)⟩)⟩)⟩)⟩), (fun _ h => absurd h List.not_mem_nil)⟩
theorem ccWS_72_3 {l : Launch} {D : va_G} {kp : Nat → ClassId} : ck_con l D kp ck_NN ceWS_72_3 := ck_con_s (k := 72) rfl rpWS_72_3
theorem rpWS_65_4 : ck_scon ceWS_65_4 65 := by
  intro σ E e' idx v hargs hgi hF hP hΦ hgi2 h0 l1 l2
  cases hargs
  have h0 : (0 : Int) ≤ 0 + (1 * σ 0 + 0) := h0
  have l1 : ck_loc e' (0 + (1 * σ 0 + 0)) = 0 + (1 * σ 1 + 0) := l1
  have l2 : ∀ j, 0 ≤ j → ¬ j = 0 + (1 * σ 0 + 0) → ck_loc e' j = ck_loc (E 65) j := l2
  have f0 : (0 : Int) ≤ (-4) + (1 * σ 0 + 0) := hF _ (List.mem_of_getElem? (i := 0) rfl)
  have f1 : (0 : Int) ≤ 4 + ((-1) * σ 0 + 0) := hF _ (List.mem_of_getElem? (i := 1) rfl)
  have p0 : ck_lk E 108 (0 + 0) = 0 + (1 * σ 2 + 0) := (hP _ (List.mem_of_getElem? (i := 0) rfl)).2.2
  have q0 : (0 : Int) ≤ 0 + 0 := (hP _ (List.mem_of_getElem? (i := 0) rfl)).2.1
  have p1 : ck_lk E 108 (1 + 0) = 0 + (1 * σ 3 + 0) := (hP _ (List.mem_of_getElem? (i := 1) rfl)).2.2
  have q1 : (0 : Int) ≤ 1 + 0 := (hP _ (List.mem_of_getElem? (i := 1) rfl)).2.1
  have p2 : ck_lk E 108 (2 + 0) = 0 + (1 * σ 4 + 0) := (hP _ (List.mem_of_getElem? (i := 2) rfl)).2.2
  have q2 : (0 : Int) ≤ 2 + 0 := (hP _ (List.mem_of_getElem? (i := 2) rfl)).2.1
  have p3 : ck_lk E 108 (3 + 0) = 0 + (1 * σ 5 + 0) := (hP _ (List.mem_of_getElem? (i := 3) rfl)).2.2
  have q3 : (0 : Int) ≤ 3 + 0 := (hP _ (List.mem_of_getElem? (i := 3) rfl)).2.1
  have p4 : ck_lk E 108 (5 + 0) = 0 + (1 * σ 6 + 0) := (hP _ (List.mem_of_getElem? (i := 4) rfl)).2.2
  have q4 : (0 : Int) ≤ 5 + 0 := (hP _ (List.mem_of_getElem? (i := 4) rfl)).2.1
  have key : (((0 : Int) ≤ 0 + 0 ∧ ck_lk (va_up E 65 e') 108 (0 + 0) = 0 + (1 * σ 2 + 0)) ∧ ((0 : Int) ≤ 1 + 0 ∧ ck_lk (va_up E 65 e') 108 (1 + 0) = 0 + (1 * σ 3 + 0)) ∧ ((0 : Int) ≤ 2 + 0 ∧ ck_lk (va_up E 65 e') 108 (2 + 0) = 0 + (1 * σ 4 + 0)) ∧ ((0 : Int) ≤ 3 + 0 ∧ ck_lk (va_up E 65 e') 108 (3 + 0) = 0 + (1 * σ 5 + 0)) ∧ ((0 : Int) ≤ 5 + 0 ∧ ck_lk (va_up E 65 e') 108 (5 + 0) = 0 + (1 * σ 6 + 0)) ∧ True) := by
    refine ⟨⟨by decide, ?_⟩, ⟨by decide, ?_⟩, ⟨by decide, ?_⟩, ⟨by decide, ?_⟩, ⟨by decide, ?_⟩, trivial⟩
    · rw [k108 (c := 0) (by decide)] at p0
      rw [k108 (c := 0) (by decide), vf_wx_st hgi hgi2 (by decide) (by decide) l2 ⟨fun _ => by omega, fun q => absurd q (by decide), fun q => absurd q (by decide), fun q => absurd q (by decide), fun q => absurd q (by decide)⟩]
      exact p0
    · rw [k108 (c := 1) (by decide)] at p1
      rw [k108 (c := 1) (by decide), vf_wx_st hgi hgi2 (by decide) (by decide) l2 ⟨fun _ => by omega, fun q => absurd q (by decide), fun q => absurd q (by decide), fun q => absurd q (by decide), fun q => absurd q (by decide)⟩]
      exact p1
    · rw [k108 (c := 2) (by decide)] at p2
      rw [k108 (c := 2) (by decide), vf_wx_st hgi hgi2 (by decide) (by decide) l2 ⟨fun _ => by omega, fun q => absurd q (by decide), fun q => absurd q (by decide), fun q => absurd q (by decide), fun q => absurd q (by decide)⟩]
      exact p2
    · rw [k108 (c := 3) (by decide)] at p3
      rw [k108 (c := 3) (by decide), vf_wx_st hgi hgi2 (by decide) (by decide) l2 ⟨fun _ => by omega, fun q => absurd q (by decide), fun q => absurd q (by decide), fun q => absurd q (by decide), fun q => absurd q (by decide)⟩]
      exact p3
    · rw [k108 (c := 5) (by decide)] at p4
      rw [k108 (c := 5) (by decide), vf_wx_st hgi hgi2 (by decide) (by decide) l2 ⟨fun _ => by omega, fun q => absurd q (by decide), fun q => absurd q (by decide), fun q => absurd q (by decide), fun q => absurd q (by decide)⟩]
      exact p4
  obtain ⟨k0, k1, k2, k3, k4, -⟩ := key
  exact ⟨_, (List.mem_of_getElem? (i := 0) rfl), σ, ck_ag_rf, (fun _ h => absurd h List.not_mem_nil), (fun _ h => absurd h List.not_mem_nil), trivial, (List.forall_mem_cons.mpr ⟨⟨⟨ck_wb_ok rfl, ck_wb_ok rfl⟩, k0⟩, (List.forall_mem_cons.mpr ⟨⟨⟨ck_wb_ok rfl, ck_wb_ok rfl⟩, k1⟩, (List.forall_mem_cons.mpr ⟨⟨⟨ck_wb_ok rfl, ck_wb_ok rfl⟩, k2⟩, (List.forall_mem_cons.mpr ⟨⟨⟨ck_wb_ok rfl, ck_wb_ok rfl⟩, k3⟩, (List.forall_mem_cons.mpr ⟨⟨⟨ck_wb_ok rfl, ck_wb_ok rfl⟩, k4⟩, (fun _ h => absurd h List.not_mem_nil)⟩)⟩)⟩)⟩)⟩), (fun _ h => absurd h List.not_mem_nil)⟩
theorem ccWS_65_4 {l : Launch} {D : va_G} {kp : Nat → ClassId} : ck_con l D kp ck_NN ceWS_65_4 := ck_con_s (k := 65) rfl rpWS_65_4
theorem rpWS_67_4 : ck_scon ceWS_67_4 67 := by
  intro σ E e' idx v hargs hgi hF hP hΦ hgi2 h0 l1 l2
  cases hargs
  have h0 : (0 : Int) ≤ 0 + (1 * σ 0 + 0) := h0
  have l1 : ck_loc e' (0 + (1 * σ 0 + 0)) = 0 + (1 * σ 1 + 0) := l1
  have l2 : ∀ j, 0 ≤ j → ¬ j = 0 + (1 * σ 0 + 0) → ck_loc e' j = ck_loc (E 67) j := l2
  have f0 : (0 : Int) ≤ (-24) + (1 * σ 0 + 0) := hF _ (List.mem_of_getElem? (i := 0) rfl)
  have f1 : (0 : Int) ≤ 29 + ((-1) * σ 0 + 0) := hF _ (List.mem_of_getElem? (i := 1) rfl)
  have p0 : ck_lk E 108 (0 + 0) = 0 + (1 * σ 2 + 0) := (hP _ (List.mem_of_getElem? (i := 0) rfl)).2.2
  have q0 : (0 : Int) ≤ 0 + 0 := (hP _ (List.mem_of_getElem? (i := 0) rfl)).2.1
  have p1 : ck_lk E 108 (1 + 0) = 0 + (1 * σ 3 + 0) := (hP _ (List.mem_of_getElem? (i := 1) rfl)).2.2
  have q1 : (0 : Int) ≤ 1 + 0 := (hP _ (List.mem_of_getElem? (i := 1) rfl)).2.1
  have p2 : ck_lk E 108 (2 + 0) = 0 + (1 * σ 4 + 0) := (hP _ (List.mem_of_getElem? (i := 2) rfl)).2.2
  have q2 : (0 : Int) ≤ 2 + 0 := (hP _ (List.mem_of_getElem? (i := 2) rfl)).2.1
  have p3 : ck_lk E 108 (3 + 0) = 0 + (1 * σ 5 + 0) := (hP _ (List.mem_of_getElem? (i := 3) rfl)).2.2
  have q3 : (0 : Int) ≤ 3 + 0 := (hP _ (List.mem_of_getElem? (i := 3) rfl)).2.1
  have p4 : ck_lk E 108 (5 + 0) = 0 + (1 * σ 6 + 0) := (hP _ (List.mem_of_getElem? (i := 4) rfl)).2.2
  have q4 : (0 : Int) ≤ 5 + 0 := (hP _ (List.mem_of_getElem? (i := 4) rfl)).2.1
  have key : (((0 : Int) ≤ 0 + 0 ∧ ck_lk (va_up E 67 e') 108 (0 + 0) = 0 + (1 * σ 2 + 0)) ∧ ((0 : Int) ≤ 1 + 0 ∧ ck_lk (va_up E 67 e') 108 (1 + 0) = 0 + (1 * σ 3 + 0)) ∧ ((0 : Int) ≤ 2 + 0 ∧ ck_lk (va_up E 67 e') 108 (2 + 0) = 0 + (1 * σ 4 + 0)) ∧ ((0 : Int) ≤ 3 + 0 ∧ ck_lk (va_up E 67 e') 108 (3 + 0) = 0 + (1 * σ 5 + 0)) ∧ ((0 : Int) ≤ 5 + 0 ∧ ck_lk (va_up E 67 e') 108 (5 + 0) = 0 + (1 * σ 6 + 0)) ∧ True) := by
    refine ⟨⟨by decide, ?_⟩, ⟨by decide, ?_⟩, ⟨by decide, ?_⟩, ⟨by decide, ?_⟩, ⟨by decide, ?_⟩, trivial⟩
    · rw [k108 (c := 0) (by decide)] at p0
      rw [k108 (c := 0) (by decide), vf_wx_st hgi hgi2 (by decide) (by decide) l2 ⟨fun q => absurd q (by decide), fun _ => by omega, fun q => absurd q (by decide), fun q => absurd q (by decide), fun q => absurd q (by decide)⟩]
      exact p0
    · rw [k108 (c := 1) (by decide)] at p1
      rw [k108 (c := 1) (by decide), vf_wx_st hgi hgi2 (by decide) (by decide) l2 ⟨fun q => absurd q (by decide), fun _ => by omega, fun q => absurd q (by decide), fun q => absurd q (by decide), fun q => absurd q (by decide)⟩]
      exact p1
    · rw [k108 (c := 2) (by decide)] at p2
      rw [k108 (c := 2) (by decide), vf_wx_st hgi hgi2 (by decide) (by decide) l2 ⟨fun q => absurd q (by decide), fun _ => by omega, fun q => absurd q (by decide), fun q => absurd q (by decide), fun q => absurd q (by decide)⟩]
      exact p2
    · rw [k108 (c := 3) (by decide)] at p3
      rw [k108 (c := 3) (by decide), vf_wx_st hgi hgi2 (by decide) (by decide) l2 ⟨fun q => absurd q (by decide), fun _ => by omega, fun q => absurd q (by decide), fun q => absurd q (by decide), fun q => absurd q (by decide)⟩]
      exact p3
    · rw [k108 (c := 5) (by decide)] at p4
      rw [k108 (c := 5) (by decide), vf_wx_st hgi hgi2 (by decide) (by decide) l2 ⟨fun q => absurd q (by decide), fun _ => by omega, fun q => absurd q (by decide), fun q => absurd q (by decide), fun q => absurd q (by decide)⟩]
      exact p4
  obtain ⟨k0, k1, k2, k3, k4, -⟩ := key
  exact ⟨_, (List.mem_of_getElem? (i := 0) rfl), σ, ck_ag_rf, (fun _ h => absurd h List.not_mem_nil), (fun _ h => absurd h List.not_mem_nil), trivial, (List.forall_mem_cons.mpr ⟨⟨⟨ck_wb_ok rfl, ck_wb_ok rfl⟩, k0⟩, (List.forall_mem_cons.mpr ⟨⟨⟨ck_wb_ok rfl, ck_wb_ok rfl⟩, k1⟩, (List.forall_mem_cons.mpr ⟨⟨⟨ck_wb_ok rfl, ck_wb_ok rfl⟩, k2⟩, (List.forall_mem_cons.mpr ⟨⟨⟨ck_wb_ok rfl, ck_wb_ok rfl⟩, k3⟩, (List.forall_mem_cons.mpr ⟨⟨⟨ck_wb_ok rfl, ck_wb_ok rfl⟩, k4⟩, (fun _ h => absurd h List.not_mem_nil)⟩)⟩)⟩)⟩)⟩), (fun _ h => absurd h List.not_mem_nil)⟩
theorem ccWS_67_4 {l : Launch} {D : va_G} {kp : Nat → ClassId} : ck_con l D kp ck_NN ceWS_67_4 := ck_con_s (k := 67) rfl rpWS_67_4
theorem rpWS_69_4 : ck_scon ceWS_69_4 69 := by
  intro σ E e' idx v hargs hgi hF hP hΦ hgi2 h0 l1 l2
  cases hargs
  have h0 : (0 : Int) ≤ 0 + (1 * σ 0 + 0) := h0
  have l1 : ck_loc e' (0 + (1 * σ 0 + 0)) = 0 + (1 * σ 1 + 0) := l1
  have l2 : ∀ j, 0 ≤ j → ¬ j = 0 + (1 * σ 0 + 0) → ck_loc e' j = ck_loc (E 69) j := l2
  have f0 : (0 : Int) ≤ (-192) + (1 * σ 0 + 0) := hF _ (List.mem_of_getElem? (i := 0) rfl)
  have f1 : (0 : Int) ≤ 239 + ((-1) * σ 0 + 0) := hF _ (List.mem_of_getElem? (i := 1) rfl)
  have p0 : ck_lk E 108 (0 + 0) = 0 + (1 * σ 2 + 0) := (hP _ (List.mem_of_getElem? (i := 0) rfl)).2.2
  have q0 : (0 : Int) ≤ 0 + 0 := (hP _ (List.mem_of_getElem? (i := 0) rfl)).2.1
  have p1 : ck_lk E 108 (1 + 0) = 0 + (1 * σ 3 + 0) := (hP _ (List.mem_of_getElem? (i := 1) rfl)).2.2
  have q1 : (0 : Int) ≤ 1 + 0 := (hP _ (List.mem_of_getElem? (i := 1) rfl)).2.1
  have p2 : ck_lk E 108 (2 + 0) = 0 + (1 * σ 4 + 0) := (hP _ (List.mem_of_getElem? (i := 2) rfl)).2.2
  have q2 : (0 : Int) ≤ 2 + 0 := (hP _ (List.mem_of_getElem? (i := 2) rfl)).2.1
  have p3 : ck_lk E 108 (3 + 0) = 0 + (1 * σ 5 + 0) := (hP _ (List.mem_of_getElem? (i := 3) rfl)).2.2
  have q3 : (0 : Int) ≤ 3 + 0 := (hP _ (List.mem_of_getElem? (i := 3) rfl)).2.1
  have p4 : ck_lk E 108 (5 + 0) = 0 + (1 * σ 6 + 0) := (hP _ (List.mem_of_getElem? (i := 4) rfl)).2.2
  have q4 : (0 : Int) ≤ 5 + 0 := (hP _ (List.mem_of_getElem? (i := 4) rfl)).2.1
  have key : (((0 : Int) ≤ 0 + 0 ∧ ck_lk (va_up E 69 e') 108 (0 + 0) = 0 + (1 * σ 2 + 0)) ∧ ((0 : Int) ≤ 1 + 0 ∧ ck_lk (va_up E 69 e') 108 (1 + 0) = 0 + (1 * σ 3 + 0)) ∧ ((0 : Int) ≤ 2 + 0 ∧ ck_lk (va_up E 69 e') 108 (2 + 0) = 0 + (1 * σ 4 + 0)) ∧ ((0 : Int) ≤ 3 + 0 ∧ ck_lk (va_up E 69 e') 108 (3 + 0) = 0 + (1 * σ 5 + 0)) ∧ ((0 : Int) ≤ 5 + 0 ∧ ck_lk (va_up E 69 e') 108 (5 + 0) = 0 + (1 * σ 6 + 0)) ∧ True) := by
    refine ⟨⟨by decide, ?_⟩, ⟨by decide, ?_⟩, ⟨by decide, ?_⟩, ⟨by decide, ?_⟩, ⟨by decide, ?_⟩, trivial⟩
    · rw [k108 (c := 0) (by decide)] at p0
      rw [k108 (c := 0) (by decide), vf_wx_st hgi hgi2 (by decide) (by decide) l2 ⟨fun q => absurd q (by decide), fun q => absurd q (by decide), fun _ => by omega, fun q => absurd q (by decide), fun q => absurd q (by decide)⟩]
      exact p0
    · rw [k108 (c := 1) (by decide)] at p1
      rw [k108 (c := 1) (by decide), vf_wx_st hgi hgi2 (by decide) (by decide) l2 ⟨fun q => absurd q (by decide), fun q => absurd q (by decide), fun _ => by omega, fun q => absurd q (by decide), fun q => absurd q (by decide)⟩]
      exact p1
    · rw [k108 (c := 2) (by decide)] at p2
      rw [k108 (c := 2) (by decide), vf_wx_st hgi hgi2 (by decide) (by decide) l2 ⟨fun q => absurd q (by decide), fun q => absurd q (by decide), fun _ => by omega, fun q => absurd q (by decide), fun q => absurd q (by decide)⟩]
      exact p2
    · rw [k108 (c := 3) (by decide)] at p3
      rw [k108 (c := 3) (by decide), vf_wx_st hgi hgi2 (by decide) (by decide) l2 ⟨fun q => absurd q (by decide), fun q => absurd q (by decide), fun _ => by omega, fun q => absurd q (by decide), fun q => absurd q (by decide)⟩]
      exact p3
    · rw [k108 (c := 5) (by decide)] at p4
      rw [k108 (c := 5) (by decide), vf_wx_st hgi hgi2 (by decide) (by decide) l2 ⟨fun q => absurd q (by decide), fun q => absurd q (by decide), fun _ => by omega, fun q => absurd q (by decide), fun q => absurd q (by decide)⟩]
      exact p4
  obtain ⟨k0, k1, k2, k3, k4, -⟩ := key
  exact ⟨_, (List.mem_of_getElem? (i := 0) rfl), σ, ck_ag_rf, (fun _ h => absurd h List.not_mem_nil), (fun _ h => absurd h List.not_mem_nil), trivial, (List.forall_mem_cons.mpr ⟨⟨⟨ck_wb_ok rfl, ck_wb_ok rfl⟩, k0⟩, (List.forall_mem_cons.mpr ⟨⟨⟨ck_wb_ok rfl, ck_wb_ok rfl⟩, k1⟩, (List.forall_mem_cons.mpr ⟨⟨⟨ck_wb_ok rfl, ck_wb_ok rfl⟩, k2⟩, (List.forall_mem_cons.mpr ⟨⟨⟨ck_wb_ok rfl, ck_wb_ok rfl⟩, k3⟩, (List.forall_mem_cons.mpr ⟨⟨⟨ck_wb_ok rfl, ck_wb_ok rfl⟩, k4⟩, (fun _ h => absurd h List.not_mem_nil)⟩)⟩)⟩)⟩)⟩), (fun _ h => absurd h List.not_mem_nil)⟩
theorem ccWS_69_4 {l : Launch} {D : va_G} {kp : Nat → ClassId} : ck_con l D kp ck_NN ceWS_69_4 := ck_con_s (k := 69) rfl rpWS_69_4
theorem rpWS_70_4 : ck_scon ceWS_70_4 70 := by
  intro σ E e' idx v hargs hgi hF hP hΦ hgi2 h0 l1 l2
  cases hargs
  have h0 : (0 : Int) ≤ 0 + (1 * σ 0 + 0) := h0
  have l1 : ck_loc e' (0 + (1 * σ 0 + 0)) = 0 + (1 * σ 1 + 0) := l1
  have l2 : ∀ j, 0 ≤ j → ¬ j = 0 + (1 * σ 0 + 0) → ck_loc e' j = ck_loc (E 70) j := l2
  have f0 : (0 : Int) ≤ (-8) + (1 * σ 0 + 0) := hF _ (List.mem_of_getElem? (i := 0) rfl)
  have f1 : (0 : Int) ≤ 9 + ((-1) * σ 0 + 0) := hF _ (List.mem_of_getElem? (i := 1) rfl)
  have p0 : ck_lk E 108 (0 + 0) = 0 + (1 * σ 2 + 0) := (hP _ (List.mem_of_getElem? (i := 0) rfl)).2.2
  have q0 : (0 : Int) ≤ 0 + 0 := (hP _ (List.mem_of_getElem? (i := 0) rfl)).2.1
  have p1 : ck_lk E 108 (1 + 0) = 0 + (1 * σ 3 + 0) := (hP _ (List.mem_of_getElem? (i := 1) rfl)).2.2
  have q1 : (0 : Int) ≤ 1 + 0 := (hP _ (List.mem_of_getElem? (i := 1) rfl)).2.1
  have p2 : ck_lk E 108 (2 + 0) = 0 + (1 * σ 4 + 0) := (hP _ (List.mem_of_getElem? (i := 2) rfl)).2.2
  have q2 : (0 : Int) ≤ 2 + 0 := (hP _ (List.mem_of_getElem? (i := 2) rfl)).2.1
  have p3 : ck_lk E 108 (3 + 0) = 0 + (1 * σ 5 + 0) := (hP _ (List.mem_of_getElem? (i := 3) rfl)).2.2
  have q3 : (0 : Int) ≤ 3 + 0 := (hP _ (List.mem_of_getElem? (i := 3) rfl)).2.1
  have p4 : ck_lk E 108 (5 + 0) = 0 + (1 * σ 6 + 0) := (hP _ (List.mem_of_getElem? (i := 4) rfl)).2.2
  have q4 : (0 : Int) ≤ 5 + 0 := (hP _ (List.mem_of_getElem? (i := 4) rfl)).2.1
  have key : (((0 : Int) ≤ 0 + 0 ∧ ck_lk (va_up E 70 e') 108 (0 + 0) = 0 + (1 * σ 2 + 0)) ∧ ((0 : Int) ≤ 1 + 0 ∧ ck_lk (va_up E 70 e') 108 (1 + 0) = 0 + (1 * σ 3 + 0)) ∧ ((0 : Int) ≤ 2 + 0 ∧ ck_lk (va_up E 70 e') 108 (2 + 0) = 0 + (1 * σ 4 + 0)) ∧ ((0 : Int) ≤ 3 + 0 ∧ ck_lk (va_up E 70 e') 108 (3 + 0) = 0 + (1 * σ 5 + 0)) ∧ ((0 : Int) ≤ 5 + 0 ∧ ck_lk (va_up E 70 e') 108 (5 + 0) = 0 + (1 * σ 6 + 0)) ∧ True) := by
    refine ⟨⟨by decide, ?_⟩, ⟨by decide, ?_⟩, ⟨by decide, ?_⟩, ⟨by decide, ?_⟩, ⟨by decide, ?_⟩, trivial⟩
    · rw [k108 (c := 0) (by decide)] at p0
      rw [k108 (c := 0) (by decide), vf_wx_st hgi hgi2 (by decide) (by decide) l2 ⟨fun q => absurd q (by decide), fun q => absurd q (by decide), fun q => absurd q (by decide), fun _ => by omega, fun q => absurd q (by decide)⟩]
      exact p0
    · rw [k108 (c := 1) (by decide)] at p1
      rw [k108 (c := 1) (by decide), vf_wx_st hgi hgi2 (by decide) (by decide) l2 ⟨fun q => absurd q (by decide), fun q => absurd q (by decide), fun q => absurd q (by decide), fun _ => by omega, fun q => absurd q (by decide)⟩]
      exact p1
    · rw [k108 (c := 2) (by decide)] at p2
      rw [k108 (c := 2) (by decide), vf_wx_st hgi hgi2 (by decide) (by decide) l2 ⟨fun q => absurd q (by decide), fun q => absurd q (by decide), fun q => absurd q (by decide), fun _ => by omega, fun q => absurd q (by decide)⟩]
      exact p2
    · rw [k108 (c := 3) (by decide)] at p3
      rw [k108 (c := 3) (by decide), vf_wx_st hgi hgi2 (by decide) (by decide) l2 ⟨fun q => absurd q (by decide), fun q => absurd q (by decide), fun q => absurd q (by decide), fun _ => by omega, fun q => absurd q (by decide)⟩]
      exact p3
    · rw [k108 (c := 5) (by decide)] at p4
      rw [k108 (c := 5) (by decide), vf_wx_st hgi hgi2 (by decide) (by decide) l2 ⟨fun q => absurd q (by decide), fun q => absurd q (by decide), fun q => absurd q (by decide), fun _ => by omega, fun q => absurd q (by decide)⟩]
      exact p4
  obtain ⟨k0, k1, k2, k3, k4, -⟩ := key
  exact ⟨_, (List.mem_of_getElem? (i := 0) rfl), σ, ck_ag_rf, (fun _ h => absurd h List.not_mem_nil), (fun _ h => absurd h List.not_mem_nil), trivial, (List.forall_mem_cons.mpr ⟨⟨⟨ck_wb_ok rfl, ck_wb_ok rfl⟩, k0⟩, (List.forall_mem_cons.mpr ⟨⟨⟨ck_wb_ok rfl, ck_wb_ok rfl⟩, k1⟩, (List.forall_mem_cons.mpr ⟨⟨⟨ck_wb_ok rfl, ck_wb_ok rfl⟩, k2⟩, (List.forall_mem_cons.mpr ⟨⟨⟨ck_wb_ok rfl, ck_wb_ok rfl⟩, k3⟩, (List.forall_mem_cons.mpr ⟨⟨⟨ck_wb_ok rfl, ck_wb_ok rfl⟩, k4⟩, (fun _ h => absurd h List.not_mem_nil)⟩)⟩)⟩)⟩)⟩), (fun _ h => absurd h List.not_mem_nil)⟩
theorem ccWS_70_4 {l : Launch} {D : va_G} {kp : Nat → ClassId} : ck_con l D kp ck_NN ceWS_70_4 := ck_con_s (k := 70) rfl rpWS_70_4
theorem rpWS_72_4 : ck_scon ceWS_72_4 72 := by
  intro σ E e' idx v hargs hgi hF hP hΦ hgi2 h0 l1 l2
  cases hargs
  have h0 : (0 : Int) ≤ 0 + (1 * σ 0 + 0) := h0
  have l1 : ck_loc e' (0 + (1 * σ 0 + 0)) = 0 + (1 * σ 1 + 0) := l1
  have l2 : ∀ j, 0 ≤ j → ¬ j = 0 + (1 * σ 0 + 0) → ck_loc e' j = ck_loc (E 72) j := l2
  have f0 : (0 : Int) ≤ (-96) + (1 * σ 0 + 0) := hF _ (List.mem_of_getElem? (i := 0) rfl)
  have f1 : (0 : Int) ≤ 119 + ((-1) * σ 0 + 0) := hF _ (List.mem_of_getElem? (i := 1) rfl)
  have p0 : ck_lk E 108 (0 + 0) = 0 + (1 * σ 2 + 0) := (hP _ (List.mem_of_getElem? (i := 0) rfl)).2.2
  have q0 : (0 : Int) ≤ 0 + 0 := (hP _ (List.mem_of_getElem? (i := 0) rfl)).2.1
  have p1 : ck_lk E 108 (1 + 0) = 0 + (1 * σ 3 + 0) := (hP _ (List.mem_of_getElem? (i := 1) rfl)).2.2
  have q1 : (0 : Int) ≤ 1 + 0 := (hP _ (List.mem_of_getElem? (i := 1) rfl)).2.1
  have p2 : ck_lk E 108 (2 + 0) = 0 + (1 * σ 4 + 0) := (hP _ (List.mem_of_getElem? (i := 2) rfl)).2.2
  have q2 : (0 : Int) ≤ 2 + 0 := (hP _ (List.mem_of_getElem? (i := 2) rfl)).2.1
  have p3 : ck_lk E 108 (3 + 0) = 0 + (1 * σ 5 + 0) := (hP _ (List.mem_of_getElem? (i := 3) rfl)).2.2
  have q3 : (0 : Int) ≤ 3 + 0 := (hP _ (List.mem_of_getElem? (i := 3) rfl)).2.1
  have p4 : ck_lk E 108 (5 + 0) = 0 + (1 * σ 6 + 0) := (hP _ (List.mem_of_getElem? (i := 4) rfl)).2.2
  have q4 : (0 : Int) ≤ 5 + 0 := (hP _ (List.mem_of_getElem? (i := 4) rfl)).2.1
  have key : (((0 : Int) ≤ 0 + 0 ∧ ck_lk (va_up E 72 e') 108 (0 + 0) = 0 + (1 * σ 2 + 0)) ∧ ((0 : Int) ≤ 1 + 0 ∧ ck_lk (va_up E 72 e') 108 (1 + 0) = 0 + (1 * σ 3 + 0)) ∧ ((0 : Int) ≤ 2 + 0 ∧ ck_lk (va_up E 72 e') 108 (2 + 0) = 0 + (1 * σ 4 + 0)) ∧ ((0 : Int) ≤ 3 + 0 ∧ ck_lk (va_up E 72 e') 108 (3 + 0) = 0 + (1 * σ 5 + 0)) ∧ ((0 : Int) ≤ 5 + 0 ∧ ck_lk (va_up E 72 e') 108 (5 + 0) = 0 + (1 * σ 6 + 0)) ∧ True) := by
    refine ⟨⟨by decide, ?_⟩, ⟨by decide, ?_⟩, ⟨by decide, ?_⟩, ⟨by decide, ?_⟩, ⟨by decide, ?_⟩, trivial⟩
    · rw [k108 (c := 0) (by decide)] at p0
      rw [k108 (c := 0) (by decide), vf_wx_st hgi hgi2 (by decide) (by decide) l2 ⟨fun q => absurd q (by decide), fun q => absurd q (by decide), fun q => absurd q (by decide), fun q => absurd q (by decide), fun _ => by omega⟩]
      exact p0
    · rw [k108 (c := 1) (by decide)] at p1
      rw [k108 (c := 1) (by decide), vf_wx_st hgi hgi2 (by decide) (by decide) l2 ⟨fun q => absurd q (by decide), fun q => absurd q (by decide), fun q => absurd q (by decide), fun q => absurd q (by decide), fun _ => by omega⟩]
      exact p1
    · rw [k108 (c := 2) (by decide)] at p2
      rw [k108 (c := 2) (by decide), vf_wx_st hgi hgi2 (by decide) (by decide) l2 ⟨fun q => absurd q (by decide), fun q => absurd q (by decide), fun q => absurd q (by decide), fun q => absurd q (by decide), fun _ => by omega⟩]
      exact p2
    · rw [k108 (c := 3) (by decide)] at p3
      rw [k108 (c := 3) (by decide), vf_wx_st hgi hgi2 (by decide) (by decide) l2 ⟨fun q => absurd q (by decide), fun q => absurd q (by decide), fun q => absurd q (by decide), fun q => absurd q (by decide), fun _ => by omega⟩]
      exact p3
    · rw [k108 (c := 5) (by decide)] at p4
      rw [k108 (c := 5) (by decide), vf_wx_st hgi hgi2 (by decide) (by decide) l2 ⟨fun q => absurd q (by decide), fun q => absurd q (by decide), fun q => absurd q (by decide), fun q => absurd q (by decide), fun _ => by omega⟩]
      exact p4
  obtain ⟨k0, k1, k2, k3, k4, -⟩ := key
  exact ⟨_, (List.mem_of_getElem? (i := 0) rfl), σ, ck_ag_rf, (fun _ h => absurd h List.not_mem_nil), (fun _ h => absurd h List.not_mem_nil), trivial, (List.forall_mem_cons.mpr ⟨⟨⟨ck_wb_ok rfl, ck_wb_ok rfl⟩, k0⟩, (List.forall_mem_cons.mpr ⟨⟨⟨ck_wb_ok rfl, ck_wb_ok rfl⟩, k1⟩, (List.forall_mem_cons.mpr ⟨⟨⟨ck_wb_ok rfl, ck_wb_ok rfl⟩, k2⟩, (List.forall_mem_cons.mpr ⟨⟨⟨ck_wb_ok rfl, ck_wb_ok rfl⟩, k3⟩, (List.forall_mem_cons.mpr ⟨⟨⟨ck_wb_ok rfl, ck_wb_ok rfl⟩, k4⟩, (fun _ h => absurd h List.not_mem_nil)⟩)⟩)⟩)⟩)⟩), (fun _ h => absurd h List.not_mem_nil)⟩
theorem ccWS_72_4 {l : Launch} {D : va_G} {kp : Nat → ClassId} : ck_con l D kp ck_NN ceWS_72_4 := ck_con_s (k := 72) rfl rpWS_72_4
theorem rpWS_65_5 : ck_scon ceWS_65_5 65 := by
  intro σ E e' idx v hargs hgi hF hP hΦ hgi2 h0 l1 l2
  cases hargs
  have h0 : (0 : Int) ≤ 0 + (1 * σ 0 + 0) := h0
  have l1 : ck_loc e' (0 + (1 * σ 0 + 0)) = 0 + (1 * σ 1 + 0) := l1
  have l2 : ∀ j, 0 ≤ j → ¬ j = 0 + (1 * σ 0 + 0) → ck_loc e' j = ck_loc (E 65) j := l2
  have f0 : (0 : Int) ≤ (-5) + (1 * σ 0 + 0) := hF _ (List.mem_of_getElem? (i := 0) rfl)
  have f1 : (0 : Int) ≤ 5 + ((-1) * σ 0 + 0) := hF _ (List.mem_of_getElem? (i := 1) rfl)
  have p0 : ck_lk E 108 (0 + 0) = 0 + (1 * σ 2 + 0) := (hP _ (List.mem_of_getElem? (i := 0) rfl)).2.2
  have q0 : (0 : Int) ≤ 0 + 0 := (hP _ (List.mem_of_getElem? (i := 0) rfl)).2.1
  have p1 : ck_lk E 108 (1 + 0) = 0 + (1 * σ 3 + 0) := (hP _ (List.mem_of_getElem? (i := 1) rfl)).2.2
  have q1 : (0 : Int) ≤ 1 + 0 := (hP _ (List.mem_of_getElem? (i := 1) rfl)).2.1
  have p2 : ck_lk E 108 (2 + 0) = 0 + (1 * σ 4 + 0) := (hP _ (List.mem_of_getElem? (i := 2) rfl)).2.2
  have q2 : (0 : Int) ≤ 2 + 0 := (hP _ (List.mem_of_getElem? (i := 2) rfl)).2.1
  have p3 : ck_lk E 108 (3 + 0) = 0 + (1 * σ 5 + 0) := (hP _ (List.mem_of_getElem? (i := 3) rfl)).2.2
  have q3 : (0 : Int) ≤ 3 + 0 := (hP _ (List.mem_of_getElem? (i := 3) rfl)).2.1
  have p4 : ck_lk E 108 (4 + 0) = 0 + (1 * σ 6 + 0) := (hP _ (List.mem_of_getElem? (i := 4) rfl)).2.2
  have q4 : (0 : Int) ≤ 4 + 0 := (hP _ (List.mem_of_getElem? (i := 4) rfl)).2.1
  have key : (((0 : Int) ≤ 0 + 0 ∧ ck_lk (va_up E 65 e') 108 (0 + 0) = 0 + (1 * σ 2 + 0)) ∧ ((0 : Int) ≤ 1 + 0 ∧ ck_lk (va_up E 65 e') 108 (1 + 0) = 0 + (1 * σ 3 + 0)) ∧ ((0 : Int) ≤ 2 + 0 ∧ ck_lk (va_up E 65 e') 108 (2 + 0) = 0 + (1 * σ 4 + 0)) ∧ ((0 : Int) ≤ 3 + 0 ∧ ck_lk (va_up E 65 e') 108 (3 + 0) = 0 + (1 * σ 5 + 0)) ∧ ((0 : Int) ≤ 4 + 0 ∧ ck_lk (va_up E 65 e') 108 (4 + 0) = 0 + (1 * σ 6 + 0)) ∧ True) := by
    refine ⟨⟨by decide, ?_⟩, ⟨by decide, ?_⟩, ⟨by decide, ?_⟩, ⟨by decide, ?_⟩, ⟨by decide, ?_⟩, trivial⟩
    · rw [k108 (c := 0) (by decide)] at p0
      rw [k108 (c := 0) (by decide), vf_wx_st hgi hgi2 (by decide) (by decide) l2 ⟨fun _ => by omega, fun q => absurd q (by decide), fun q => absurd q (by decide), fun q => absurd q (by decide), fun q => absurd q (by decide)⟩]
      exact p0
    · rw [k108 (c := 1) (by decide)] at p1
      rw [k108 (c := 1) (by decide), vf_wx_st hgi hgi2 (by decide) (by decide) l2 ⟨fun _ => by omega, fun q => absurd q (by decide), fun q => absurd q (by decide), fun q => absurd q (by decide), fun q => absurd q (by decide)⟩]
      exact p1
    · rw [k108 (c := 2) (by decide)] at p2
      rw [k108 (c := 2) (by decide), vf_wx_st hgi hgi2 (by decide) (by decide) l2 ⟨fun _ => by omega, fun q => absurd q (by decide), fun q => absurd q (by decide), fun q => absurd q (by decide), fun q => absurd q (by decide)⟩]
      exact p2
    · rw [k108 (c := 3) (by decide)] at p3
      rw [k108 (c := 3) (by decide), vf_wx_st hgi hgi2 (by decide) (by decide) l2 ⟨fun _ => by omega, fun q => absurd q (by decide), fun q => absurd q (by decide), fun q => absurd q (by decide), fun q => absurd q (by decide)⟩]
      exact p3
    · rw [k108 (c := 4) (by decide)] at p4
      rw [k108 (c := 4) (by decide), vf_wx_st hgi hgi2 (by decide) (by decide) l2 ⟨fun _ => by omega, fun q => absurd q (by decide), fun q => absurd q (by decide), fun q => absurd q (by decide), fun q => absurd q (by decide)⟩]
      exact p4
  obtain ⟨k0, k1, k2, k3, k4, -⟩ := key
  exact ⟨_, (List.mem_of_getElem? (i := 0) rfl), σ, ck_ag_rf, (fun _ h => absurd h List.not_mem_nil), (fun _ h => absurd h List.not_mem_nil), trivial, (List.forall_mem_cons.mpr ⟨⟨⟨ck_wb_ok rfl, ck_wb_ok rfl⟩, k0⟩, (List.forall_mem_cons.mpr ⟨⟨⟨ck_wb_ok rfl, ck_wb_ok rfl⟩, k1⟩, (List.forall_mem_cons.mpr ⟨⟨⟨ck_wb_ok rfl, ck_wb_ok rfl⟩, k2⟩, (List.forall_mem_cons.mpr ⟨⟨⟨ck_wb_ok rfl, ck_wb_ok rfl⟩, k3⟩, (List.forall_mem_cons.mpr ⟨⟨⟨ck_wb_ok rfl, ck_wb_ok rfl⟩, k4⟩, (fun _ h => absurd h List.not_mem_nil)⟩)⟩)⟩)⟩)⟩), (fun _ h => absurd h List.not_mem_nil)⟩
theorem ccWS_65_5 {l : Launch} {D : va_G} {kp : Nat → ClassId} : ck_con l D kp ck_NN ceWS_65_5 := ck_con_s (k := 65) rfl rpWS_65_5
theorem rpWS_67_5 : ck_scon ceWS_67_5 67 := by
  intro σ E e' idx v hargs hgi hF hP hΦ hgi2 h0 l1 l2
  cases hargs
  have h0 : (0 : Int) ≤ 0 + (1 * σ 0 + 0) := h0
  have l1 : ck_loc e' (0 + (1 * σ 0 + 0)) = 0 + (1 * σ 1 + 0) := l1
  have l2 : ∀ j, 0 ≤ j → ¬ j = 0 + (1 * σ 0 + 0) → ck_loc e' j = ck_loc (E 67) j := l2
  have f0 : (0 : Int) ≤ (-30) + (1 * σ 0 + 0) := hF _ (List.mem_of_getElem? (i := 0) rfl)
  have f1 : (0 : Int) ≤ 35 + ((-1) * σ 0 + 0) := hF _ (List.mem_of_getElem? (i := 1) rfl)
  have p0 : ck_lk E 108 (0 + 0) = 0 + (1 * σ 2 + 0) := (hP _ (List.mem_of_getElem? (i := 0) rfl)).2.2
  have q0 : (0 : Int) ≤ 0 + 0 := (hP _ (List.mem_of_getElem? (i := 0) rfl)).2.1
  have p1 : ck_lk E 108 (1 + 0) = 0 + (1 * σ 3 + 0) := (hP _ (List.mem_of_getElem? (i := 1) rfl)).2.2
  have q1 : (0 : Int) ≤ 1 + 0 := (hP _ (List.mem_of_getElem? (i := 1) rfl)).2.1
  have p2 : ck_lk E 108 (2 + 0) = 0 + (1 * σ 4 + 0) := (hP _ (List.mem_of_getElem? (i := 2) rfl)).2.2
  have q2 : (0 : Int) ≤ 2 + 0 := (hP _ (List.mem_of_getElem? (i := 2) rfl)).2.1
  have p3 : ck_lk E 108 (3 + 0) = 0 + (1 * σ 5 + 0) := (hP _ (List.mem_of_getElem? (i := 3) rfl)).2.2
  have q3 : (0 : Int) ≤ 3 + 0 := (hP _ (List.mem_of_getElem? (i := 3) rfl)).2.1
  have p4 : ck_lk E 108 (4 + 0) = 0 + (1 * σ 6 + 0) := (hP _ (List.mem_of_getElem? (i := 4) rfl)).2.2
  have q4 : (0 : Int) ≤ 4 + 0 := (hP _ (List.mem_of_getElem? (i := 4) rfl)).2.1
  have key : (((0 : Int) ≤ 0 + 0 ∧ ck_lk (va_up E 67 e') 108 (0 + 0) = 0 + (1 * σ 2 + 0)) ∧ ((0 : Int) ≤ 1 + 0 ∧ ck_lk (va_up E 67 e') 108 (1 + 0) = 0 + (1 * σ 3 + 0)) ∧ ((0 : Int) ≤ 2 + 0 ∧ ck_lk (va_up E 67 e') 108 (2 + 0) = 0 + (1 * σ 4 + 0)) ∧ ((0 : Int) ≤ 3 + 0 ∧ ck_lk (va_up E 67 e') 108 (3 + 0) = 0 + (1 * σ 5 + 0)) ∧ ((0 : Int) ≤ 4 + 0 ∧ ck_lk (va_up E 67 e') 108 (4 + 0) = 0 + (1 * σ 6 + 0)) ∧ True) := by
    refine ⟨⟨by decide, ?_⟩, ⟨by decide, ?_⟩, ⟨by decide, ?_⟩, ⟨by decide, ?_⟩, ⟨by decide, ?_⟩, trivial⟩
    · rw [k108 (c := 0) (by decide)] at p0
      rw [k108 (c := 0) (by decide), vf_wx_st hgi hgi2 (by decide) (by decide) l2 ⟨fun q => absurd q (by decide), fun _ => by omega, fun q => absurd q (by decide), fun q => absurd q (by decide), fun q => absurd q (by decide)⟩]
      exact p0
    · rw [k108 (c := 1) (by decide)] at p1
      rw [k108 (c := 1) (by decide), vf_wx_st hgi hgi2 (by decide) (by decide) l2 ⟨fun q => absurd q (by decide), fun _ => by omega, fun q => absurd q (by decide), fun q => absurd q (by decide), fun q => absurd q (by decide)⟩]
      exact p1
    · rw [k108 (c := 2) (by decide)] at p2
      rw [k108 (c := 2) (by decide), vf_wx_st hgi hgi2 (by decide) (by decide) l2 ⟨fun q => absurd q (by decide), fun _ => by omega, fun q => absurd q (by decide), fun q => absurd q (by decide), fun q => absurd q (by decide)⟩]
      exact p2
    · rw [k108 (c := 3) (by decide)] at p3
      rw [k108 (c := 3) (by decide), vf_wx_st hgi hgi2 (by decide) (by decide) l2 ⟨fun q => absurd q (by decide), fun _ => by omega, fun q => absurd q (by decide), fun q => absurd q (by decide), fun q => absurd q (by decide)⟩]
      exact p3
    · rw [k108 (c := 4) (by decide)] at p4
      rw [k108 (c := 4) (by decide), vf_wx_st hgi hgi2 (by decide) (by decide) l2 ⟨fun q => absurd q (by decide), fun _ => by omega, fun q => absurd q (by decide), fun q => absurd q (by decide), fun q => absurd q (by decide)⟩]
      exact p4
  obtain ⟨k0, k1, k2, k3, k4, -⟩ := key
  exact ⟨_, (List.mem_of_getElem? (i := 0) rfl), σ, ck_ag_rf, (fun _ h => absurd h List.not_mem_nil), (fun _ h => absurd h List.not_mem_nil), trivial, (List.forall_mem_cons.mpr ⟨⟨⟨ck_wb_ok rfl, ck_wb_ok rfl⟩, k0⟩, (List.forall_mem_cons.mpr ⟨⟨⟨ck_wb_ok rfl, ck_wb_ok rfl⟩, k1⟩, (List.forall_mem_cons.mpr ⟨⟨⟨ck_wb_ok rfl, ck_wb_ok rfl⟩, k2⟩, (List.forall_mem_cons.mpr ⟨⟨⟨ck_wb_ok rfl, ck_wb_ok rfl⟩, k3⟩, (List.forall_mem_cons.mpr ⟨⟨⟨ck_wb_ok rfl, ck_wb_ok rfl⟩, k4⟩, (fun _ h => absurd h List.not_mem_nil)⟩)⟩)⟩)⟩)⟩), (fun _ h => absurd h List.not_mem_nil)⟩
theorem ccWS_67_5 {l : Launch} {D : va_G} {kp : Nat → ClassId} : ck_con l D kp ck_NN ceWS_67_5 := ck_con_s (k := 67) rfl rpWS_67_5
theorem rpWS_69_5 : ck_scon ceWS_69_5 69 := by
  intro σ E e' idx v hargs hgi hF hP hΦ hgi2 h0 l1 l2
  cases hargs
  have h0 : (0 : Int) ≤ 0 + (1 * σ 0 + 0) := h0
  have l1 : ck_loc e' (0 + (1 * σ 0 + 0)) = 0 + (1 * σ 1 + 0) := l1
  have l2 : ∀ j, 0 ≤ j → ¬ j = 0 + (1 * σ 0 + 0) → ck_loc e' j = ck_loc (E 69) j := l2
  have f0 : (0 : Int) ≤ (-240) + (1 * σ 0 + 0) := hF _ (List.mem_of_getElem? (i := 0) rfl)
  have f1 : (0 : Int) ≤ 287 + ((-1) * σ 0 + 0) := hF _ (List.mem_of_getElem? (i := 1) rfl)
  have p0 : ck_lk E 108 (0 + 0) = 0 + (1 * σ 2 + 0) := (hP _ (List.mem_of_getElem? (i := 0) rfl)).2.2
  have q0 : (0 : Int) ≤ 0 + 0 := (hP _ (List.mem_of_getElem? (i := 0) rfl)).2.1
  have p1 : ck_lk E 108 (1 + 0) = 0 + (1 * σ 3 + 0) := (hP _ (List.mem_of_getElem? (i := 1) rfl)).2.2
  have q1 : (0 : Int) ≤ 1 + 0 := (hP _ (List.mem_of_getElem? (i := 1) rfl)).2.1
  have p2 : ck_lk E 108 (2 + 0) = 0 + (1 * σ 4 + 0) := (hP _ (List.mem_of_getElem? (i := 2) rfl)).2.2
  have q2 : (0 : Int) ≤ 2 + 0 := (hP _ (List.mem_of_getElem? (i := 2) rfl)).2.1
  have p3 : ck_lk E 108 (3 + 0) = 0 + (1 * σ 5 + 0) := (hP _ (List.mem_of_getElem? (i := 3) rfl)).2.2
  have q3 : (0 : Int) ≤ 3 + 0 := (hP _ (List.mem_of_getElem? (i := 3) rfl)).2.1
  have p4 : ck_lk E 108 (4 + 0) = 0 + (1 * σ 6 + 0) := (hP _ (List.mem_of_getElem? (i := 4) rfl)).2.2
  have q4 : (0 : Int) ≤ 4 + 0 := (hP _ (List.mem_of_getElem? (i := 4) rfl)).2.1
  have key : (((0 : Int) ≤ 0 + 0 ∧ ck_lk (va_up E 69 e') 108 (0 + 0) = 0 + (1 * σ 2 + 0)) ∧ ((0 : Int) ≤ 1 + 0 ∧ ck_lk (va_up E 69 e') 108 (1 + 0) = 0 + (1 * σ 3 + 0)) ∧ ((0 : Int) ≤ 2 + 0 ∧ ck_lk (va_up E 69 e') 108 (2 + 0) = 0 + (1 * σ 4 + 0)) ∧ ((0 : Int) ≤ 3 + 0 ∧ ck_lk (va_up E 69 e') 108 (3 + 0) = 0 + (1 * σ 5 + 0)) ∧ ((0 : Int) ≤ 4 + 0 ∧ ck_lk (va_up E 69 e') 108 (4 + 0) = 0 + (1 * σ 6 + 0)) ∧ True) := by
    refine ⟨⟨by decide, ?_⟩, ⟨by decide, ?_⟩, ⟨by decide, ?_⟩, ⟨by decide, ?_⟩, ⟨by decide, ?_⟩, trivial⟩
    · rw [k108 (c := 0) (by decide)] at p0
      rw [k108 (c := 0) (by decide), vf_wx_st hgi hgi2 (by decide) (by decide) l2 ⟨fun q => absurd q (by decide), fun q => absurd q (by decide), fun _ => by omega, fun q => absurd q (by decide), fun q => absurd q (by decide)⟩]
      exact p0
    · rw [k108 (c := 1) (by decide)] at p1
      rw [k108 (c := 1) (by decide), vf_wx_st hgi hgi2 (by decide) (by decide) l2 ⟨fun q => absurd q (by decide), fun q => absurd q (by decide), fun _ => by omega, fun q => absurd q (by decide), fun q => absurd q (by decide)⟩]
      exact p1
    · rw [k108 (c := 2) (by decide)] at p2
      rw [k108 (c := 2) (by decide), vf_wx_st hgi hgi2 (by decide) (by decide) l2 ⟨fun q => absurd q (by decide), fun q => absurd q (by decide), fun _ => by omega, fun q => absurd q (by decide), fun q => absurd q (by decide)⟩]
      exact p2
    · rw [k108 (c := 3) (by decide)] at p3
      rw [k108 (c := 3) (by decide), vf_wx_st hgi hgi2 (by decide) (by decide) l2 ⟨fun q => absurd q (by decide), fun q => absurd q (by decide), fun _ => by omega, fun q => absurd q (by decide), fun q => absurd q (by decide)⟩]
      exact p3
    · rw [k108 (c := 4) (by decide)] at p4
      rw [k108 (c := 4) (by decide), vf_wx_st hgi hgi2 (by decide) (by decide) l2 ⟨fun q => absurd q (by decide), fun q => absurd q (by decide), fun _ => by omega, fun q => absurd q (by decide), fun q => absurd q (by decide)⟩]
      exact p4
  obtain ⟨k0, k1, k2, k3, k4, -⟩ := key
  exact ⟨_, (List.mem_of_getElem? (i := 0) rfl), σ, ck_ag_rf, (fun _ h => absurd h List.not_mem_nil), (fun _ h => absurd h List.not_mem_nil), trivial, (List.forall_mem_cons.mpr ⟨⟨⟨ck_wb_ok rfl, ck_wb_ok rfl⟩, k0⟩, (List.forall_mem_cons.mpr ⟨⟨⟨ck_wb_ok rfl, ck_wb_ok rfl⟩, k1⟩, (List.forall_mem_cons.mpr ⟨⟨⟨ck_wb_ok rfl, ck_wb_ok rfl⟩, k2⟩, (List.forall_mem_cons.mpr ⟨⟨⟨ck_wb_ok rfl, ck_wb_ok rfl⟩, k3⟩, (List.forall_mem_cons.mpr ⟨⟨⟨ck_wb_ok rfl, ck_wb_ok rfl⟩, k4⟩, (fun _ h => absurd h List.not_mem_nil)⟩)⟩)⟩)⟩)⟩), (fun _ h => absurd h List.not_mem_nil)⟩
theorem ccWS_69_5 {l : Launch} {D : va_G} {kp : Nat → ClassId} : ck_con l D kp ck_NN ceWS_69_5 := ck_con_s (k := 69) rfl rpWS_69_5
theorem rpWS_70_5 : ck_scon ceWS_70_5 70 := by
  intro σ E e' idx v hargs hgi hF hP hΦ hgi2 h0 l1 l2
  cases hargs
  have h0 : (0 : Int) ≤ 0 + (1 * σ 0 + 0) := h0
  have l1 : ck_loc e' (0 + (1 * σ 0 + 0)) = 0 + (1 * σ 1 + 0) := l1
  have l2 : ∀ j, 0 ≤ j → ¬ j = 0 + (1 * σ 0 + 0) → ck_loc e' j = ck_loc (E 70) j := l2
  have f0 : (0 : Int) ≤ (-10) + (1 * σ 0 + 0) := hF _ (List.mem_of_getElem? (i := 0) rfl)
  have f1 : (0 : Int) ≤ 11 + ((-1) * σ 0 + 0) := hF _ (List.mem_of_getElem? (i := 1) rfl)
  have p0 : ck_lk E 108 (0 + 0) = 0 + (1 * σ 2 + 0) := (hP _ (List.mem_of_getElem? (i := 0) rfl)).2.2
  have q0 : (0 : Int) ≤ 0 + 0 := (hP _ (List.mem_of_getElem? (i := 0) rfl)).2.1
  have p1 : ck_lk E 108 (1 + 0) = 0 + (1 * σ 3 + 0) := (hP _ (List.mem_of_getElem? (i := 1) rfl)).2.2
  have q1 : (0 : Int) ≤ 1 + 0 := (hP _ (List.mem_of_getElem? (i := 1) rfl)).2.1
  have p2 : ck_lk E 108 (2 + 0) = 0 + (1 * σ 4 + 0) := (hP _ (List.mem_of_getElem? (i := 2) rfl)).2.2
  have q2 : (0 : Int) ≤ 2 + 0 := (hP _ (List.mem_of_getElem? (i := 2) rfl)).2.1
  have p3 : ck_lk E 108 (3 + 0) = 0 + (1 * σ 5 + 0) := (hP _ (List.mem_of_getElem? (i := 3) rfl)).2.2
  have q3 : (0 : Int) ≤ 3 + 0 := (hP _ (List.mem_of_getElem? (i := 3) rfl)).2.1
  have p4 : ck_lk E 108 (4 + 0) = 0 + (1 * σ 6 + 0) := (hP _ (List.mem_of_getElem? (i := 4) rfl)).2.2
  have q4 : (0 : Int) ≤ 4 + 0 := (hP _ (List.mem_of_getElem? (i := 4) rfl)).2.1
  have key : (((0 : Int) ≤ 0 + 0 ∧ ck_lk (va_up E 70 e') 108 (0 + 0) = 0 + (1 * σ 2 + 0)) ∧ ((0 : Int) ≤ 1 + 0 ∧ ck_lk (va_up E 70 e') 108 (1 + 0) = 0 + (1 * σ 3 + 0)) ∧ ((0 : Int) ≤ 2 + 0 ∧ ck_lk (va_up E 70 e') 108 (2 + 0) = 0 + (1 * σ 4 + 0)) ∧ ((0 : Int) ≤ 3 + 0 ∧ ck_lk (va_up E 70 e') 108 (3 + 0) = 0 + (1 * σ 5 + 0)) ∧ ((0 : Int) ≤ 4 + 0 ∧ ck_lk (va_up E 70 e') 108 (4 + 0) = 0 + (1 * σ 6 + 0)) ∧ True) := by
    refine ⟨⟨by decide, ?_⟩, ⟨by decide, ?_⟩, ⟨by decide, ?_⟩, ⟨by decide, ?_⟩, ⟨by decide, ?_⟩, trivial⟩
    · rw [k108 (c := 0) (by decide)] at p0
      rw [k108 (c := 0) (by decide), vf_wx_st hgi hgi2 (by decide) (by decide) l2 ⟨fun q => absurd q (by decide), fun q => absurd q (by decide), fun q => absurd q (by decide), fun _ => by omega, fun q => absurd q (by decide)⟩]
      exact p0
    · rw [k108 (c := 1) (by decide)] at p1
      rw [k108 (c := 1) (by decide), vf_wx_st hgi hgi2 (by decide) (by decide) l2 ⟨fun q => absurd q (by decide), fun q => absurd q (by decide), fun q => absurd q (by decide), fun _ => by omega, fun q => absurd q (by decide)⟩]
      exact p1
    · rw [k108 (c := 2) (by decide)] at p2
      rw [k108 (c := 2) (by decide), vf_wx_st hgi hgi2 (by decide) (by decide) l2 ⟨fun q => absurd q (by decide), fun q => absurd q (by decide), fun q => absurd q (by decide), fun _ => by omega, fun q => absurd q (by decide)⟩]
      exact p2
    · rw [k108 (c := 3) (by decide)] at p3
      rw [k108 (c := 3) (by decide), vf_wx_st hgi hgi2 (by decide) (by decide) l2 ⟨fun q => absurd q (by decide), fun q => absurd q (by decide), fun q => absurd q (by decide), fun _ => by omega, fun q => absurd q (by decide)⟩]
      exact p3
    · rw [k108 (c := 4) (by decide)] at p4
      rw [k108 (c := 4) (by decide), vf_wx_st hgi hgi2 (by decide) (by decide) l2 ⟨fun q => absurd q (by decide), fun q => absurd q (by decide), fun q => absurd q (by decide), fun _ => by omega, fun q => absurd q (by decide)⟩]
      exact p4
  obtain ⟨k0, k1, k2, k3, k4, -⟩ := key
  exact ⟨_, (List.mem_of_getElem? (i := 0) rfl), σ, ck_ag_rf, (fun _ h => absurd h List.not_mem_nil), (fun _ h => absurd h List.not_mem_nil), trivial, (List.forall_mem_cons.mpr ⟨⟨⟨ck_wb_ok rfl, ck_wb_ok rfl⟩, k0⟩, (List.forall_mem_cons.mpr ⟨⟨⟨ck_wb_ok rfl, ck_wb_ok rfl⟩, k1⟩, (List.forall_mem_cons.mpr ⟨⟨⟨ck_wb_ok rfl, ck_wb_ok rfl⟩, k2⟩, (List.forall_mem_cons.mpr ⟨⟨⟨ck_wb_ok rfl, ck_wb_ok rfl⟩, k3⟩, (List.forall_mem_cons.mpr ⟨⟨⟨ck_wb_ok rfl, ck_wb_ok rfl⟩, k4⟩, (fun _ h => absurd h List.not_mem_nil)⟩)⟩)⟩)⟩)⟩), (fun _ h => absurd h List.not_mem_nil)⟩
theorem ccWS_70_5 {l : Launch} {D : va_G} {kp : Nat → ClassId} : ck_con l D kp ck_NN ceWS_70_5 := ck_con_s (k := 70) rfl rpWS_70_5
theorem rpWS_72_5 : ck_scon ceWS_72_5 72 := by
  intro σ E e' idx v hargs hgi hF hP hΦ hgi2 h0 l1 l2
  cases hargs
  have h0 : (0 : Int) ≤ 0 + (1 * σ 0 + 0) := h0
  have l1 : ck_loc e' (0 + (1 * σ 0 + 0)) = 0 + (1 * σ 1 + 0) := l1
  have l2 : ∀ j, 0 ≤ j → ¬ j = 0 + (1 * σ 0 + 0) → ck_loc e' j = ck_loc (E 72) j := l2
  have f0 : (0 : Int) ≤ (-120) + (1 * σ 0 + 0) := hF _ (List.mem_of_getElem? (i := 0) rfl)
  have f1 : (0 : Int) ≤ 143 + ((-1) * σ 0 + 0) := hF _ (List.mem_of_getElem? (i := 1) rfl)
  have p0 : ck_lk E 108 (0 + 0) = 0 + (1 * σ 2 + 0) := (hP _ (List.mem_of_getElem? (i := 0) rfl)).2.2
  have q0 : (0 : Int) ≤ 0 + 0 := (hP _ (List.mem_of_getElem? (i := 0) rfl)).2.1
  have p1 : ck_lk E 108 (1 + 0) = 0 + (1 * σ 3 + 0) := (hP _ (List.mem_of_getElem? (i := 1) rfl)).2.2
  have q1 : (0 : Int) ≤ 1 + 0 := (hP _ (List.mem_of_getElem? (i := 1) rfl)).2.1
  have p2 : ck_lk E 108 (2 + 0) = 0 + (1 * σ 4 + 0) := (hP _ (List.mem_of_getElem? (i := 2) rfl)).2.2
  have q2 : (0 : Int) ≤ 2 + 0 := (hP _ (List.mem_of_getElem? (i := 2) rfl)).2.1
  have p3 : ck_lk E 108 (3 + 0) = 0 + (1 * σ 5 + 0) := (hP _ (List.mem_of_getElem? (i := 3) rfl)).2.2
  have q3 : (0 : Int) ≤ 3 + 0 := (hP _ (List.mem_of_getElem? (i := 3) rfl)).2.1
  have p4 : ck_lk E 108 (4 + 0) = 0 + (1 * σ 6 + 0) := (hP _ (List.mem_of_getElem? (i := 4) rfl)).2.2
  have q4 : (0 : Int) ≤ 4 + 0 := (hP _ (List.mem_of_getElem? (i := 4) rfl)).2.1
  have key : (((0 : Int) ≤ 0 + 0 ∧ ck_lk (va_up E 72 e') 108 (0 + 0) = 0 + (1 * σ 2 + 0)) ∧ ((0 : Int) ≤ 1 + 0 ∧ ck_lk (va_up E 72 e') 108 (1 + 0) = 0 + (1 * σ 3 + 0)) ∧ ((0 : Int) ≤ 2 + 0 ∧ ck_lk (va_up E 72 e') 108 (2 + 0) = 0 + (1 * σ 4 + 0)) ∧ ((0 : Int) ≤ 3 + 0 ∧ ck_lk (va_up E 72 e') 108 (3 + 0) = 0 + (1 * σ 5 + 0)) ∧ ((0 : Int) ≤ 4 + 0 ∧ ck_lk (va_up E 72 e') 108 (4 + 0) = 0 + (1 * σ 6 + 0)) ∧ True) := by
    refine ⟨⟨by decide, ?_⟩, ⟨by decide, ?_⟩, ⟨by decide, ?_⟩, ⟨by decide, ?_⟩, ⟨by decide, ?_⟩, trivial⟩
    · rw [k108 (c := 0) (by decide)] at p0
      rw [k108 (c := 0) (by decide), vf_wx_st hgi hgi2 (by decide) (by decide) l2 ⟨fun q => absurd q (by decide), fun q => absurd q (by decide), fun q => absurd q (by decide), fun q => absurd q (by decide), fun _ => by omega⟩]
      exact p0
    · rw [k108 (c := 1) (by decide)] at p1
      rw [k108 (c := 1) (by decide), vf_wx_st hgi hgi2 (by decide) (by decide) l2 ⟨fun q => absurd q (by decide), fun q => absurd q (by decide), fun q => absurd q (by decide), fun q => absurd q (by decide), fun _ => by omega⟩]
      exact p1
    · rw [k108 (c := 2) (by decide)] at p2
      rw [k108 (c := 2) (by decide), vf_wx_st hgi hgi2 (by decide) (by decide) l2 ⟨fun q => absurd q (by decide), fun q => absurd q (by decide), fun q => absurd q (by decide), fun q => absurd q (by decide), fun _ => by omega⟩]
      exact p2
    · rw [k108 (c := 3) (by decide)] at p3
      rw [k108 (c := 3) (by decide), vf_wx_st hgi hgi2 (by decide) (by decide) l2 ⟨fun q => absurd q (by decide), fun q => absurd q (by decide), fun q => absurd q (by decide), fun q => absurd q (by decide), fun _ => by omega⟩]
      exact p3
    · rw [k108 (c := 4) (by decide)] at p4
      rw [k108 (c := 4) (by decide), vf_wx_st hgi hgi2 (by decide) (by decide) l2 ⟨fun q => absurd q (by decide), fun q => absurd q (by decide), fun q => absurd q (by decide), fun q => absurd q (by decide), fun _ => by omega⟩]
      exact p4
  obtain ⟨k0, k1, k2, k3, k4, -⟩ := key
  exact ⟨_, (List.mem_of_getElem? (i := 0) rfl), σ, ck_ag_rf, (fun _ h => absurd h List.not_mem_nil), (fun _ h => absurd h List.not_mem_nil), trivial, (List.forall_mem_cons.mpr ⟨⟨⟨ck_wb_ok rfl, ck_wb_ok rfl⟩, k0⟩, (List.forall_mem_cons.mpr ⟨⟨⟨ck_wb_ok rfl, ck_wb_ok rfl⟩, k1⟩, (List.forall_mem_cons.mpr ⟨⟨⟨ck_wb_ok rfl, ck_wb_ok rfl⟩, k2⟩, (List.forall_mem_cons.mpr ⟨⟨⟨ck_wb_ok rfl, ck_wb_ok rfl⟩, k3⟩, (List.forall_mem_cons.mpr ⟨⟨⟨ck_wb_ok rfl, ck_wb_ok rfl⟩, k4⟩, (fun _ h => absurd h List.not_mem_nil)⟩)⟩)⟩)⟩)⟩), (fun _ h => absurd h List.not_mem_nil)⟩
theorem ccWS_72_5 {l : Launch} {D : va_G} {kp : Nat → ClassId} : ck_con l D kp ck_NN ceWS_72_5 := ck_con_s (k := 72) rfl rpWS_72_5
theorem rpWG_0 : ck_scon ceWG_0 69 := by
  intro σ E e' idx v hargs hgi hF hP hΦ hgi2 h0 l1 l2
  cases hargs
  have h0 : (0 : Int) ≤ 0 + (1 * σ 0 + 0) := h0
  have l1 : ck_loc e' (0 + (1 * σ 0 + 0)) = 0 + (1 * σ 1 + 0) := l1
  have l2 : ∀ j, 0 ≤ j → ¬ j = 0 + (1 * σ 0 + 0) → ck_loc e' j = ck_loc (E 69) j := l2
  have f0 : (0 : Int) ≤ 0 + (1 * σ 0 + 0) := hF _ (List.mem_of_getElem? (i := 0) rfl)
  have f1 : (0 : Int) ≤ 47 + ((-1) * σ 0 + 0) := hF _ (List.mem_of_getElem? (i := 1) rfl)
  have f2 : (0 : Int) ≤ (-1) + (1 * σ 2 + 0) := hF _ (List.mem_of_getElem? (i := 2) rfl)
  have f3 : (0 : Int) ≤ (-1) + ((-1) * σ 1 + (1 * σ 8 + 0)) := hF _ (List.mem_of_getElem? (i := 3) rfl)
  have p0 : ck_lk E 108 (0 + 0) = 0 + (1 * σ 2 + 0) := (hP _ (List.mem_of_getElem? (i := 0) rfl)).2.2
  have q0 : (0 : Int) ≤ 0 + 0 := (hP _ (List.mem_of_getElem? (i := 0) rfl)).2.1
  have p1 : ck_lk E 108 (1 + 0) = 0 + (1 * σ 3 + 0) := (hP _ (List.mem_of_getElem? (i := 1) rfl)).2.2
  have q1 : (0 : Int) ≤ 1 + 0 := (hP _ (List.mem_of_getElem? (i := 1) rfl)).2.1
  have p2 : ck_lk E 108 (2 + 0) = 0 + (1 * σ 4 + 0) := (hP _ (List.mem_of_getElem? (i := 2) rfl)).2.2
  have q2 : (0 : Int) ≤ 2 + 0 := (hP _ (List.mem_of_getElem? (i := 2) rfl)).2.1
  have p3 : ck_lk E 108 (3 + 0) = 0 + (1 * σ 5 + 0) := (hP _ (List.mem_of_getElem? (i := 3) rfl)).2.2
  have q3 : (0 : Int) ≤ 3 + 0 := (hP _ (List.mem_of_getElem? (i := 3) rfl)).2.1
  have p4 : ck_lk E 108 (4 + 0) = 0 + (1 * σ 6 + 0) := (hP _ (List.mem_of_getElem? (i := 4) rfl)).2.2
  have q4 : (0 : Int) ≤ 4 + 0 := (hP _ (List.mem_of_getElem? (i := 4) rfl)).2.1
  have p5 : ck_lk E 108 (5 + 0) = 0 + (1 * σ 7 + 0) := (hP _ (List.mem_of_getElem? (i := 5) rfl)).2.2
  have q5 : (0 : Int) ≤ 5 + 0 := (hP _ (List.mem_of_getElem? (i := 5) rfl)).2.1
  have p6 : ck_lk E 65 (0 + 0) = 0 + (1 * σ 8 + 0) := (hP _ (List.mem_of_getElem? (i := 6) rfl)).2.2
  have q6 : (0 : Int) ≤ 0 + 0 := (hP _ (List.mem_of_getElem? (i := 6) rfl)).2.1
  have key : (((0 : Int) ≤ 0 + 0 ∧ ck_lk (va_up E 69 e') 108 (0 + 0) = 1 + 0) ∧ ((0 : Int) ≤ 1 + 0 ∧ ck_lk (va_up E 69 e') 108 (1 + 0) = 0 + (1 * σ 3 + 0)) ∧ ((0 : Int) ≤ 2 + 0 ∧ ck_lk (va_up E 69 e') 108 (2 + 0) = 0 + (1 * σ 4 + 0)) ∧ ((0 : Int) ≤ 3 + 0 ∧ ck_lk (va_up E 69 e') 108 (3 + 0) = 0 + (1 * σ 5 + 0)) ∧ ((0 : Int) ≤ 4 + 0 ∧ ck_lk (va_up E 69 e') 108 (4 + 0) = 0 + (1 * σ 6 + 0)) ∧ ((0 : Int) ≤ 5 + 0 ∧ ck_lk (va_up E 69 e') 108 (5 + 0) = 0 + (1 * σ 7 + 0)) ∧ True) := by
    rw [kc (i := 0) (by decide) (by decide)] at p6
    refine ⟨⟨by decide, ?_⟩, ⟨by decide, ?_⟩, ⟨by decide, ?_⟩, ⟨by decide, ?_⟩, ⟨by decide, ?_⟩, ⟨by decide, ?_⟩, trivial⟩
    · rw [k108 (c := 0) (by decide)] at p0
      rw [k108 (c := 0) (by decide), cb_t (vf_wx_put (by decide) (cb_ge p0 (by omega)) l1 l2 (by omega))]
      rfl
    · rw [k108 (c := 1) (by decide)] at p1
      rw [k108 (c := 1) (by decide), vf_wx_st hgi hgi2 (by decide) (by decide) l2 ⟨fun q => absurd q (by decide), fun q => absurd q (by decide), fun _ => by omega, fun q => absurd q (by decide), fun q => absurd q (by decide)⟩]
      exact p1
    · rw [k108 (c := 2) (by decide)] at p2
      rw [k108 (c := 2) (by decide), vf_wx_st hgi hgi2 (by decide) (by decide) l2 ⟨fun q => absurd q (by decide), fun q => absurd q (by decide), fun _ => by omega, fun q => absurd q (by decide), fun q => absurd q (by decide)⟩]
      exact p2
    · rw [k108 (c := 3) (by decide)] at p3
      rw [k108 (c := 3) (by decide), vf_wx_st hgi hgi2 (by decide) (by decide) l2 ⟨fun q => absurd q (by decide), fun q => absurd q (by decide), fun _ => by omega, fun q => absurd q (by decide), fun q => absurd q (by decide)⟩]
      exact p3
    · rw [k108 (c := 4) (by decide)] at p4
      rw [k108 (c := 4) (by decide), vf_wx_st hgi hgi2 (by decide) (by decide) l2 ⟨fun q => absurd q (by decide), fun q => absurd q (by decide), fun _ => by omega, fun q => absurd q (by decide), fun q => absurd q (by decide)⟩]
      exact p4
    · rw [k108 (c := 5) (by decide)] at p5
      rw [k108 (c := 5) (by decide), vf_wx_st hgi hgi2 (by decide) (by decide) l2 ⟨fun q => absurd q (by decide), fun q => absurd q (by decide), fun _ => by omega, fun q => absurd q (by decide), fun q => absurd q (by decide)⟩]
      exact p5
  obtain ⟨k0, k1, k2, k3, k4, k5, -⟩ := key
  exact ⟨_, (List.mem_of_getElem? (i := 0) rfl), σ, ck_ag_rf, (fun _ h => absurd h List.not_mem_nil), (fun _ h => absurd h List.not_mem_nil), trivial, (List.forall_mem_cons.mpr ⟨⟨⟨ck_wb_ok rfl, ck_wb_ok rfl⟩, k0⟩, (List.forall_mem_cons.mpr ⟨⟨⟨ck_wb_ok rfl, ck_wb_ok rfl⟩, k1⟩, (List.forall_mem_cons.mpr ⟨⟨⟨ck_wb_ok rfl, ck_wb_ok rfl⟩, k2⟩, (List.forall_mem_cons.mpr ⟨⟨⟨ck_wb_ok rfl, ck_wb_ok rfl⟩, k3⟩, (List.forall_mem_cons.mpr ⟨⟨⟨ck_wb_ok rfl, ck_wb_ok rfl⟩, k4⟩, (List.forall_mem_cons.mpr ⟨⟨⟨ck_wb_ok rfl, ck_wb_ok rfl⟩, k5⟩, (fun _ h => absurd h List.not_mem_nil)⟩)⟩)⟩)⟩)⟩)⟩), (fun _ h => absurd h List.not_mem_nil)⟩
theorem ccWG_0 {l : Launch} {D : va_G} {kp : Nat → ClassId} : ck_con l D kp ck_NN ceWG_0 := ck_con_s (k := 69) rfl rpWG_0
theorem rpWGp_0 : ck_scon ceWGp_0 69 := by
  intro σ E e' idx v hargs hgi hF hP hΦ hgi2 h0 l1 l2
  cases hargs
  have h0 : (0 : Int) ≤ 0 + (1 * σ 3 + 0) := h0
  have l1 : ck_loc e' (0 + (1 * σ 3 + 0)) = 0 + (1 * σ 2 + 0) := l1
  have l2 : ∀ j, 0 ≤ j → ¬ j = 0 + (1 * σ 3 + 0) → ck_loc e' j = ck_loc (E 69) j := l2
  have f0 : (0 : Int) ≤ 0 + (1 * σ 0 + 0) := hF _ (List.mem_of_getElem? (i := 0) rfl)
  have f1 : (0 : Int) ≤ 5 + ((-1) * σ 0 + 0) := hF _ (List.mem_of_getElem? (i := 1) rfl)
  have f2 : (0 : Int) ≤ 0 + (1 * σ 1 + 0) := hF _ (List.mem_of_getElem? (i := 2) rfl)
  have f3 : (0 : Int) ≤ 7 + ((-1) * σ 1 + 0) := hF _ (List.mem_of_getElem? (i := 3) rfl)
  have f4 : (0 : Int) ≤ 0 + ((-8) * σ 0 + ((-1) * σ 1 + (1 * σ 3 + 0))) := hF _ (List.mem_of_getElem? (i := 4) rfl)
  have f5 : (0 : Int) ≤ 0 + (8 * σ 0 + (1 * σ 1 + ((-1) * σ 3 + 0))) := hF _ (List.mem_of_getElem? (i := 5) rfl)
  have f6 : (0 : Int) ≤ (-1) + (1 * σ 4 + 0) := hF _ (List.mem_of_getElem? (i := 6) rfl)
  have f7 : (0 : Int) ≤ (-1) + ((-1) * σ 2 + (1 * σ 10 + 0)) := hF _ (List.mem_of_getElem? (i := 7) rfl)
  have f8 : (0 : Int) ≤ (-1) + (1 * σ 11 + 0) := hF _ (List.mem_of_getElem? (i := 8) rfl)
  have p0 : ck_lk E 108 (0 + 0) = 0 + (1 * σ 4 + 0) := (hP _ (List.mem_of_getElem? (i := 0) rfl)).2.2
  have q0 : (0 : Int) ≤ 0 + 0 := (hP _ (List.mem_of_getElem? (i := 0) rfl)).2.1
  have p1 : ck_lk E 108 (1 + 0) = 0 + (1 * σ 5 + 0) := (hP _ (List.mem_of_getElem? (i := 1) rfl)).2.2
  have q1 : (0 : Int) ≤ 1 + 0 := (hP _ (List.mem_of_getElem? (i := 1) rfl)).2.1
  have p2 : ck_lk E 108 (2 + 0) = 0 + (1 * σ 6 + 0) := (hP _ (List.mem_of_getElem? (i := 2) rfl)).2.2
  have q2 : (0 : Int) ≤ 2 + 0 := (hP _ (List.mem_of_getElem? (i := 2) rfl)).2.1
  have p3 : ck_lk E 108 (3 + 0) = 0 + (1 * σ 7 + 0) := (hP _ (List.mem_of_getElem? (i := 3) rfl)).2.2
  have q3 : (0 : Int) ≤ 3 + 0 := (hP _ (List.mem_of_getElem? (i := 3) rfl)).2.1
  have p4 : ck_lk E 108 (4 + 0) = 0 + (1 * σ 8 + 0) := (hP _ (List.mem_of_getElem? (i := 4) rfl)).2.2
  have q4 : (0 : Int) ≤ 4 + 0 := (hP _ (List.mem_of_getElem? (i := 4) rfl)).2.1
  have p5 : ck_lk E 108 (5 + 0) = 0 + (1 * σ 9 + 0) := (hP _ (List.mem_of_getElem? (i := 5) rfl)).2.2
  have q5 : (0 : Int) ≤ 5 + 0 := (hP _ (List.mem_of_getElem? (i := 5) rfl)).2.1
  have p6 : ck_lk E 65 (0 + 0) = 0 + (1 * σ 10 + 0) := (hP _ (List.mem_of_getElem? (i := 6) rfl)).2.2
  have q6 : (0 : Int) ≤ 0 + 0 := (hP _ (List.mem_of_getElem? (i := 6) rfl)).2.1
  have p7 : ck_lk E 109 (0 + (10 * σ 0 + (1 * σ 1 + 0))) = 0 + (1 * σ 11 + 0) := (hP _ (List.mem_of_getElem? (i := 7) rfl)).2.2
  have q7 : (0 : Int) ≤ 0 + (10 * σ 0 + (1 * σ 1 + 0)) := (hP _ (List.mem_of_getElem? (i := 7) rfl)).2.1
  have key : (((0 : Int) ≤ 0 + 0 ∧ ck_lk (va_up E 69 e') 108 (0 + 0) = 1 + 0) ∧ ((0 : Int) ≤ 1 + 0 ∧ ck_lk (va_up E 69 e') 108 (1 + 0) = 0 + (1 * σ 5 + 0)) ∧ ((0 : Int) ≤ 2 + 0 ∧ ck_lk (va_up E 69 e') 108 (2 + 0) = 0 + (1 * σ 6 + 0)) ∧ ((0 : Int) ≤ 3 + 0 ∧ ck_lk (va_up E 69 e') 108 (3 + 0) = 0 + (1 * σ 7 + 0)) ∧ ((0 : Int) ≤ 4 + 0 ∧ ck_lk (va_up E 69 e') 108 (4 + 0) = 0 + (1 * σ 8 + 0)) ∧ ((0 : Int) ≤ 5 + 0 ∧ ck_lk (va_up E 69 e') 108 (5 + 0) = 0 + (1 * σ 9 + 0)) ∧ ((0 : Int) ≤ 1 + (10 * σ 0 + (1 * σ 1 + 0)) ∧ ck_lk (va_up E 69 e') 109 (1 + (10 * σ 0 + (1 * σ 1 + 0))) = 1 + 0) ∧ True) := by
    rw [kc (i := 0) (by decide) (by decide)] at p6
    rw [k109 (c := 0) (r := σ 0) (n := σ 1) (by omega) (by omega) (by omega) (by omega) (by omega)] at p7
    have hr := cb_ge p7 (by omega)
    refine ⟨⟨by decide, ?_⟩, ⟨by decide, ?_⟩, ⟨by decide, ?_⟩, ⟨by decide, ?_⟩, ⟨by decide, ?_⟩, ⟨by decide, ?_⟩, ⟨by omega, ?_⟩, trivial⟩
    · rw [k108 (c := 0) (by decide)] at p0
      rw [k108 (c := 0) (by decide), cb_t (vf_wx_put (by decide) (cb_ge p0 (by omega)) l1 l2 (by omega))]
      rfl
    · rw [k108 (c := 1) (by decide)] at p1
      rw [k108 (c := 1) (by decide), vf_wx_st hgi hgi2 (by decide) (by decide) l2 ⟨fun q => absurd q (by decide), fun q => absurd q (by decide), fun _ => by omega, fun q => absurd q (by decide), fun q => absurd q (by decide)⟩]
      exact p1
    · rw [k108 (c := 2) (by decide)] at p2
      rw [k108 (c := 2) (by decide), vf_wx_st hgi hgi2 (by decide) (by decide) l2 ⟨fun q => absurd q (by decide), fun q => absurd q (by decide), fun _ => by omega, fun q => absurd q (by decide), fun q => absurd q (by decide)⟩]
      exact p2
    · rw [k108 (c := 3) (by decide)] at p3
      rw [k108 (c := 3) (by decide), vf_wx_st hgi hgi2 (by decide) (by decide) l2 ⟨fun q => absurd q (by decide), fun q => absurd q (by decide), fun _ => by omega, fun q => absurd q (by decide), fun q => absurd q (by decide)⟩]
      exact p3
    · rw [k108 (c := 4) (by decide)] at p4
      rw [k108 (c := 4) (by decide), vf_wx_st hgi hgi2 (by decide) (by decide) l2 ⟨fun q => absurd q (by decide), fun q => absurd q (by decide), fun _ => by omega, fun q => absurd q (by decide), fun q => absurd q (by decide)⟩]
      exact p4
    · rw [k108 (c := 5) (by decide)] at p5
      rw [k108 (c := 5) (by decide), vf_wx_st hgi hgi2 (by decide) (by decide) l2 ⟨fun q => absurd q (by decide), fun q => absurd q (by decide), fun _ => by omega, fun q => absurd q (by decide), fun q => absurd q (by decide)⟩]
      exact p5
    · rw [k109 (c := 0) (r := σ 0) (n := σ 1 + 1) (by omega) (by omega) (by omega) (by omega) (by omega)]
      refine (cb_t ?_).trans rfl
      intro i i0 i1
      rw [un (j := 65) (by decide)]
      by_cases hi : i = σ 1
      · rw [va_up_self, show 48 * 0 + 8 * σ 0 + i = 0 + (1 * σ 3 + 0) by omega, l1]; omega
      · exact vf_up69 l1 l2 (by omega) (by omega) (hr i i0 (by omega))
  obtain ⟨k0, k1, k2, k3, k4, k5, k6, -⟩ := key
  exact ⟨_, (List.mem_of_getElem? (i := 0) rfl), σ, ck_ag_rf, (fun _ h => absurd h List.not_mem_nil), (fun _ h => absurd h List.not_mem_nil), trivial, (List.forall_mem_cons.mpr ⟨⟨⟨ck_wb_ok rfl, ck_wb_ok rfl⟩, k0⟩, (List.forall_mem_cons.mpr ⟨⟨⟨ck_wb_ok rfl, ck_wb_ok rfl⟩, k1⟩, (List.forall_mem_cons.mpr ⟨⟨⟨ck_wb_ok rfl, ck_wb_ok rfl⟩, k2⟩, (List.forall_mem_cons.mpr ⟨⟨⟨ck_wb_ok rfl, ck_wb_ok rfl⟩, k3⟩, (List.forall_mem_cons.mpr ⟨⟨⟨ck_wb_ok rfl, ck_wb_ok rfl⟩, k4⟩, (List.forall_mem_cons.mpr ⟨⟨⟨ck_wb_ok rfl, ck_wb_ok rfl⟩, k5⟩, (List.forall_mem_cons.mpr ⟨⟨⟨ck_wb_ok rfl, ck_wb_ok rfl⟩, k6⟩, (fun _ h => absurd h List.not_mem_nil)⟩)⟩)⟩)⟩)⟩)⟩)⟩), (fun _ h => absurd h List.not_mem_nil)⟩
theorem ccWGp_0 {l : Launch} {D : va_G} {kp : Nat → ClassId} : ck_con l D kp ck_NN ceWGp_0 := ck_con_s (k := 69) rfl rpWGp_0
theorem rpWGq_0 : ck_scon ceWGq_0 69 := by
  intro σ E e' idx v hargs hgi hF hP hΦ hgi2 h0 l1 l2
  cases hargs
  have h0 : (0 : Int) ≤ 0 + (1 * σ 3 + 0) := h0
  have l1 : ck_loc e' (0 + (1 * σ 3 + 0)) = 0 + (1 * σ 2 + 0) := l1
  have l2 : ∀ j, 0 ≤ j → ¬ j = 0 + (1 * σ 3 + 0) → ck_loc e' j = ck_loc (E 69) j := l2
  have f0 : (0 : Int) ≤ 0 + (1 * σ 0 + 0) := hF _ (List.mem_of_getElem? (i := 0) rfl)
  have f1 : (0 : Int) ≤ 5 + ((-1) * σ 0 + 0) := hF _ (List.mem_of_getElem? (i := 1) rfl)
  have f2 : (0 : Int) ≤ 0 + (1 * σ 1 + 0) := hF _ (List.mem_of_getElem? (i := 2) rfl)
  have f3 : (0 : Int) ≤ 7 + ((-1) * σ 1 + 0) := hF _ (List.mem_of_getElem? (i := 3) rfl)
  have f4 : (0 : Int) ≤ 0 + ((-8) * σ 0 + ((-1) * σ 1 + (1 * σ 3 + 0))) := hF _ (List.mem_of_getElem? (i := 4) rfl)
  have f5 : (0 : Int) ≤ 0 + (8 * σ 0 + (1 * σ 1 + ((-1) * σ 3 + 0))) := hF _ (List.mem_of_getElem? (i := 5) rfl)
  have f6 : (0 : Int) ≤ (-1) + (1 * σ 4 + 0) := hF _ (List.mem_of_getElem? (i := 6) rfl)
  have f7 : (0 : Int) ≤ (-1) + ((-1) * σ 2 + (1 * σ 10 + 0)) := hF _ (List.mem_of_getElem? (i := 7) rfl)
  have f8 : (0 : Int) ≤ (-1) + (1 * σ 11 + 0) := hF _ (List.mem_of_getElem? (i := 8) rfl)
  have p0 : ck_lk E 108 (0 + 0) = 0 + (1 * σ 4 + 0) := (hP _ (List.mem_of_getElem? (i := 0) rfl)).2.2
  have q0 : (0 : Int) ≤ 0 + 0 := (hP _ (List.mem_of_getElem? (i := 0) rfl)).2.1
  have p1 : ck_lk E 108 (1 + 0) = 0 + (1 * σ 5 + 0) := (hP _ (List.mem_of_getElem? (i := 1) rfl)).2.2
  have q1 : (0 : Int) ≤ 1 + 0 := (hP _ (List.mem_of_getElem? (i := 1) rfl)).2.1
  have p2 : ck_lk E 108 (2 + 0) = 0 + (1 * σ 6 + 0) := (hP _ (List.mem_of_getElem? (i := 2) rfl)).2.2
  have q2 : (0 : Int) ≤ 2 + 0 := (hP _ (List.mem_of_getElem? (i := 2) rfl)).2.1
  have p3 : ck_lk E 108 (3 + 0) = 0 + (1 * σ 7 + 0) := (hP _ (List.mem_of_getElem? (i := 3) rfl)).2.2
  have q3 : (0 : Int) ≤ 3 + 0 := (hP _ (List.mem_of_getElem? (i := 3) rfl)).2.1
  have p4 : ck_lk E 108 (4 + 0) = 0 + (1 * σ 8 + 0) := (hP _ (List.mem_of_getElem? (i := 4) rfl)).2.2
  have q4 : (0 : Int) ≤ 4 + 0 := (hP _ (List.mem_of_getElem? (i := 4) rfl)).2.1
  have p5 : ck_lk E 108 (5 + 0) = 0 + (1 * σ 9 + 0) := (hP _ (List.mem_of_getElem? (i := 5) rfl)).2.2
  have q5 : (0 : Int) ≤ 5 + 0 := (hP _ (List.mem_of_getElem? (i := 5) rfl)).2.1
  have p6 : ck_lk E 65 (0 + 0) = 0 + (1 * σ 10 + 0) := (hP _ (List.mem_of_getElem? (i := 6) rfl)).2.2
  have q6 : (0 : Int) ≤ 0 + 0 := (hP _ (List.mem_of_getElem? (i := 6) rfl)).2.1
  have p7 : ck_lk E 109 (1 + (10 * σ 0 + (1 * σ 1 + 0))) = 0 + (1 * σ 11 + 0) := (hP _ (List.mem_of_getElem? (i := 7) rfl)).2.2
  have q7 : (0 : Int) ≤ 1 + (10 * σ 0 + (1 * σ 1 + 0)) := (hP _ (List.mem_of_getElem? (i := 7) rfl)).2.1
  have key : (((0 : Int) ≤ 0 + 0 ∧ ck_lk (va_up E 69 e') 108 (0 + 0) = 1 + 0) ∧ ((0 : Int) ≤ 1 + 0 ∧ ck_lk (va_up E 69 e') 108 (1 + 0) = 0 + (1 * σ 5 + 0)) ∧ ((0 : Int) ≤ 2 + 0 ∧ ck_lk (va_up E 69 e') 108 (2 + 0) = 0 + (1 * σ 6 + 0)) ∧ ((0 : Int) ≤ 3 + 0 ∧ ck_lk (va_up E 69 e') 108 (3 + 0) = 0 + (1 * σ 7 + 0)) ∧ ((0 : Int) ≤ 4 + 0 ∧ ck_lk (va_up E 69 e') 108 (4 + 0) = 0 + (1 * σ 8 + 0)) ∧ ((0 : Int) ≤ 5 + 0 ∧ ck_lk (va_up E 69 e') 108 (5 + 0) = 0 + (1 * σ 9 + 0)) ∧ ((0 : Int) ≤ 1 + (10 * σ 0 + (1 * σ 1 + 0)) ∧ ck_lk (va_up E 69 e') 109 (1 + (10 * σ 0 + (1 * σ 1 + 0))) = 1 + 0) ∧ True) := by
    rw [kc (i := 0) (by decide) (by decide)] at p6
    rw [k109 (c := 0) (r := σ 0) (n := σ 1 + 1) (by omega) (by omega) (by omega) (by omega) (by omega)] at p7
    have hr := cb_ge p7 (by omega)
    refine ⟨⟨by decide, ?_⟩, ⟨by decide, ?_⟩, ⟨by decide, ?_⟩, ⟨by decide, ?_⟩, ⟨by decide, ?_⟩, ⟨by decide, ?_⟩, ⟨by omega, ?_⟩, trivial⟩
    · rw [k108 (c := 0) (by decide)] at p0
      rw [k108 (c := 0) (by decide), cb_t (vf_wx_put (by decide) (cb_ge p0 (by omega)) l1 l2 (by omega))]
      rfl
    · rw [k108 (c := 1) (by decide)] at p1
      rw [k108 (c := 1) (by decide), vf_wx_st hgi hgi2 (by decide) (by decide) l2 ⟨fun q => absurd q (by decide), fun q => absurd q (by decide), fun _ => by omega, fun q => absurd q (by decide), fun q => absurd q (by decide)⟩]
      exact p1
    · rw [k108 (c := 2) (by decide)] at p2
      rw [k108 (c := 2) (by decide), vf_wx_st hgi hgi2 (by decide) (by decide) l2 ⟨fun q => absurd q (by decide), fun q => absurd q (by decide), fun _ => by omega, fun q => absurd q (by decide), fun q => absurd q (by decide)⟩]
      exact p2
    · rw [k108 (c := 3) (by decide)] at p3
      rw [k108 (c := 3) (by decide), vf_wx_st hgi hgi2 (by decide) (by decide) l2 ⟨fun q => absurd q (by decide), fun q => absurd q (by decide), fun _ => by omega, fun q => absurd q (by decide), fun q => absurd q (by decide)⟩]
      exact p3
    · rw [k108 (c := 4) (by decide)] at p4
      rw [k108 (c := 4) (by decide), vf_wx_st hgi hgi2 (by decide) (by decide) l2 ⟨fun q => absurd q (by decide), fun q => absurd q (by decide), fun _ => by omega, fun q => absurd q (by decide), fun q => absurd q (by decide)⟩]
      exact p4
    · rw [k108 (c := 5) (by decide)] at p5
      rw [k108 (c := 5) (by decide), vf_wx_st hgi hgi2 (by decide) (by decide) l2 ⟨fun q => absurd q (by decide), fun q => absurd q (by decide), fun _ => by omega, fun q => absurd q (by decide), fun q => absurd q (by decide)⟩]
      exact p5
    · rw [k109 (c := 0) (r := σ 0) (n := σ 1 + 1) (by omega) (by omega) (by omega) (by omega) (by omega)]
      refine (cb_t ?_).trans rfl
      intro i i0 i1
      rw [un (j := 65) (by decide)]
      exact vf_up69 l1 l2 (by omega) (by omega) (hr i i0 i1)
  obtain ⟨k0, k1, k2, k3, k4, k5, k6, -⟩ := key
  exact ⟨_, (List.mem_of_getElem? (i := 0) rfl), σ, ck_ag_rf, (fun _ h => absurd h List.not_mem_nil), (fun _ h => absurd h List.not_mem_nil), trivial, (List.forall_mem_cons.mpr ⟨⟨⟨ck_wb_ok rfl, ck_wb_ok rfl⟩, k0⟩, (List.forall_mem_cons.mpr ⟨⟨⟨ck_wb_ok rfl, ck_wb_ok rfl⟩, k1⟩, (List.forall_mem_cons.mpr ⟨⟨⟨ck_wb_ok rfl, ck_wb_ok rfl⟩, k2⟩, (List.forall_mem_cons.mpr ⟨⟨⟨ck_wb_ok rfl, ck_wb_ok rfl⟩, k3⟩, (List.forall_mem_cons.mpr ⟨⟨⟨ck_wb_ok rfl, ck_wb_ok rfl⟩, k4⟩, (List.forall_mem_cons.mpr ⟨⟨⟨ck_wb_ok rfl, ck_wb_ok rfl⟩, k5⟩, (List.forall_mem_cons.mpr ⟨⟨⟨ck_wb_ok rfl, ck_wb_ok rfl⟩, k6⟩, (fun _ h => absurd h List.not_mem_nil)⟩)⟩)⟩)⟩)⟩)⟩)⟩), (fun _ h => absurd h List.not_mem_nil)⟩
theorem ccWGq_0 {l : Launch} {D : va_G} {kp : Nat → ClassId} : ck_con l D kp ck_NN ceWGq_0 := ck_con_s (k := 69) rfl rpWGq_0
theorem rpWP_0 : ck_scon ceWP_0 67 := by
  intro σ E e' idx v hargs hgi hF hP hΦ hgi2 h0 l1 l2
  cases hargs
  have h0 : (0 : Int) ≤ 0 + (1 * σ 2 + 0) := h0
  have l1 : ck_loc e' (0 + (1 * σ 2 + 0)) = 0 + (1 * σ 1 + 0) := l1
  have l2 : ∀ j, 0 ≤ j → ¬ j = 0 + (1 * σ 2 + 0) → ck_loc e' j = ck_loc (E 67) j := l2
  have f0 : (0 : Int) ≤ 0 + (1 * σ 0 + 0) := hF _ (List.mem_of_getElem? (i := 0) rfl)
  have f1 : (0 : Int) ≤ 5 + ((-1) * σ 0 + 0) := hF _ (List.mem_of_getElem? (i := 1) rfl)
  have f2 : (0 : Int) ≤ 0 + (1 * σ 1 + 0) := hF _ (List.mem_of_getElem? (i := 2) rfl)
  have f3 : (0 : Int) ≤ 8 + ((-1) * σ 1 + 0) := hF _ (List.mem_of_getElem? (i := 3) rfl)
  have f4 : (0 : Int) ≤ 0 + ((-1) * σ 0 + (1 * σ 2 + 0)) := hF _ (List.mem_of_getElem? (i := 4) rfl)
  have f5 : (0 : Int) ≤ 0 + (1 * σ 0 + ((-1) * σ 2 + 0)) := hF _ (List.mem_of_getElem? (i := 5) rfl)
  have f6 : (0 : Int) ≤ (-1) + (1 * σ 3 + 0) := hF _ (List.mem_of_getElem? (i := 6) rfl)
  have f7 : (0 : Int) ≤ (-1) + (1 * σ 9 + 0) := hF _ (List.mem_of_getElem? (i := 7) rfl)
  have p0 : ck_lk E 108 (0 + 0) = 0 + (1 * σ 3 + 0) := (hP _ (List.mem_of_getElem? (i := 0) rfl)).2.2
  have q0 : (0 : Int) ≤ 0 + 0 := (hP _ (List.mem_of_getElem? (i := 0) rfl)).2.1
  have p1 : ck_lk E 108 (1 + 0) = 0 + (1 * σ 4 + 0) := (hP _ (List.mem_of_getElem? (i := 1) rfl)).2.2
  have q1 : (0 : Int) ≤ 1 + 0 := (hP _ (List.mem_of_getElem? (i := 1) rfl)).2.1
  have p2 : ck_lk E 108 (2 + 0) = 0 + (1 * σ 5 + 0) := (hP _ (List.mem_of_getElem? (i := 2) rfl)).2.2
  have q2 : (0 : Int) ≤ 2 + 0 := (hP _ (List.mem_of_getElem? (i := 2) rfl)).2.1
  have p3 : ck_lk E 108 (3 + 0) = 0 + (1 * σ 6 + 0) := (hP _ (List.mem_of_getElem? (i := 3) rfl)).2.2
  have q3 : (0 : Int) ≤ 3 + 0 := (hP _ (List.mem_of_getElem? (i := 3) rfl)).2.1
  have p4 : ck_lk E 108 (4 + 0) = 0 + (1 * σ 7 + 0) := (hP _ (List.mem_of_getElem? (i := 4) rfl)).2.2
  have q4 : (0 : Int) ≤ 4 + 0 := (hP _ (List.mem_of_getElem? (i := 4) rfl)).2.1
  have p5 : ck_lk E 108 (5 + 0) = 0 + (1 * σ 8 + 0) := (hP _ (List.mem_of_getElem? (i := 5) rfl)).2.2
  have q5 : (0 : Int) ≤ 5 + 0 := (hP _ (List.mem_of_getElem? (i := 5) rfl)).2.1
  have p6 : ck_lk E 109 (0 + (10 * σ 0 + (1 * σ 1 + 0))) = 0 + (1 * σ 9 + 0) := (hP _ (List.mem_of_getElem? (i := 6) rfl)).2.2
  have q6 : (0 : Int) ≤ 0 + (10 * σ 0 + (1 * σ 1 + 0)) := (hP _ (List.mem_of_getElem? (i := 6) rfl)).2.1
  have key : (((0 : Int) ≤ 0 + 0 ∧ ck_lk (va_up E 67 e') 108 (0 + 0) = 1 + 0) ∧ ((0 : Int) ≤ 1 + 0 ∧ ck_lk (va_up E 67 e') 108 (1 + 0) = 0 + (1 * σ 4 + 0)) ∧ ((0 : Int) ≤ 2 + 0 ∧ ck_lk (va_up E 67 e') 108 (2 + 0) = 0 + (1 * σ 5 + 0)) ∧ ((0 : Int) ≤ 3 + 0 ∧ ck_lk (va_up E 67 e') 108 (3 + 0) = 0 + (1 * σ 6 + 0)) ∧ ((0 : Int) ≤ 4 + 0 ∧ ck_lk (va_up E 67 e') 108 (4 + 0) = 0 + (1 * σ 7 + 0)) ∧ ((0 : Int) ≤ 5 + 0 ∧ ck_lk (va_up E 67 e') 108 (5 + 0) = 0 + (1 * σ 8 + 0)) ∧ True) := by
    rw [k109 (c := 0) (r := σ 0) (n := σ 1) (by omega) (by omega) (by omega) (by omega) (by omega)] at p6
    have hr := cb_ge p6 (by omega)
    refine ⟨⟨by decide, ?_⟩, ⟨by decide, ?_⟩, ⟨by decide, ?_⟩, ⟨by decide, ?_⟩, ⟨by decide, ?_⟩, ⟨by decide, ?_⟩, trivial⟩
    · rw [k108 (c := 0) (by decide)] at p0
      obtain ⟨ha, hl⟩ := cb_ge p0 (by omega)
      rw [k108 (c := 0) (by decide)]
      refine (cb_t ?_).trans rfl
      refine ⟨fun r i r0 r1 rx i0 i1 => ?_, ?_⟩
      · rw [un (j := 65) (by decide)] at r1 ⊢
        rw [un (j := 69) (by decide)]
        rw [va_up_self] at i1
        by_cases hi : r = σ 0
        · rw [show 6 * 0 + r = 0 + (1 * σ 2 + 0) by omega, l1] at i1
          have := hr i i0 (by omega)
          rw [hi]; exact this
        · rw [l2 (6 * 0 + r) (by omega) (by omega)] at i1
          exact ha r i r0 r1 rx i0 i1
      · rw [un (j := 70) (by decide), un (j := 72) (by decide), un (j := 65) (by decide)]; exact hl
    · rw [k108 (c := 1) (by decide)] at p1
      rw [k108 (c := 1) (by decide), vf_wx_st hgi hgi2 (by decide) (by decide) l2 ⟨fun q => absurd q (by decide), fun _ => by omega, fun q => absurd q (by decide), fun q => absurd q (by decide), fun q => absurd q (by decide)⟩]
      exact p1
    · rw [k108 (c := 2) (by decide)] at p2
      rw [k108 (c := 2) (by decide), vf_wx_st hgi hgi2 (by decide) (by decide) l2 ⟨fun q => absurd q (by decide), fun _ => by omega, fun q => absurd q (by decide), fun q => absurd q (by decide), fun q => absurd q (by decide)⟩]
      exact p2
    · rw [k108 (c := 3) (by decide)] at p3
      rw [k108 (c := 3) (by decide), vf_wx_st hgi hgi2 (by decide) (by decide) l2 ⟨fun q => absurd q (by decide), fun _ => by omega, fun q => absurd q (by decide), fun q => absurd q (by decide), fun q => absurd q (by decide)⟩]
      exact p3
    · rw [k108 (c := 4) (by decide)] at p4
      rw [k108 (c := 4) (by decide), vf_wx_st hgi hgi2 (by decide) (by decide) l2 ⟨fun q => absurd q (by decide), fun _ => by omega, fun q => absurd q (by decide), fun q => absurd q (by decide), fun q => absurd q (by decide)⟩]
      exact p4
    · rw [k108 (c := 5) (by decide)] at p5
      rw [k108 (c := 5) (by decide), vf_wx_st hgi hgi2 (by decide) (by decide) l2 ⟨fun q => absurd q (by decide), fun _ => by omega, fun q => absurd q (by decide), fun q => absurd q (by decide), fun q => absurd q (by decide)⟩]
      exact p5
  obtain ⟨k0, k1, k2, k3, k4, k5, -⟩ := key
  exact ⟨_, (List.mem_of_getElem? (i := 0) rfl), σ, ck_ag_rf, (fun _ h => absurd h List.not_mem_nil), (fun _ h => absurd h List.not_mem_nil), trivial, (List.forall_mem_cons.mpr ⟨⟨⟨ck_wb_ok rfl, ck_wb_ok rfl⟩, k0⟩, (List.forall_mem_cons.mpr ⟨⟨⟨ck_wb_ok rfl, ck_wb_ok rfl⟩, k1⟩, (List.forall_mem_cons.mpr ⟨⟨⟨ck_wb_ok rfl, ck_wb_ok rfl⟩, k2⟩, (List.forall_mem_cons.mpr ⟨⟨⟨ck_wb_ok rfl, ck_wb_ok rfl⟩, k3⟩, (List.forall_mem_cons.mpr ⟨⟨⟨ck_wb_ok rfl, ck_wb_ok rfl⟩, k4⟩, (List.forall_mem_cons.mpr ⟨⟨⟨ck_wb_ok rfl, ck_wb_ok rfl⟩, k5⟩, (fun _ h => absurd h List.not_mem_nil)⟩)⟩)⟩)⟩)⟩)⟩), (fun _ h => absurd h List.not_mem_nil)⟩
theorem ccWP_0 {l : Launch} {D : va_G} {kp : Nat → ClassId} : ck_con l D kp ck_NN ceWP_0 := ck_con_s (k := 67) rfl rpWP_0
theorem rpPX_0 : ck_gcon cePX_0 := by
  intro σ E hgi hF hP hΦ
  have f0 : (0 : Int) ≤ 0 + (1 * σ 0 + 0) := hF _ (List.mem_of_getElem? (i := 0) rfl)
  have f1 : (0 : Int) ≤ 5 + ((-1) * σ 0 + 0) := hF _ (List.mem_of_getElem? (i := 1) rfl)
  have key : (((0 : Int) ≤ 0 + (10 * σ 0 + 0) ∧ ck_lk E 109 (0 + (10 * σ 0 + 0)) = 1 + 0) ∧ True) := by
    refine ⟨⟨by omega, ?_⟩, trivial⟩
    rw [k109 (c := 0) (r := σ 0) (n := 0) (by omega) (by omega) (by omega) (by omega) (by omega)]
    refine (cb_t ?_).trans rfl
    intro i i0 i1
    omega
  obtain ⟨k0, -⟩ := key
  exact ⟨_, (List.mem_of_getElem? (i := 0) rfl), σ, ck_ag_rf, (fun _ h => absurd h List.not_mem_nil), (fun _ h => absurd h List.not_mem_nil), trivial, (List.forall_mem_cons.mpr ⟨⟨⟨ck_wb_ok rfl, ck_wb_ok rfl⟩, k0⟩, (fun _ h => absurd h List.not_mem_nil)⟩), (fun _ h => absurd h List.not_mem_nil)⟩
theorem ccPX_0 {l : Launch} {D : va_G} {kp : Nat → ClassId} : ck_con l D kp ck_NN cePX_0 := ck_con_g rfl rpPX_0
theorem rpWG_4 : ck_scon ceWG_4 69 := by
  intro σ E e' idx v hargs hgi hF hP hΦ hgi2 h0 l1 l2
  cases hargs
  have h0 : (0 : Int) ≤ 0 + (1 * σ 0 + 0) := h0
  have l1 : ck_loc e' (0 + (1 * σ 0 + 0)) = 0 + (1 * σ 1 + 0) := l1
  have l2 : ∀ j, 0 ≤ j → ¬ j = 0 + (1 * σ 0 + 0) → ck_loc e' j = ck_loc (E 69) j := l2
  have f0 : (0 : Int) ≤ (-192) + (1 * σ 0 + 0) := hF _ (List.mem_of_getElem? (i := 0) rfl)
  have f1 : (0 : Int) ≤ 239 + ((-1) * σ 0 + 0) := hF _ (List.mem_of_getElem? (i := 1) rfl)
  have f2 : (0 : Int) ≤ (-1) + (1 * σ 6 + 0) := hF _ (List.mem_of_getElem? (i := 2) rfl)
  have f3 : (0 : Int) ≤ (-1) + ((-1) * σ 1 + (1 * σ 8 + 0)) := hF _ (List.mem_of_getElem? (i := 3) rfl)
  have p0 : ck_lk E 108 (0 + 0) = 0 + (1 * σ 2 + 0) := (hP _ (List.mem_of_getElem? (i := 0) rfl)).2.2
  have q0 : (0 : Int) ≤ 0 + 0 := (hP _ (List.mem_of_getElem? (i := 0) rfl)).2.1
  have p1 : ck_lk E 108 (1 + 0) = 0 + (1 * σ 3 + 0) := (hP _ (List.mem_of_getElem? (i := 1) rfl)).2.2
  have q1 : (0 : Int) ≤ 1 + 0 := (hP _ (List.mem_of_getElem? (i := 1) rfl)).2.1
  have p2 : ck_lk E 108 (2 + 0) = 0 + (1 * σ 4 + 0) := (hP _ (List.mem_of_getElem? (i := 2) rfl)).2.2
  have q2 : (0 : Int) ≤ 2 + 0 := (hP _ (List.mem_of_getElem? (i := 2) rfl)).2.1
  have p3 : ck_lk E 108 (3 + 0) = 0 + (1 * σ 5 + 0) := (hP _ (List.mem_of_getElem? (i := 3) rfl)).2.2
  have q3 : (0 : Int) ≤ 3 + 0 := (hP _ (List.mem_of_getElem? (i := 3) rfl)).2.1
  have p4 : ck_lk E 108 (4 + 0) = 0 + (1 * σ 6 + 0) := (hP _ (List.mem_of_getElem? (i := 4) rfl)).2.2
  have q4 : (0 : Int) ≤ 4 + 0 := (hP _ (List.mem_of_getElem? (i := 4) rfl)).2.1
  have p5 : ck_lk E 108 (5 + 0) = 0 + (1 * σ 7 + 0) := (hP _ (List.mem_of_getElem? (i := 5) rfl)).2.2
  have q5 : (0 : Int) ≤ 5 + 0 := (hP _ (List.mem_of_getElem? (i := 5) rfl)).2.1
  have p6 : ck_lk E 65 (4 + 0) = 0 + (1 * σ 8 + 0) := (hP _ (List.mem_of_getElem? (i := 6) rfl)).2.2
  have q6 : (0 : Int) ≤ 4 + 0 := (hP _ (List.mem_of_getElem? (i := 6) rfl)).2.1
  have key : (((0 : Int) ≤ 0 + 0 ∧ ck_lk (va_up E 69 e') 108 (0 + 0) = 0 + (1 * σ 2 + 0)) ∧ ((0 : Int) ≤ 1 + 0 ∧ ck_lk (va_up E 69 e') 108 (1 + 0) = 0 + (1 * σ 3 + 0)) ∧ ((0 : Int) ≤ 2 + 0 ∧ ck_lk (va_up E 69 e') 108 (2 + 0) = 0 + (1 * σ 4 + 0)) ∧ ((0 : Int) ≤ 3 + 0 ∧ ck_lk (va_up E 69 e') 108 (3 + 0) = 0 + (1 * σ 5 + 0)) ∧ ((0 : Int) ≤ 4 + 0 ∧ ck_lk (va_up E 69 e') 108 (4 + 0) = 1 + 0) ∧ ((0 : Int) ≤ 5 + 0 ∧ ck_lk (va_up E 69 e') 108 (5 + 0) = 0 + (1 * σ 7 + 0)) ∧ True) := by
    rw [kc (i := 4) (by decide) (by decide)] at p6
    refine ⟨⟨by decide, ?_⟩, ⟨by decide, ?_⟩, ⟨by decide, ?_⟩, ⟨by decide, ?_⟩, ⟨by decide, ?_⟩, ⟨by decide, ?_⟩, trivial⟩
    · rw [k108 (c := 0) (by decide)] at p0
      rw [k108 (c := 0) (by decide), vf_wx_st hgi hgi2 (by decide) (by decide) l2 ⟨fun q => absurd q (by decide), fun q => absurd q (by decide), fun _ => by omega, fun q => absurd q (by decide), fun q => absurd q (by decide)⟩]
      exact p0
    · rw [k108 (c := 1) (by decide)] at p1
      rw [k108 (c := 1) (by decide), vf_wx_st hgi hgi2 (by decide) (by decide) l2 ⟨fun q => absurd q (by decide), fun q => absurd q (by decide), fun _ => by omega, fun q => absurd q (by decide), fun q => absurd q (by decide)⟩]
      exact p1
    · rw [k108 (c := 2) (by decide)] at p2
      rw [k108 (c := 2) (by decide), vf_wx_st hgi hgi2 (by decide) (by decide) l2 ⟨fun q => absurd q (by decide), fun q => absurd q (by decide), fun _ => by omega, fun q => absurd q (by decide), fun q => absurd q (by decide)⟩]
      exact p2
    · rw [k108 (c := 3) (by decide)] at p3
      rw [k108 (c := 3) (by decide), vf_wx_st hgi hgi2 (by decide) (by decide) l2 ⟨fun q => absurd q (by decide), fun q => absurd q (by decide), fun _ => by omega, fun q => absurd q (by decide), fun q => absurd q (by decide)⟩]
      exact p3
    · rw [k108 (c := 4) (by decide)] at p4
      rw [k108 (c := 4) (by decide), cb_t (vf_wx_put (by decide) (cb_ge p4 (by omega)) l1 l2 (by omega))]
      rfl
    · rw [k108 (c := 5) (by decide)] at p5
      rw [k108 (c := 5) (by decide), vf_wx_st hgi hgi2 (by decide) (by decide) l2 ⟨fun q => absurd q (by decide), fun q => absurd q (by decide), fun _ => by omega, fun q => absurd q (by decide), fun q => absurd q (by decide)⟩]
      exact p5
  obtain ⟨k0, k1, k2, k3, k4, k5, -⟩ := key
  exact ⟨_, (List.mem_of_getElem? (i := 0) rfl), σ, ck_ag_rf, (fun _ h => absurd h List.not_mem_nil), (fun _ h => absurd h List.not_mem_nil), trivial, (List.forall_mem_cons.mpr ⟨⟨⟨ck_wb_ok rfl, ck_wb_ok rfl⟩, k0⟩, (List.forall_mem_cons.mpr ⟨⟨⟨ck_wb_ok rfl, ck_wb_ok rfl⟩, k1⟩, (List.forall_mem_cons.mpr ⟨⟨⟨ck_wb_ok rfl, ck_wb_ok rfl⟩, k2⟩, (List.forall_mem_cons.mpr ⟨⟨⟨ck_wb_ok rfl, ck_wb_ok rfl⟩, k3⟩, (List.forall_mem_cons.mpr ⟨⟨⟨ck_wb_ok rfl, ck_wb_ok rfl⟩, k4⟩, (List.forall_mem_cons.mpr ⟨⟨⟨ck_wb_ok rfl, ck_wb_ok rfl⟩, k5⟩, (fun _ h => absurd h List.not_mem_nil)⟩)⟩)⟩)⟩)⟩)⟩), (fun _ h => absurd h List.not_mem_nil)⟩
theorem ccWG_4 {l : Launch} {D : va_G} {kp : Nat → ClassId} : ck_con l D kp ck_NN ceWG_4 := ck_con_s (k := 69) rfl rpWG_4
theorem rpWGp_4 : ck_scon ceWGp_4 69 := by
  intro σ E e' idx v hargs hgi hF hP hΦ hgi2 h0 l1 l2
  cases hargs
  have h0 : (0 : Int) ≤ 0 + (1 * σ 3 + 0) := h0
  have l1 : ck_loc e' (0 + (1 * σ 3 + 0)) = 0 + (1 * σ 2 + 0) := l1
  have l2 : ∀ j, 0 ≤ j → ¬ j = 0 + (1 * σ 3 + 0) → ck_loc e' j = ck_loc (E 69) j := l2
  have f0 : (0 : Int) ≤ 0 + (1 * σ 0 + 0) := hF _ (List.mem_of_getElem? (i := 0) rfl)
  have f1 : (0 : Int) ≤ 5 + ((-1) * σ 0 + 0) := hF _ (List.mem_of_getElem? (i := 1) rfl)
  have f2 : (0 : Int) ≤ 0 + (1 * σ 1 + 0) := hF _ (List.mem_of_getElem? (i := 2) rfl)
  have f3 : (0 : Int) ≤ 7 + ((-1) * σ 1 + 0) := hF _ (List.mem_of_getElem? (i := 3) rfl)
  have f4 : (0 : Int) ≤ (-192) + ((-8) * σ 0 + ((-1) * σ 1 + (1 * σ 3 + 0))) := hF _ (List.mem_of_getElem? (i := 4) rfl)
  have f5 : (0 : Int) ≤ 192 + (8 * σ 0 + (1 * σ 1 + ((-1) * σ 3 + 0))) := hF _ (List.mem_of_getElem? (i := 5) rfl)
  have f6 : (0 : Int) ≤ (-1) + (1 * σ 8 + 0) := hF _ (List.mem_of_getElem? (i := 6) rfl)
  have f7 : (0 : Int) ≤ (-1) + ((-1) * σ 2 + (1 * σ 10 + 0)) := hF _ (List.mem_of_getElem? (i := 7) rfl)
  have f8 : (0 : Int) ≤ (-1) + (1 * σ 11 + 0) := hF _ (List.mem_of_getElem? (i := 8) rfl)
  have p0 : ck_lk E 108 (0 + 0) = 0 + (1 * σ 4 + 0) := (hP _ (List.mem_of_getElem? (i := 0) rfl)).2.2
  have q0 : (0 : Int) ≤ 0 + 0 := (hP _ (List.mem_of_getElem? (i := 0) rfl)).2.1
  have p1 : ck_lk E 108 (1 + 0) = 0 + (1 * σ 5 + 0) := (hP _ (List.mem_of_getElem? (i := 1) rfl)).2.2
  have q1 : (0 : Int) ≤ 1 + 0 := (hP _ (List.mem_of_getElem? (i := 1) rfl)).2.1
  have p2 : ck_lk E 108 (2 + 0) = 0 + (1 * σ 6 + 0) := (hP _ (List.mem_of_getElem? (i := 2) rfl)).2.2
  have q2 : (0 : Int) ≤ 2 + 0 := (hP _ (List.mem_of_getElem? (i := 2) rfl)).2.1
  have p3 : ck_lk E 108 (3 + 0) = 0 + (1 * σ 7 + 0) := (hP _ (List.mem_of_getElem? (i := 3) rfl)).2.2
  have q3 : (0 : Int) ≤ 3 + 0 := (hP _ (List.mem_of_getElem? (i := 3) rfl)).2.1
  have p4 : ck_lk E 108 (4 + 0) = 0 + (1 * σ 8 + 0) := (hP _ (List.mem_of_getElem? (i := 4) rfl)).2.2
  have q4 : (0 : Int) ≤ 4 + 0 := (hP _ (List.mem_of_getElem? (i := 4) rfl)).2.1
  have p5 : ck_lk E 108 (5 + 0) = 0 + (1 * σ 9 + 0) := (hP _ (List.mem_of_getElem? (i := 5) rfl)).2.2
  have q5 : (0 : Int) ≤ 5 + 0 := (hP _ (List.mem_of_getElem? (i := 5) rfl)).2.1
  have p6 : ck_lk E 65 (4 + 0) = 0 + (1 * σ 10 + 0) := (hP _ (List.mem_of_getElem? (i := 6) rfl)).2.2
  have q6 : (0 : Int) ≤ 4 + 0 := (hP _ (List.mem_of_getElem? (i := 6) rfl)).2.1
  have p7 : ck_lk E 109 (4000 + (10 * σ 0 + (1 * σ 1 + 0))) = 0 + (1 * σ 11 + 0) := (hP _ (List.mem_of_getElem? (i := 7) rfl)).2.2
  have q7 : (0 : Int) ≤ 4000 + (10 * σ 0 + (1 * σ 1 + 0)) := (hP _ (List.mem_of_getElem? (i := 7) rfl)).2.1
  have key : (((0 : Int) ≤ 0 + 0 ∧ ck_lk (va_up E 69 e') 108 (0 + 0) = 0 + (1 * σ 4 + 0)) ∧ ((0 : Int) ≤ 1 + 0 ∧ ck_lk (va_up E 69 e') 108 (1 + 0) = 0 + (1 * σ 5 + 0)) ∧ ((0 : Int) ≤ 2 + 0 ∧ ck_lk (va_up E 69 e') 108 (2 + 0) = 0 + (1 * σ 6 + 0)) ∧ ((0 : Int) ≤ 3 + 0 ∧ ck_lk (va_up E 69 e') 108 (3 + 0) = 0 + (1 * σ 7 + 0)) ∧ ((0 : Int) ≤ 4 + 0 ∧ ck_lk (va_up E 69 e') 108 (4 + 0) = 1 + 0) ∧ ((0 : Int) ≤ 5 + 0 ∧ ck_lk (va_up E 69 e') 108 (5 + 0) = 0 + (1 * σ 9 + 0)) ∧ ((0 : Int) ≤ 4001 + (10 * σ 0 + (1 * σ 1 + 0)) ∧ ck_lk (va_up E 69 e') 109 (4001 + (10 * σ 0 + (1 * σ 1 + 0))) = 1 + 0) ∧ True) := by
    rw [kc (i := 4) (by decide) (by decide)] at p6
    rw [k109 (c := 4) (r := σ 0) (n := σ 1) (by omega) (by omega) (by omega) (by omega) (by omega)] at p7
    have hr := cb_ge p7 (by omega)
    refine ⟨⟨by decide, ?_⟩, ⟨by decide, ?_⟩, ⟨by decide, ?_⟩, ⟨by decide, ?_⟩, ⟨by decide, ?_⟩, ⟨by decide, ?_⟩, ⟨by omega, ?_⟩, trivial⟩
    · rw [k108 (c := 0) (by decide)] at p0
      rw [k108 (c := 0) (by decide), vf_wx_st hgi hgi2 (by decide) (by decide) l2 ⟨fun q => absurd q (by decide), fun q => absurd q (by decide), fun _ => by omega, fun q => absurd q (by decide), fun q => absurd q (by decide)⟩]
      exact p0
    · rw [k108 (c := 1) (by decide)] at p1
      rw [k108 (c := 1) (by decide), vf_wx_st hgi hgi2 (by decide) (by decide) l2 ⟨fun q => absurd q (by decide), fun q => absurd q (by decide), fun _ => by omega, fun q => absurd q (by decide), fun q => absurd q (by decide)⟩]
      exact p1
    · rw [k108 (c := 2) (by decide)] at p2
      rw [k108 (c := 2) (by decide), vf_wx_st hgi hgi2 (by decide) (by decide) l2 ⟨fun q => absurd q (by decide), fun q => absurd q (by decide), fun _ => by omega, fun q => absurd q (by decide), fun q => absurd q (by decide)⟩]
      exact p2
    · rw [k108 (c := 3) (by decide)] at p3
      rw [k108 (c := 3) (by decide), vf_wx_st hgi hgi2 (by decide) (by decide) l2 ⟨fun q => absurd q (by decide), fun q => absurd q (by decide), fun _ => by omega, fun q => absurd q (by decide), fun q => absurd q (by decide)⟩]
      exact p3
    · rw [k108 (c := 4) (by decide)] at p4
      rw [k108 (c := 4) (by decide), cb_t (vf_wx_put (by decide) (cb_ge p4 (by omega)) l1 l2 (by omega))]
      rfl
    · rw [k108 (c := 5) (by decide)] at p5
      rw [k108 (c := 5) (by decide), vf_wx_st hgi hgi2 (by decide) (by decide) l2 ⟨fun q => absurd q (by decide), fun q => absurd q (by decide), fun _ => by omega, fun q => absurd q (by decide), fun q => absurd q (by decide)⟩]
      exact p5
    · rw [k109 (c := 4) (r := σ 0) (n := σ 1 + 1) (by omega) (by omega) (by omega) (by omega) (by omega)]
      refine (cb_t ?_).trans rfl
      intro i i0 i1
      rw [un (j := 65) (by decide)]
      by_cases hi : i = σ 1
      · rw [va_up_self, show 48 * 4 + 8 * σ 0 + i = 0 + (1 * σ 3 + 0) by omega, l1]; omega
      · exact vf_up69 l1 l2 (by omega) (by omega) (hr i i0 (by omega))
  obtain ⟨k0, k1, k2, k3, k4, k5, k6, -⟩ := key
  exact ⟨_, (List.mem_of_getElem? (i := 0) rfl), σ, ck_ag_rf, (fun _ h => absurd h List.not_mem_nil), (fun _ h => absurd h List.not_mem_nil), trivial, (List.forall_mem_cons.mpr ⟨⟨⟨ck_wb_ok rfl, ck_wb_ok rfl⟩, k0⟩, (List.forall_mem_cons.mpr ⟨⟨⟨ck_wb_ok rfl, ck_wb_ok rfl⟩, k1⟩, (List.forall_mem_cons.mpr ⟨⟨⟨ck_wb_ok rfl, ck_wb_ok rfl⟩, k2⟩, (List.forall_mem_cons.mpr ⟨⟨⟨ck_wb_ok rfl, ck_wb_ok rfl⟩, k3⟩, (List.forall_mem_cons.mpr ⟨⟨⟨ck_wb_ok rfl, ck_wb_ok rfl⟩, k4⟩, (List.forall_mem_cons.mpr ⟨⟨⟨ck_wb_ok rfl, ck_wb_ok rfl⟩, k5⟩, (List.forall_mem_cons.mpr ⟨⟨⟨ck_wb_ok rfl, ck_wb_ok rfl⟩, k6⟩, (fun _ h => absurd h List.not_mem_nil)⟩)⟩)⟩)⟩)⟩)⟩)⟩), (fun _ h => absurd h List.not_mem_nil)⟩
theorem ccWGp_4 {l : Launch} {D : va_G} {kp : Nat → ClassId} : ck_con l D kp ck_NN ceWGp_4 := ck_con_s (k := 69) rfl rpWGp_4
theorem rpWGq_4 : ck_scon ceWGq_4 69 := by
  intro σ E e' idx v hargs hgi hF hP hΦ hgi2 h0 l1 l2
  cases hargs
  have h0 : (0 : Int) ≤ 0 + (1 * σ 3 + 0) := h0
  have l1 : ck_loc e' (0 + (1 * σ 3 + 0)) = 0 + (1 * σ 2 + 0) := l1
  have l2 : ∀ j, 0 ≤ j → ¬ j = 0 + (1 * σ 3 + 0) → ck_loc e' j = ck_loc (E 69) j := l2
  have f0 : (0 : Int) ≤ 0 + (1 * σ 0 + 0) := hF _ (List.mem_of_getElem? (i := 0) rfl)
  have f1 : (0 : Int) ≤ 5 + ((-1) * σ 0 + 0) := hF _ (List.mem_of_getElem? (i := 1) rfl)
  have f2 : (0 : Int) ≤ 0 + (1 * σ 1 + 0) := hF _ (List.mem_of_getElem? (i := 2) rfl)
  have f3 : (0 : Int) ≤ 7 + ((-1) * σ 1 + 0) := hF _ (List.mem_of_getElem? (i := 3) rfl)
  have f4 : (0 : Int) ≤ (-192) + ((-8) * σ 0 + ((-1) * σ 1 + (1 * σ 3 + 0))) := hF _ (List.mem_of_getElem? (i := 4) rfl)
  have f5 : (0 : Int) ≤ 192 + (8 * σ 0 + (1 * σ 1 + ((-1) * σ 3 + 0))) := hF _ (List.mem_of_getElem? (i := 5) rfl)
  have f6 : (0 : Int) ≤ (-1) + (1 * σ 8 + 0) := hF _ (List.mem_of_getElem? (i := 6) rfl)
  have f7 : (0 : Int) ≤ (-1) + ((-1) * σ 2 + (1 * σ 10 + 0)) := hF _ (List.mem_of_getElem? (i := 7) rfl)
  have f8 : (0 : Int) ≤ (-1) + (1 * σ 11 + 0) := hF _ (List.mem_of_getElem? (i := 8) rfl)
  have p0 : ck_lk E 108 (0 + 0) = 0 + (1 * σ 4 + 0) := (hP _ (List.mem_of_getElem? (i := 0) rfl)).2.2
  have q0 : (0 : Int) ≤ 0 + 0 := (hP _ (List.mem_of_getElem? (i := 0) rfl)).2.1
  have p1 : ck_lk E 108 (1 + 0) = 0 + (1 * σ 5 + 0) := (hP _ (List.mem_of_getElem? (i := 1) rfl)).2.2
  have q1 : (0 : Int) ≤ 1 + 0 := (hP _ (List.mem_of_getElem? (i := 1) rfl)).2.1
  have p2 : ck_lk E 108 (2 + 0) = 0 + (1 * σ 6 + 0) := (hP _ (List.mem_of_getElem? (i := 2) rfl)).2.2
  have q2 : (0 : Int) ≤ 2 + 0 := (hP _ (List.mem_of_getElem? (i := 2) rfl)).2.1
  have p3 : ck_lk E 108 (3 + 0) = 0 + (1 * σ 7 + 0) := (hP _ (List.mem_of_getElem? (i := 3) rfl)).2.2
  have q3 : (0 : Int) ≤ 3 + 0 := (hP _ (List.mem_of_getElem? (i := 3) rfl)).2.1
  have p4 : ck_lk E 108 (4 + 0) = 0 + (1 * σ 8 + 0) := (hP _ (List.mem_of_getElem? (i := 4) rfl)).2.2
  have q4 : (0 : Int) ≤ 4 + 0 := (hP _ (List.mem_of_getElem? (i := 4) rfl)).2.1
  have p5 : ck_lk E 108 (5 + 0) = 0 + (1 * σ 9 + 0) := (hP _ (List.mem_of_getElem? (i := 5) rfl)).2.2
  have q5 : (0 : Int) ≤ 5 + 0 := (hP _ (List.mem_of_getElem? (i := 5) rfl)).2.1
  have p6 : ck_lk E 65 (4 + 0) = 0 + (1 * σ 10 + 0) := (hP _ (List.mem_of_getElem? (i := 6) rfl)).2.2
  have q6 : (0 : Int) ≤ 4 + 0 := (hP _ (List.mem_of_getElem? (i := 6) rfl)).2.1
  have p7 : ck_lk E 109 (4001 + (10 * σ 0 + (1 * σ 1 + 0))) = 0 + (1 * σ 11 + 0) := (hP _ (List.mem_of_getElem? (i := 7) rfl)).2.2
  have q7 : (0 : Int) ≤ 4001 + (10 * σ 0 + (1 * σ 1 + 0)) := (hP _ (List.mem_of_getElem? (i := 7) rfl)).2.1
  have key : (((0 : Int) ≤ 0 + 0 ∧ ck_lk (va_up E 69 e') 108 (0 + 0) = 0 + (1 * σ 4 + 0)) ∧ ((0 : Int) ≤ 1 + 0 ∧ ck_lk (va_up E 69 e') 108 (1 + 0) = 0 + (1 * σ 5 + 0)) ∧ ((0 : Int) ≤ 2 + 0 ∧ ck_lk (va_up E 69 e') 108 (2 + 0) = 0 + (1 * σ 6 + 0)) ∧ ((0 : Int) ≤ 3 + 0 ∧ ck_lk (va_up E 69 e') 108 (3 + 0) = 0 + (1 * σ 7 + 0)) ∧ ((0 : Int) ≤ 4 + 0 ∧ ck_lk (va_up E 69 e') 108 (4 + 0) = 1 + 0) ∧ ((0 : Int) ≤ 5 + 0 ∧ ck_lk (va_up E 69 e') 108 (5 + 0) = 0 + (1 * σ 9 + 0)) ∧ ((0 : Int) ≤ 4001 + (10 * σ 0 + (1 * σ 1 + 0)) ∧ ck_lk (va_up E 69 e') 109 (4001 + (10 * σ 0 + (1 * σ 1 + 0))) = 1 + 0) ∧ True) := by
    rw [kc (i := 4) (by decide) (by decide)] at p6
    rw [k109 (c := 4) (r := σ 0) (n := σ 1 + 1) (by omega) (by omega) (by omega) (by omega) (by omega)] at p7
    have hr := cb_ge p7 (by omega)
    refine ⟨⟨by decide, ?_⟩, ⟨by decide, ?_⟩, ⟨by decide, ?_⟩, ⟨by decide, ?_⟩, ⟨by decide, ?_⟩, ⟨by decide, ?_⟩, ⟨by omega, ?_⟩, trivial⟩
    · rw [k108 (c := 0) (by decide)] at p0
      rw [k108 (c := 0) (by decide), vf_wx_st hgi hgi2 (by decide) (by decide) l2 ⟨fun q => absurd q (by decide), fun q => absurd q (by decide), fun _ => by omega, fun q => absurd q (by decide), fun q => absurd q (by decide)⟩]
      exact p0
    · rw [k108 (c := 1) (by decide)] at p1
      rw [k108 (c := 1) (by decide), vf_wx_st hgi hgi2 (by decide) (by decide) l2 ⟨fun q => absurd q (by decide), fun q => absurd q (by decide), fun _ => by omega, fun q => absurd q (by decide), fun q => absurd q (by decide)⟩]
      exact p1
    · rw [k108 (c := 2) (by decide)] at p2
      rw [k108 (c := 2) (by decide), vf_wx_st hgi hgi2 (by decide) (by decide) l2 ⟨fun q => absurd q (by decide), fun q => absurd q (by decide), fun _ => by omega, fun q => absurd q (by decide), fun q => absurd q (by decide)⟩]
      exact p2
    · rw [k108 (c := 3) (by decide)] at p3
      rw [k108 (c := 3) (by decide), vf_wx_st hgi hgi2 (by decide) (by decide) l2 ⟨fun q => absurd q (by decide), fun q => absurd q (by decide), fun _ => by omega, fun q => absurd q (by decide), fun q => absurd q (by decide)⟩]
      exact p3
    · rw [k108 (c := 4) (by decide)] at p4
      rw [k108 (c := 4) (by decide), cb_t (vf_wx_put (by decide) (cb_ge p4 (by omega)) l1 l2 (by omega))]
      rfl
    · rw [k108 (c := 5) (by decide)] at p5
      rw [k108 (c := 5) (by decide), vf_wx_st hgi hgi2 (by decide) (by decide) l2 ⟨fun q => absurd q (by decide), fun q => absurd q (by decide), fun _ => by omega, fun q => absurd q (by decide), fun q => absurd q (by decide)⟩]
      exact p5
    · rw [k109 (c := 4) (r := σ 0) (n := σ 1 + 1) (by omega) (by omega) (by omega) (by omega) (by omega)]
      refine (cb_t ?_).trans rfl
      intro i i0 i1
      rw [un (j := 65) (by decide)]
      exact vf_up69 l1 l2 (by omega) (by omega) (hr i i0 i1)
  obtain ⟨k0, k1, k2, k3, k4, k5, k6, -⟩ := key
  exact ⟨_, (List.mem_of_getElem? (i := 0) rfl), σ, ck_ag_rf, (fun _ h => absurd h List.not_mem_nil), (fun _ h => absurd h List.not_mem_nil), trivial, (List.forall_mem_cons.mpr ⟨⟨⟨ck_wb_ok rfl, ck_wb_ok rfl⟩, k0⟩, (List.forall_mem_cons.mpr ⟨⟨⟨ck_wb_ok rfl, ck_wb_ok rfl⟩, k1⟩, (List.forall_mem_cons.mpr ⟨⟨⟨ck_wb_ok rfl, ck_wb_ok rfl⟩, k2⟩, (List.forall_mem_cons.mpr ⟨⟨⟨ck_wb_ok rfl, ck_wb_ok rfl⟩, k3⟩, (List.forall_mem_cons.mpr ⟨⟨⟨ck_wb_ok rfl, ck_wb_ok rfl⟩, k4⟩, (List.forall_mem_cons.mpr ⟨⟨⟨ck_wb_ok rfl, ck_wb_ok rfl⟩, k5⟩, (List.forall_mem_cons.mpr ⟨⟨⟨ck_wb_ok rfl, ck_wb_ok rfl⟩, k6⟩, (fun _ h => absurd h List.not_mem_nil)⟩)⟩)⟩)⟩)⟩)⟩)⟩), (fun _ h => absurd h List.not_mem_nil)⟩
theorem ccWGq_4 {l : Launch} {D : va_G} {kp : Nat → ClassId} : ck_con l D kp ck_NN ceWGq_4 := ck_con_s (k := 69) rfl rpWGq_4
theorem rpWP_4 : ck_scon ceWP_4 67 := by
  intro σ E e' idx v hargs hgi hF hP hΦ hgi2 h0 l1 l2
  cases hargs
  have h0 : (0 : Int) ≤ 0 + (1 * σ 2 + 0) := h0
  have l1 : ck_loc e' (0 + (1 * σ 2 + 0)) = 0 + (1 * σ 1 + 0) := l1
  have l2 : ∀ j, 0 ≤ j → ¬ j = 0 + (1 * σ 2 + 0) → ck_loc e' j = ck_loc (E 67) j := l2
  have f0 : (0 : Int) ≤ 0 + (1 * σ 0 + 0) := hF _ (List.mem_of_getElem? (i := 0) rfl)
  have f1 : (0 : Int) ≤ 5 + ((-1) * σ 0 + 0) := hF _ (List.mem_of_getElem? (i := 1) rfl)
  have f2 : (0 : Int) ≤ 0 + (1 * σ 1 + 0) := hF _ (List.mem_of_getElem? (i := 2) rfl)
  have f3 : (0 : Int) ≤ 8 + ((-1) * σ 1 + 0) := hF _ (List.mem_of_getElem? (i := 3) rfl)
  have f4 : (0 : Int) ≤ (-24) + ((-1) * σ 0 + (1 * σ 2 + 0)) := hF _ (List.mem_of_getElem? (i := 4) rfl)
  have f5 : (0 : Int) ≤ 24 + (1 * σ 0 + ((-1) * σ 2 + 0)) := hF _ (List.mem_of_getElem? (i := 5) rfl)
  have f6 : (0 : Int) ≤ (-1) + (1 * σ 7 + 0) := hF _ (List.mem_of_getElem? (i := 6) rfl)
  have f7 : (0 : Int) ≤ (-1) + (1 * σ 9 + 0) := hF _ (List.mem_of_getElem? (i := 7) rfl)
  have p0 : ck_lk E 108 (0 + 0) = 0 + (1 * σ 3 + 0) := (hP _ (List.mem_of_getElem? (i := 0) rfl)).2.2
  have q0 : (0 : Int) ≤ 0 + 0 := (hP _ (List.mem_of_getElem? (i := 0) rfl)).2.1
  have p1 : ck_lk E 108 (1 + 0) = 0 + (1 * σ 4 + 0) := (hP _ (List.mem_of_getElem? (i := 1) rfl)).2.2
  have q1 : (0 : Int) ≤ 1 + 0 := (hP _ (List.mem_of_getElem? (i := 1) rfl)).2.1
  have p2 : ck_lk E 108 (2 + 0) = 0 + (1 * σ 5 + 0) := (hP _ (List.mem_of_getElem? (i := 2) rfl)).2.2
  have q2 : (0 : Int) ≤ 2 + 0 := (hP _ (List.mem_of_getElem? (i := 2) rfl)).2.1
  have p3 : ck_lk E 108 (3 + 0) = 0 + (1 * σ 6 + 0) := (hP _ (List.mem_of_getElem? (i := 3) rfl)).2.2
  have q3 : (0 : Int) ≤ 3 + 0 := (hP _ (List.mem_of_getElem? (i := 3) rfl)).2.1
  have p4 : ck_lk E 108 (4 + 0) = 0 + (1 * σ 7 + 0) := (hP _ (List.mem_of_getElem? (i := 4) rfl)).2.2
  have q4 : (0 : Int) ≤ 4 + 0 := (hP _ (List.mem_of_getElem? (i := 4) rfl)).2.1
  have p5 : ck_lk E 108 (5 + 0) = 0 + (1 * σ 8 + 0) := (hP _ (List.mem_of_getElem? (i := 5) rfl)).2.2
  have q5 : (0 : Int) ≤ 5 + 0 := (hP _ (List.mem_of_getElem? (i := 5) rfl)).2.1
  have p6 : ck_lk E 109 (4000 + (10 * σ 0 + (1 * σ 1 + 0))) = 0 + (1 * σ 9 + 0) := (hP _ (List.mem_of_getElem? (i := 6) rfl)).2.2
  have q6 : (0 : Int) ≤ 4000 + (10 * σ 0 + (1 * σ 1 + 0)) := (hP _ (List.mem_of_getElem? (i := 6) rfl)).2.1
  have key : (((0 : Int) ≤ 0 + 0 ∧ ck_lk (va_up E 67 e') 108 (0 + 0) = 0 + (1 * σ 3 + 0)) ∧ ((0 : Int) ≤ 1 + 0 ∧ ck_lk (va_up E 67 e') 108 (1 + 0) = 0 + (1 * σ 4 + 0)) ∧ ((0 : Int) ≤ 2 + 0 ∧ ck_lk (va_up E 67 e') 108 (2 + 0) = 0 + (1 * σ 5 + 0)) ∧ ((0 : Int) ≤ 3 + 0 ∧ ck_lk (va_up E 67 e') 108 (3 + 0) = 0 + (1 * σ 6 + 0)) ∧ ((0 : Int) ≤ 4 + 0 ∧ ck_lk (va_up E 67 e') 108 (4 + 0) = 1 + 0) ∧ ((0 : Int) ≤ 5 + 0 ∧ ck_lk (va_up E 67 e') 108 (5 + 0) = 0 + (1 * σ 8 + 0)) ∧ True) := by
    rw [k109 (c := 4) (r := σ 0) (n := σ 1) (by omega) (by omega) (by omega) (by omega) (by omega)] at p6
    have hr := cb_ge p6 (by omega)
    refine ⟨⟨by decide, ?_⟩, ⟨by decide, ?_⟩, ⟨by decide, ?_⟩, ⟨by decide, ?_⟩, ⟨by decide, ?_⟩, ⟨by decide, ?_⟩, trivial⟩
    · rw [k108 (c := 0) (by decide)] at p0
      rw [k108 (c := 0) (by decide), vf_wx_st hgi hgi2 (by decide) (by decide) l2 ⟨fun q => absurd q (by decide), fun _ => by omega, fun q => absurd q (by decide), fun q => absurd q (by decide), fun q => absurd q (by decide)⟩]
      exact p0
    · rw [k108 (c := 1) (by decide)] at p1
      rw [k108 (c := 1) (by decide), vf_wx_st hgi hgi2 (by decide) (by decide) l2 ⟨fun q => absurd q (by decide), fun _ => by omega, fun q => absurd q (by decide), fun q => absurd q (by decide), fun q => absurd q (by decide)⟩]
      exact p1
    · rw [k108 (c := 2) (by decide)] at p2
      rw [k108 (c := 2) (by decide), vf_wx_st hgi hgi2 (by decide) (by decide) l2 ⟨fun q => absurd q (by decide), fun _ => by omega, fun q => absurd q (by decide), fun q => absurd q (by decide), fun q => absurd q (by decide)⟩]
      exact p2
    · rw [k108 (c := 3) (by decide)] at p3
      rw [k108 (c := 3) (by decide), vf_wx_st hgi hgi2 (by decide) (by decide) l2 ⟨fun q => absurd q (by decide), fun _ => by omega, fun q => absurd q (by decide), fun q => absurd q (by decide), fun q => absurd q (by decide)⟩]
      exact p3
    · rw [k108 (c := 4) (by decide)] at p4
      obtain ⟨ha, hl⟩ := cb_ge p4 (by omega)
      rw [k108 (c := 4) (by decide)]
      refine (cb_t ?_).trans rfl
      refine ⟨fun r i r0 r1 rx i0 i1 => ?_, ?_⟩
      · rw [un (j := 65) (by decide)] at r1 ⊢
        rw [un (j := 69) (by decide)]
        rw [va_up_self] at i1
        by_cases hi : r = σ 0
        · rw [show 6 * 4 + r = 0 + (1 * σ 2 + 0) by omega, l1] at i1
          have := hr i i0 (by omega)
          rw [hi]; exact this
        · rw [l2 (6 * 4 + r) (by omega) (by omega)] at i1
          exact ha r i r0 r1 rx i0 i1
      · rw [un (j := 70) (by decide), un (j := 72) (by decide), un (j := 65) (by decide)]; exact hl
    · rw [k108 (c := 5) (by decide)] at p5
      rw [k108 (c := 5) (by decide), vf_wx_st hgi hgi2 (by decide) (by decide) l2 ⟨fun q => absurd q (by decide), fun _ => by omega, fun q => absurd q (by decide), fun q => absurd q (by decide), fun q => absurd q (by decide)⟩]
      exact p5
  obtain ⟨k0, k1, k2, k3, k4, k5, -⟩ := key
  exact ⟨_, (List.mem_of_getElem? (i := 0) rfl), σ, ck_ag_rf, (fun _ h => absurd h List.not_mem_nil), (fun _ h => absurd h List.not_mem_nil), trivial, (List.forall_mem_cons.mpr ⟨⟨⟨ck_wb_ok rfl, ck_wb_ok rfl⟩, k0⟩, (List.forall_mem_cons.mpr ⟨⟨⟨ck_wb_ok rfl, ck_wb_ok rfl⟩, k1⟩, (List.forall_mem_cons.mpr ⟨⟨⟨ck_wb_ok rfl, ck_wb_ok rfl⟩, k2⟩, (List.forall_mem_cons.mpr ⟨⟨⟨ck_wb_ok rfl, ck_wb_ok rfl⟩, k3⟩, (List.forall_mem_cons.mpr ⟨⟨⟨ck_wb_ok rfl, ck_wb_ok rfl⟩, k4⟩, (List.forall_mem_cons.mpr ⟨⟨⟨ck_wb_ok rfl, ck_wb_ok rfl⟩, k5⟩, (fun _ h => absurd h List.not_mem_nil)⟩)⟩)⟩)⟩)⟩)⟩), (fun _ h => absurd h List.not_mem_nil)⟩
theorem ccWP_4 {l : Launch} {D : va_G} {kp : Nat → ClassId} : ck_con l D kp ck_NN ceWP_4 := ck_con_s (k := 67) rfl rpWP_4
theorem rpPX_4 : ck_gcon cePX_4 := by
  intro σ E hgi hF hP hΦ
  have f0 : (0 : Int) ≤ 0 + (1 * σ 0 + 0) := hF _ (List.mem_of_getElem? (i := 0) rfl)
  have f1 : (0 : Int) ≤ 5 + ((-1) * σ 0 + 0) := hF _ (List.mem_of_getElem? (i := 1) rfl)
  have key : (((0 : Int) ≤ 4000 + (10 * σ 0 + 0) ∧ ck_lk E 109 (4000 + (10 * σ 0 + 0)) = 1 + 0) ∧ True) := by
    refine ⟨⟨by omega, ?_⟩, trivial⟩
    rw [k109 (c := 4) (r := σ 0) (n := 0) (by omega) (by omega) (by omega) (by omega) (by omega)]
    refine (cb_t ?_).trans rfl
    intro i i0 i1
    omega
  obtain ⟨k0, -⟩ := key
  exact ⟨_, (List.mem_of_getElem? (i := 0) rfl), σ, ck_ag_rf, (fun _ h => absurd h List.not_mem_nil), (fun _ h => absurd h List.not_mem_nil), trivial, (List.forall_mem_cons.mpr ⟨⟨⟨ck_wb_ok rfl, ck_wb_ok rfl⟩, k0⟩, (fun _ h => absurd h List.not_mem_nil)⟩), (fun _ h => absurd h List.not_mem_nil)⟩
theorem ccPX_4 {l : Launch} {D : va_G} {kp : Nat → ClassId} : ck_con l D kp ck_NN cePX_4 := ck_con_g rfl rpPX_4
theorem rpWG_5 : ck_scon ceWG_5 69 := by
  intro σ E e' idx v hargs hgi hF hP hΦ hgi2 h0 l1 l2
  cases hargs
  have h0 : (0 : Int) ≤ 0 + (1 * σ 0 + 0) := h0
  have l1 : ck_loc e' (0 + (1 * σ 0 + 0)) = 0 + (1 * σ 1 + 0) := l1
  have l2 : ∀ j, 0 ≤ j → ¬ j = 0 + (1 * σ 0 + 0) → ck_loc e' j = ck_loc (E 69) j := l2
  have f0 : (0 : Int) ≤ (-240) + (1 * σ 0 + 0) := hF _ (List.mem_of_getElem? (i := 0) rfl)
  have f1 : (0 : Int) ≤ 287 + ((-1) * σ 0 + 0) := hF _ (List.mem_of_getElem? (i := 1) rfl)
  have f2 : (0 : Int) ≤ (-1) + (1 * σ 7 + 0) := hF _ (List.mem_of_getElem? (i := 2) rfl)
  have f3 : (0 : Int) ≤ (-1) + ((-1) * σ 1 + (1 * σ 8 + 0)) := hF _ (List.mem_of_getElem? (i := 3) rfl)
  have p0 : ck_lk E 108 (0 + 0) = 0 + (1 * σ 2 + 0) := (hP _ (List.mem_of_getElem? (i := 0) rfl)).2.2
  have q0 : (0 : Int) ≤ 0 + 0 := (hP _ (List.mem_of_getElem? (i := 0) rfl)).2.1
  have p1 : ck_lk E 108 (1 + 0) = 0 + (1 * σ 3 + 0) := (hP _ (List.mem_of_getElem? (i := 1) rfl)).2.2
  have q1 : (0 : Int) ≤ 1 + 0 := (hP _ (List.mem_of_getElem? (i := 1) rfl)).2.1
  have p2 : ck_lk E 108 (2 + 0) = 0 + (1 * σ 4 + 0) := (hP _ (List.mem_of_getElem? (i := 2) rfl)).2.2
  have q2 : (0 : Int) ≤ 2 + 0 := (hP _ (List.mem_of_getElem? (i := 2) rfl)).2.1
  have p3 : ck_lk E 108 (3 + 0) = 0 + (1 * σ 5 + 0) := (hP _ (List.mem_of_getElem? (i := 3) rfl)).2.2
  have q3 : (0 : Int) ≤ 3 + 0 := (hP _ (List.mem_of_getElem? (i := 3) rfl)).2.1
  have p4 : ck_lk E 108 (4 + 0) = 0 + (1 * σ 6 + 0) := (hP _ (List.mem_of_getElem? (i := 4) rfl)).2.2
  have q4 : (0 : Int) ≤ 4 + 0 := (hP _ (List.mem_of_getElem? (i := 4) rfl)).2.1
  have p5 : ck_lk E 108 (5 + 0) = 0 + (1 * σ 7 + 0) := (hP _ (List.mem_of_getElem? (i := 5) rfl)).2.2
  have q5 : (0 : Int) ≤ 5 + 0 := (hP _ (List.mem_of_getElem? (i := 5) rfl)).2.1
  have p6 : ck_lk E 65 (5 + 0) = 0 + (1 * σ 8 + 0) := (hP _ (List.mem_of_getElem? (i := 6) rfl)).2.2
  have q6 : (0 : Int) ≤ 5 + 0 := (hP _ (List.mem_of_getElem? (i := 6) rfl)).2.1
  have key : (((0 : Int) ≤ 0 + 0 ∧ ck_lk (va_up E 69 e') 108 (0 + 0) = 0 + (1 * σ 2 + 0)) ∧ ((0 : Int) ≤ 1 + 0 ∧ ck_lk (va_up E 69 e') 108 (1 + 0) = 0 + (1 * σ 3 + 0)) ∧ ((0 : Int) ≤ 2 + 0 ∧ ck_lk (va_up E 69 e') 108 (2 + 0) = 0 + (1 * σ 4 + 0)) ∧ ((0 : Int) ≤ 3 + 0 ∧ ck_lk (va_up E 69 e') 108 (3 + 0) = 0 + (1 * σ 5 + 0)) ∧ ((0 : Int) ≤ 4 + 0 ∧ ck_lk (va_up E 69 e') 108 (4 + 0) = 0 + (1 * σ 6 + 0)) ∧ ((0 : Int) ≤ 5 + 0 ∧ ck_lk (va_up E 69 e') 108 (5 + 0) = 1 + 0) ∧ True) := by
    rw [kc (i := 5) (by decide) (by decide)] at p6
    refine ⟨⟨by decide, ?_⟩, ⟨by decide, ?_⟩, ⟨by decide, ?_⟩, ⟨by decide, ?_⟩, ⟨by decide, ?_⟩, ⟨by decide, ?_⟩, trivial⟩
    · rw [k108 (c := 0) (by decide)] at p0
      rw [k108 (c := 0) (by decide), vf_wx_st hgi hgi2 (by decide) (by decide) l2 ⟨fun q => absurd q (by decide), fun q => absurd q (by decide), fun _ => by omega, fun q => absurd q (by decide), fun q => absurd q (by decide)⟩]
      exact p0
    · rw [k108 (c := 1) (by decide)] at p1
      rw [k108 (c := 1) (by decide), vf_wx_st hgi hgi2 (by decide) (by decide) l2 ⟨fun q => absurd q (by decide), fun q => absurd q (by decide), fun _ => by omega, fun q => absurd q (by decide), fun q => absurd q (by decide)⟩]
      exact p1
    · rw [k108 (c := 2) (by decide)] at p2
      rw [k108 (c := 2) (by decide), vf_wx_st hgi hgi2 (by decide) (by decide) l2 ⟨fun q => absurd q (by decide), fun q => absurd q (by decide), fun _ => by omega, fun q => absurd q (by decide), fun q => absurd q (by decide)⟩]
      exact p2
    · rw [k108 (c := 3) (by decide)] at p3
      rw [k108 (c := 3) (by decide), vf_wx_st hgi hgi2 (by decide) (by decide) l2 ⟨fun q => absurd q (by decide), fun q => absurd q (by decide), fun _ => by omega, fun q => absurd q (by decide), fun q => absurd q (by decide)⟩]
      exact p3
    · rw [k108 (c := 4) (by decide)] at p4
      rw [k108 (c := 4) (by decide), vf_wx_st hgi hgi2 (by decide) (by decide) l2 ⟨fun q => absurd q (by decide), fun q => absurd q (by decide), fun _ => by omega, fun q => absurd q (by decide), fun q => absurd q (by decide)⟩]
      exact p4
    · rw [k108 (c := 5) (by decide)] at p5
      rw [k108 (c := 5) (by decide), cb_t (vf_wx_put (by decide) (cb_ge p5 (by omega)) l1 l2 (by omega))]
      rfl
  obtain ⟨k0, k1, k2, k3, k4, k5, -⟩ := key
  exact ⟨_, (List.mem_of_getElem? (i := 0) rfl), σ, ck_ag_rf, (fun _ h => absurd h List.not_mem_nil), (fun _ h => absurd h List.not_mem_nil), trivial, (List.forall_mem_cons.mpr ⟨⟨⟨ck_wb_ok rfl, ck_wb_ok rfl⟩, k0⟩, (List.forall_mem_cons.mpr ⟨⟨⟨ck_wb_ok rfl, ck_wb_ok rfl⟩, k1⟩, (List.forall_mem_cons.mpr ⟨⟨⟨ck_wb_ok rfl, ck_wb_ok rfl⟩, k2⟩, (List.forall_mem_cons.mpr ⟨⟨⟨ck_wb_ok rfl, ck_wb_ok rfl⟩, k3⟩, (List.forall_mem_cons.mpr ⟨⟨⟨ck_wb_ok rfl, ck_wb_ok rfl⟩, k4⟩, (List.forall_mem_cons.mpr ⟨⟨⟨ck_wb_ok rfl, ck_wb_ok rfl⟩, k5⟩, (fun _ h => absurd h List.not_mem_nil)⟩)⟩)⟩)⟩)⟩)⟩), (fun _ h => absurd h List.not_mem_nil)⟩
theorem ccWG_5 {l : Launch} {D : va_G} {kp : Nat → ClassId} : ck_con l D kp ck_NN ceWG_5 := ck_con_s (k := 69) rfl rpWG_5
theorem rpWGp_5 : ck_scon ceWGp_5 69 := by
  intro σ E e' idx v hargs hgi hF hP hΦ hgi2 h0 l1 l2
  cases hargs
  have h0 : (0 : Int) ≤ 0 + (1 * σ 3 + 0) := h0
  have l1 : ck_loc e' (0 + (1 * σ 3 + 0)) = 0 + (1 * σ 2 + 0) := l1
  have l2 : ∀ j, 0 ≤ j → ¬ j = 0 + (1 * σ 3 + 0) → ck_loc e' j = ck_loc (E 69) j := l2
  have f0 : (0 : Int) ≤ 0 + (1 * σ 0 + 0) := hF _ (List.mem_of_getElem? (i := 0) rfl)
  have f1 : (0 : Int) ≤ 5 + ((-1) * σ 0 + 0) := hF _ (List.mem_of_getElem? (i := 1) rfl)
  have f2 : (0 : Int) ≤ 0 + (1 * σ 1 + 0) := hF _ (List.mem_of_getElem? (i := 2) rfl)
  have f3 : (0 : Int) ≤ 7 + ((-1) * σ 1 + 0) := hF _ (List.mem_of_getElem? (i := 3) rfl)
  have f4 : (0 : Int) ≤ (-240) + ((-8) * σ 0 + ((-1) * σ 1 + (1 * σ 3 + 0))) := hF _ (List.mem_of_getElem? (i := 4) rfl)
  have f5 : (0 : Int) ≤ 240 + (8 * σ 0 + (1 * σ 1 + ((-1) * σ 3 + 0))) := hF _ (List.mem_of_getElem? (i := 5) rfl)
  have f6 : (0 : Int) ≤ (-1) + (1 * σ 9 + 0) := hF _ (List.mem_of_getElem? (i := 6) rfl)
  have f7 : (0 : Int) ≤ (-1) + ((-1) * σ 2 + (1 * σ 10 + 0)) := hF _ (List.mem_of_getElem? (i := 7) rfl)
  have f8 : (0 : Int) ≤ (-1) + (1 * σ 11 + 0) := hF _ (List.mem_of_getElem? (i := 8) rfl)
  have p0 : ck_lk E 108 (0 + 0) = 0 + (1 * σ 4 + 0) := (hP _ (List.mem_of_getElem? (i := 0) rfl)).2.2
  have q0 : (0 : Int) ≤ 0 + 0 := (hP _ (List.mem_of_getElem? (i := 0) rfl)).2.1
  have p1 : ck_lk E 108 (1 + 0) = 0 + (1 * σ 5 + 0) := (hP _ (List.mem_of_getElem? (i := 1) rfl)).2.2
  have q1 : (0 : Int) ≤ 1 + 0 := (hP _ (List.mem_of_getElem? (i := 1) rfl)).2.1
  have p2 : ck_lk E 108 (2 + 0) = 0 + (1 * σ 6 + 0) := (hP _ (List.mem_of_getElem? (i := 2) rfl)).2.2
  have q2 : (0 : Int) ≤ 2 + 0 := (hP _ (List.mem_of_getElem? (i := 2) rfl)).2.1
  have p3 : ck_lk E 108 (3 + 0) = 0 + (1 * σ 7 + 0) := (hP _ (List.mem_of_getElem? (i := 3) rfl)).2.2
  have q3 : (0 : Int) ≤ 3 + 0 := (hP _ (List.mem_of_getElem? (i := 3) rfl)).2.1
  have p4 : ck_lk E 108 (4 + 0) = 0 + (1 * σ 8 + 0) := (hP _ (List.mem_of_getElem? (i := 4) rfl)).2.2
  have q4 : (0 : Int) ≤ 4 + 0 := (hP _ (List.mem_of_getElem? (i := 4) rfl)).2.1
  have p5 : ck_lk E 108 (5 + 0) = 0 + (1 * σ 9 + 0) := (hP _ (List.mem_of_getElem? (i := 5) rfl)).2.2
  have q5 : (0 : Int) ≤ 5 + 0 := (hP _ (List.mem_of_getElem? (i := 5) rfl)).2.1
  have p6 : ck_lk E 65 (5 + 0) = 0 + (1 * σ 10 + 0) := (hP _ (List.mem_of_getElem? (i := 6) rfl)).2.2
  have q6 : (0 : Int) ≤ 5 + 0 := (hP _ (List.mem_of_getElem? (i := 6) rfl)).2.1
  have p7 : ck_lk E 109 (5000 + (10 * σ 0 + (1 * σ 1 + 0))) = 0 + (1 * σ 11 + 0) := (hP _ (List.mem_of_getElem? (i := 7) rfl)).2.2
  have q7 : (0 : Int) ≤ 5000 + (10 * σ 0 + (1 * σ 1 + 0)) := (hP _ (List.mem_of_getElem? (i := 7) rfl)).2.1
  have key : (((0 : Int) ≤ 0 + 0 ∧ ck_lk (va_up E 69 e') 108 (0 + 0) = 0 + (1 * σ 4 + 0)) ∧ ((0 : Int) ≤ 1 + 0 ∧ ck_lk (va_up E 69 e') 108 (1 + 0) = 0 + (1 * σ 5 + 0)) ∧ ((0 : Int) ≤ 2 + 0 ∧ ck_lk (va_up E 69 e') 108 (2 + 0) = 0 + (1 * σ 6 + 0)) ∧ ((0 : Int) ≤ 3 + 0 ∧ ck_lk (va_up E 69 e') 108 (3 + 0) = 0 + (1 * σ 7 + 0)) ∧ ((0 : Int) ≤ 4 + 0 ∧ ck_lk (va_up E 69 e') 108 (4 + 0) = 0 + (1 * σ 8 + 0)) ∧ ((0 : Int) ≤ 5 + 0 ∧ ck_lk (va_up E 69 e') 108 (5 + 0) = 1 + 0) ∧ ((0 : Int) ≤ 5001 + (10 * σ 0 + (1 * σ 1 + 0)) ∧ ck_lk (va_up E 69 e') 109 (5001 + (10 * σ 0 + (1 * σ 1 + 0))) = 1 + 0) ∧ True) := by
    rw [kc (i := 5) (by decide) (by decide)] at p6
    rw [k109 (c := 5) (r := σ 0) (n := σ 1) (by omega) (by omega) (by omega) (by omega) (by omega)] at p7
    have hr := cb_ge p7 (by omega)
    refine ⟨⟨by decide, ?_⟩, ⟨by decide, ?_⟩, ⟨by decide, ?_⟩, ⟨by decide, ?_⟩, ⟨by decide, ?_⟩, ⟨by decide, ?_⟩, ⟨by omega, ?_⟩, trivial⟩
    · rw [k108 (c := 0) (by decide)] at p0
      rw [k108 (c := 0) (by decide), vf_wx_st hgi hgi2 (by decide) (by decide) l2 ⟨fun q => absurd q (by decide), fun q => absurd q (by decide), fun _ => by omega, fun q => absurd q (by decide), fun q => absurd q (by decide)⟩]
      exact p0
    · rw [k108 (c := 1) (by decide)] at p1
      rw [k108 (c := 1) (by decide), vf_wx_st hgi hgi2 (by decide) (by decide) l2 ⟨fun q => absurd q (by decide), fun q => absurd q (by decide), fun _ => by omega, fun q => absurd q (by decide), fun q => absurd q (by decide)⟩]
      exact p1
    · rw [k108 (c := 2) (by decide)] at p2
      rw [k108 (c := 2) (by decide), vf_wx_st hgi hgi2 (by decide) (by decide) l2 ⟨fun q => absurd q (by decide), fun q => absurd q (by decide), fun _ => by omega, fun q => absurd q (by decide), fun q => absurd q (by decide)⟩]
      exact p2
    · rw [k108 (c := 3) (by decide)] at p3
      rw [k108 (c := 3) (by decide), vf_wx_st hgi hgi2 (by decide) (by decide) l2 ⟨fun q => absurd q (by decide), fun q => absurd q (by decide), fun _ => by omega, fun q => absurd q (by decide), fun q => absurd q (by decide)⟩]
      exact p3
    · rw [k108 (c := 4) (by decide)] at p4
      rw [k108 (c := 4) (by decide), vf_wx_st hgi hgi2 (by decide) (by decide) l2 ⟨fun q => absurd q (by decide), fun q => absurd q (by decide), fun _ => by omega, fun q => absurd q (by decide), fun q => absurd q (by decide)⟩]
      exact p4
    · rw [k108 (c := 5) (by decide)] at p5
      rw [k108 (c := 5) (by decide), cb_t (vf_wx_put (by decide) (cb_ge p5 (by omega)) l1 l2 (by omega))]
      rfl
    · rw [k109 (c := 5) (r := σ 0) (n := σ 1 + 1) (by omega) (by omega) (by omega) (by omega) (by omega)]
      refine (cb_t ?_).trans rfl
      intro i i0 i1
      rw [un (j := 65) (by decide)]
      by_cases hi : i = σ 1
      · rw [va_up_self, show 48 * 5 + 8 * σ 0 + i = 0 + (1 * σ 3 + 0) by omega, l1]; omega
      · exact vf_up69 l1 l2 (by omega) (by omega) (hr i i0 (by omega))
  obtain ⟨k0, k1, k2, k3, k4, k5, k6, -⟩ := key
  exact ⟨_, (List.mem_of_getElem? (i := 0) rfl), σ, ck_ag_rf, (fun _ h => absurd h List.not_mem_nil), (fun _ h => absurd h List.not_mem_nil), trivial, (List.forall_mem_cons.mpr ⟨⟨⟨ck_wb_ok rfl, ck_wb_ok rfl⟩, k0⟩, (List.forall_mem_cons.mpr ⟨⟨⟨ck_wb_ok rfl, ck_wb_ok rfl⟩, k1⟩, (List.forall_mem_cons.mpr ⟨⟨⟨ck_wb_ok rfl, ck_wb_ok rfl⟩, k2⟩, (List.forall_mem_cons.mpr ⟨⟨⟨ck_wb_ok rfl, ck_wb_ok rfl⟩, k3⟩, (List.forall_mem_cons.mpr ⟨⟨⟨ck_wb_ok rfl, ck_wb_ok rfl⟩, k4⟩, (List.forall_mem_cons.mpr ⟨⟨⟨ck_wb_ok rfl, ck_wb_ok rfl⟩, k5⟩, (List.forall_mem_cons.mpr ⟨⟨⟨ck_wb_ok rfl, ck_wb_ok rfl⟩, k6⟩, (fun _ h => absurd h List.not_mem_nil)⟩)⟩)⟩)⟩)⟩)⟩)⟩), (fun _ h => absurd h List.not_mem_nil)⟩
theorem ccWGp_5 {l : Launch} {D : va_G} {kp : Nat → ClassId} : ck_con l D kp ck_NN ceWGp_5 := ck_con_s (k := 69) rfl rpWGp_5
theorem rpWGq_5 : ck_scon ceWGq_5 69 := by
  intro σ E e' idx v hargs hgi hF hP hΦ hgi2 h0 l1 l2
  cases hargs
  have h0 : (0 : Int) ≤ 0 + (1 * σ 3 + 0) := h0
  have l1 : ck_loc e' (0 + (1 * σ 3 + 0)) = 0 + (1 * σ 2 + 0) := l1
  have l2 : ∀ j, 0 ≤ j → ¬ j = 0 + (1 * σ 3 + 0) → ck_loc e' j = ck_loc (E 69) j := l2
  have f0 : (0 : Int) ≤ 0 + (1 * σ 0 + 0) := hF _ (List.mem_of_getElem? (i := 0) rfl)
  have f1 : (0 : Int) ≤ 5 + ((-1) * σ 0 + 0) := hF _ (List.mem_of_getElem? (i := 1) rfl)
  have f2 : (0 : Int) ≤ 0 + (1 * σ 1 + 0) := hF _ (List.mem_of_getElem? (i := 2) rfl)
  have f3 : (0 : Int) ≤ 7 + ((-1) * σ 1 + 0) := hF _ (List.mem_of_getElem? (i := 3) rfl)
  have f4 : (0 : Int) ≤ (-240) + ((-8) * σ 0 + ((-1) * σ 1 + (1 * σ 3 + 0))) := hF _ (List.mem_of_getElem? (i := 4) rfl)
  have f5 : (0 : Int) ≤ 240 + (8 * σ 0 + (1 * σ 1 + ((-1) * σ 3 + 0))) := hF _ (List.mem_of_getElem? (i := 5) rfl)
  have f6 : (0 : Int) ≤ (-1) + (1 * σ 9 + 0) := hF _ (List.mem_of_getElem? (i := 6) rfl)
  have f7 : (0 : Int) ≤ (-1) + ((-1) * σ 2 + (1 * σ 10 + 0)) := hF _ (List.mem_of_getElem? (i := 7) rfl)
  have f8 : (0 : Int) ≤ (-1) + (1 * σ 11 + 0) := hF _ (List.mem_of_getElem? (i := 8) rfl)
  have p0 : ck_lk E 108 (0 + 0) = 0 + (1 * σ 4 + 0) := (hP _ (List.mem_of_getElem? (i := 0) rfl)).2.2
  have q0 : (0 : Int) ≤ 0 + 0 := (hP _ (List.mem_of_getElem? (i := 0) rfl)).2.1
  have p1 : ck_lk E 108 (1 + 0) = 0 + (1 * σ 5 + 0) := (hP _ (List.mem_of_getElem? (i := 1) rfl)).2.2
  have q1 : (0 : Int) ≤ 1 + 0 := (hP _ (List.mem_of_getElem? (i := 1) rfl)).2.1
  have p2 : ck_lk E 108 (2 + 0) = 0 + (1 * σ 6 + 0) := (hP _ (List.mem_of_getElem? (i := 2) rfl)).2.2
  have q2 : (0 : Int) ≤ 2 + 0 := (hP _ (List.mem_of_getElem? (i := 2) rfl)).2.1
  have p3 : ck_lk E 108 (3 + 0) = 0 + (1 * σ 7 + 0) := (hP _ (List.mem_of_getElem? (i := 3) rfl)).2.2
  have q3 : (0 : Int) ≤ 3 + 0 := (hP _ (List.mem_of_getElem? (i := 3) rfl)).2.1
  have p4 : ck_lk E 108 (4 + 0) = 0 + (1 * σ 8 + 0) := (hP _ (List.mem_of_getElem? (i := 4) rfl)).2.2
  have q4 : (0 : Int) ≤ 4 + 0 := (hP _ (List.mem_of_getElem? (i := 4) rfl)).2.1
  have p5 : ck_lk E 108 (5 + 0) = 0 + (1 * σ 9 + 0) := (hP _ (List.mem_of_getElem? (i := 5) rfl)).2.2
  have q5 : (0 : Int) ≤ 5 + 0 := (hP _ (List.mem_of_getElem? (i := 5) rfl)).2.1
  have p6 : ck_lk E 65 (5 + 0) = 0 + (1 * σ 10 + 0) := (hP _ (List.mem_of_getElem? (i := 6) rfl)).2.2
  have q6 : (0 : Int) ≤ 5 + 0 := (hP _ (List.mem_of_getElem? (i := 6) rfl)).2.1
  have p7 : ck_lk E 109 (5001 + (10 * σ 0 + (1 * σ 1 + 0))) = 0 + (1 * σ 11 + 0) := (hP _ (List.mem_of_getElem? (i := 7) rfl)).2.2
  have q7 : (0 : Int) ≤ 5001 + (10 * σ 0 + (1 * σ 1 + 0)) := (hP _ (List.mem_of_getElem? (i := 7) rfl)).2.1
  have key : (((0 : Int) ≤ 0 + 0 ∧ ck_lk (va_up E 69 e') 108 (0 + 0) = 0 + (1 * σ 4 + 0)) ∧ ((0 : Int) ≤ 1 + 0 ∧ ck_lk (va_up E 69 e') 108 (1 + 0) = 0 + (1 * σ 5 + 0)) ∧ ((0 : Int) ≤ 2 + 0 ∧ ck_lk (va_up E 69 e') 108 (2 + 0) = 0 + (1 * σ 6 + 0)) ∧ ((0 : Int) ≤ 3 + 0 ∧ ck_lk (va_up E 69 e') 108 (3 + 0) = 0 + (1 * σ 7 + 0)) ∧ ((0 : Int) ≤ 4 + 0 ∧ ck_lk (va_up E 69 e') 108 (4 + 0) = 0 + (1 * σ 8 + 0)) ∧ ((0 : Int) ≤ 5 + 0 ∧ ck_lk (va_up E 69 e') 108 (5 + 0) = 1 + 0) ∧ ((0 : Int) ≤ 5001 + (10 * σ 0 + (1 * σ 1 + 0)) ∧ ck_lk (va_up E 69 e') 109 (5001 + (10 * σ 0 + (1 * σ 1 + 0))) = 1 + 0) ∧ True) := by
    rw [kc (i := 5) (by decide) (by decide)] at p6
    rw [k109 (c := 5) (r := σ 0) (n := σ 1 + 1) (by omega) (by omega) (by omega) (by omega) (by omega)] at p7
    have hr := cb_ge p7 (by omega)
    refine ⟨⟨by decide, ?_⟩, ⟨by decide, ?_⟩, ⟨by decide, ?_⟩, ⟨by decide, ?_⟩, ⟨by decide, ?_⟩, ⟨by decide, ?_⟩, ⟨by omega, ?_⟩, trivial⟩
    · rw [k108 (c := 0) (by decide)] at p0
      rw [k108 (c := 0) (by decide), vf_wx_st hgi hgi2 (by decide) (by decide) l2 ⟨fun q => absurd q (by decide), fun q => absurd q (by decide), fun _ => by omega, fun q => absurd q (by decide), fun q => absurd q (by decide)⟩]
      exact p0
    · rw [k108 (c := 1) (by decide)] at p1
      rw [k108 (c := 1) (by decide), vf_wx_st hgi hgi2 (by decide) (by decide) l2 ⟨fun q => absurd q (by decide), fun q => absurd q (by decide), fun _ => by omega, fun q => absurd q (by decide), fun q => absurd q (by decide)⟩]
      exact p1
    · rw [k108 (c := 2) (by decide)] at p2
      rw [k108 (c := 2) (by decide), vf_wx_st hgi hgi2 (by decide) (by decide) l2 ⟨fun q => absurd q (by decide), fun q => absurd q (by decide), fun _ => by omega, fun q => absurd q (by decide), fun q => absurd q (by decide)⟩]
      exact p2
    · rw [k108 (c := 3) (by decide)] at p3
      rw [k108 (c := 3) (by decide), vf_wx_st hgi hgi2 (by decide) (by decide) l2 ⟨fun q => absurd q (by decide), fun q => absurd q (by decide), fun _ => by omega, fun q => absurd q (by decide), fun q => absurd q (by decide)⟩]
      exact p3
    · rw [k108 (c := 4) (by decide)] at p4
      rw [k108 (c := 4) (by decide), vf_wx_st hgi hgi2 (by decide) (by decide) l2 ⟨fun q => absurd q (by decide), fun q => absurd q (by decide), fun _ => by omega, fun q => absurd q (by decide), fun q => absurd q (by decide)⟩]
      exact p4
    · rw [k108 (c := 5) (by decide)] at p5
      rw [k108 (c := 5) (by decide), cb_t (vf_wx_put (by decide) (cb_ge p5 (by omega)) l1 l2 (by omega))]
      rfl
    · rw [k109 (c := 5) (r := σ 0) (n := σ 1 + 1) (by omega) (by omega) (by omega) (by omega) (by omega)]
      refine (cb_t ?_).trans rfl
      intro i i0 i1
      rw [un (j := 65) (by decide)]
      exact vf_up69 l1 l2 (by omega) (by omega) (hr i i0 i1)
  obtain ⟨k0, k1, k2, k3, k4, k5, k6, -⟩ := key
  exact ⟨_, (List.mem_of_getElem? (i := 0) rfl), σ, ck_ag_rf, (fun _ h => absurd h List.not_mem_nil), (fun _ h => absurd h List.not_mem_nil), trivial, (List.forall_mem_cons.mpr ⟨⟨⟨ck_wb_ok rfl, ck_wb_ok rfl⟩, k0⟩, (List.forall_mem_cons.mpr ⟨⟨⟨ck_wb_ok rfl, ck_wb_ok rfl⟩, k1⟩, (List.forall_mem_cons.mpr ⟨⟨⟨ck_wb_ok rfl, ck_wb_ok rfl⟩, k2⟩, (List.forall_mem_cons.mpr ⟨⟨⟨ck_wb_ok rfl, ck_wb_ok rfl⟩, k3⟩, (List.forall_mem_cons.mpr ⟨⟨⟨ck_wb_ok rfl, ck_wb_ok rfl⟩, k4⟩, (List.forall_mem_cons.mpr ⟨⟨⟨ck_wb_ok rfl, ck_wb_ok rfl⟩, k5⟩, (List.forall_mem_cons.mpr ⟨⟨⟨ck_wb_ok rfl, ck_wb_ok rfl⟩, k6⟩, (fun _ h => absurd h List.not_mem_nil)⟩)⟩)⟩)⟩)⟩)⟩)⟩), (fun _ h => absurd h List.not_mem_nil)⟩
theorem ccWGq_5 {l : Launch} {D : va_G} {kp : Nat → ClassId} : ck_con l D kp ck_NN ceWGq_5 := ck_con_s (k := 69) rfl rpWGq_5
theorem rpWP_5 : ck_scon ceWP_5 67 := by
  intro σ E e' idx v hargs hgi hF hP hΦ hgi2 h0 l1 l2
  cases hargs
  have h0 : (0 : Int) ≤ 0 + (1 * σ 2 + 0) := h0
  have l1 : ck_loc e' (0 + (1 * σ 2 + 0)) = 0 + (1 * σ 1 + 0) := l1
  have l2 : ∀ j, 0 ≤ j → ¬ j = 0 + (1 * σ 2 + 0) → ck_loc e' j = ck_loc (E 67) j := l2
  have f0 : (0 : Int) ≤ 0 + (1 * σ 0 + 0) := hF _ (List.mem_of_getElem? (i := 0) rfl)
  have f1 : (0 : Int) ≤ 5 + ((-1) * σ 0 + 0) := hF _ (List.mem_of_getElem? (i := 1) rfl)
  have f2 : (0 : Int) ≤ 0 + (1 * σ 1 + 0) := hF _ (List.mem_of_getElem? (i := 2) rfl)
  have f3 : (0 : Int) ≤ 8 + ((-1) * σ 1 + 0) := hF _ (List.mem_of_getElem? (i := 3) rfl)
  have f4 : (0 : Int) ≤ (-30) + ((-1) * σ 0 + (1 * σ 2 + 0)) := hF _ (List.mem_of_getElem? (i := 4) rfl)
  have f5 : (0 : Int) ≤ 30 + (1 * σ 0 + ((-1) * σ 2 + 0)) := hF _ (List.mem_of_getElem? (i := 5) rfl)
  have f6 : (0 : Int) ≤ (-1) + (1 * σ 8 + 0) := hF _ (List.mem_of_getElem? (i := 6) rfl)
  have f7 : (0 : Int) ≤ (-1) + (1 * σ 9 + 0) := hF _ (List.mem_of_getElem? (i := 7) rfl)
  have p0 : ck_lk E 108 (0 + 0) = 0 + (1 * σ 3 + 0) := (hP _ (List.mem_of_getElem? (i := 0) rfl)).2.2
  have q0 : (0 : Int) ≤ 0 + 0 := (hP _ (List.mem_of_getElem? (i := 0) rfl)).2.1
  have p1 : ck_lk E 108 (1 + 0) = 0 + (1 * σ 4 + 0) := (hP _ (List.mem_of_getElem? (i := 1) rfl)).2.2
  have q1 : (0 : Int) ≤ 1 + 0 := (hP _ (List.mem_of_getElem? (i := 1) rfl)).2.1
  have p2 : ck_lk E 108 (2 + 0) = 0 + (1 * σ 5 + 0) := (hP _ (List.mem_of_getElem? (i := 2) rfl)).2.2
  have q2 : (0 : Int) ≤ 2 + 0 := (hP _ (List.mem_of_getElem? (i := 2) rfl)).2.1
  have p3 : ck_lk E 108 (3 + 0) = 0 + (1 * σ 6 + 0) := (hP _ (List.mem_of_getElem? (i := 3) rfl)).2.2
  have q3 : (0 : Int) ≤ 3 + 0 := (hP _ (List.mem_of_getElem? (i := 3) rfl)).2.1
  have p4 : ck_lk E 108 (4 + 0) = 0 + (1 * σ 7 + 0) := (hP _ (List.mem_of_getElem? (i := 4) rfl)).2.2
  have q4 : (0 : Int) ≤ 4 + 0 := (hP _ (List.mem_of_getElem? (i := 4) rfl)).2.1
  have p5 : ck_lk E 108 (5 + 0) = 0 + (1 * σ 8 + 0) := (hP _ (List.mem_of_getElem? (i := 5) rfl)).2.2
  have q5 : (0 : Int) ≤ 5 + 0 := (hP _ (List.mem_of_getElem? (i := 5) rfl)).2.1
  have p6 : ck_lk E 109 (5000 + (10 * σ 0 + (1 * σ 1 + 0))) = 0 + (1 * σ 9 + 0) := (hP _ (List.mem_of_getElem? (i := 6) rfl)).2.2
  have q6 : (0 : Int) ≤ 5000 + (10 * σ 0 + (1 * σ 1 + 0)) := (hP _ (List.mem_of_getElem? (i := 6) rfl)).2.1
  have key : (((0 : Int) ≤ 0 + 0 ∧ ck_lk (va_up E 67 e') 108 (0 + 0) = 0 + (1 * σ 3 + 0)) ∧ ((0 : Int) ≤ 1 + 0 ∧ ck_lk (va_up E 67 e') 108 (1 + 0) = 0 + (1 * σ 4 + 0)) ∧ ((0 : Int) ≤ 2 + 0 ∧ ck_lk (va_up E 67 e') 108 (2 + 0) = 0 + (1 * σ 5 + 0)) ∧ ((0 : Int) ≤ 3 + 0 ∧ ck_lk (va_up E 67 e') 108 (3 + 0) = 0 + (1 * σ 6 + 0)) ∧ ((0 : Int) ≤ 4 + 0 ∧ ck_lk (va_up E 67 e') 108 (4 + 0) = 0 + (1 * σ 7 + 0)) ∧ ((0 : Int) ≤ 5 + 0 ∧ ck_lk (va_up E 67 e') 108 (5 + 0) = 1 + 0) ∧ True) := by
    rw [k109 (c := 5) (r := σ 0) (n := σ 1) (by omega) (by omega) (by omega) (by omega) (by omega)] at p6
    have hr := cb_ge p6 (by omega)
    refine ⟨⟨by decide, ?_⟩, ⟨by decide, ?_⟩, ⟨by decide, ?_⟩, ⟨by decide, ?_⟩, ⟨by decide, ?_⟩, ⟨by decide, ?_⟩, trivial⟩
    · rw [k108 (c := 0) (by decide)] at p0
      rw [k108 (c := 0) (by decide), vf_wx_st hgi hgi2 (by decide) (by decide) l2 ⟨fun q => absurd q (by decide), fun _ => by omega, fun q => absurd q (by decide), fun q => absurd q (by decide), fun q => absurd q (by decide)⟩]
      exact p0
    · rw [k108 (c := 1) (by decide)] at p1
      rw [k108 (c := 1) (by decide), vf_wx_st hgi hgi2 (by decide) (by decide) l2 ⟨fun q => absurd q (by decide), fun _ => by omega, fun q => absurd q (by decide), fun q => absurd q (by decide), fun q => absurd q (by decide)⟩]
      exact p1
    · rw [k108 (c := 2) (by decide)] at p2
      rw [k108 (c := 2) (by decide), vf_wx_st hgi hgi2 (by decide) (by decide) l2 ⟨fun q => absurd q (by decide), fun _ => by omega, fun q => absurd q (by decide), fun q => absurd q (by decide), fun q => absurd q (by decide)⟩]
      exact p2
    · rw [k108 (c := 3) (by decide)] at p3
      rw [k108 (c := 3) (by decide), vf_wx_st hgi hgi2 (by decide) (by decide) l2 ⟨fun q => absurd q (by decide), fun _ => by omega, fun q => absurd q (by decide), fun q => absurd q (by decide), fun q => absurd q (by decide)⟩]
      exact p3
    · rw [k108 (c := 4) (by decide)] at p4
      rw [k108 (c := 4) (by decide), vf_wx_st hgi hgi2 (by decide) (by decide) l2 ⟨fun q => absurd q (by decide), fun _ => by omega, fun q => absurd q (by decide), fun q => absurd q (by decide), fun q => absurd q (by decide)⟩]
      exact p4
    · rw [k108 (c := 5) (by decide)] at p5
      obtain ⟨ha, hl⟩ := cb_ge p5 (by omega)
      rw [k108 (c := 5) (by decide)]
      refine (cb_t ?_).trans rfl
      refine ⟨fun r i r0 r1 rx i0 i1 => ?_, ?_⟩
      · rw [un (j := 65) (by decide)] at r1 ⊢
        rw [un (j := 69) (by decide)]
        rw [va_up_self] at i1
        by_cases hi : r = σ 0
        · rw [show 6 * 5 + r = 0 + (1 * σ 2 + 0) by omega, l1] at i1
          have := hr i i0 (by omega)
          rw [hi]; exact this
        · rw [l2 (6 * 5 + r) (by omega) (by omega)] at i1
          exact ha r i r0 r1 rx i0 i1
      · rw [un (j := 70) (by decide), un (j := 72) (by decide), un (j := 65) (by decide)]; exact hl
  obtain ⟨k0, k1, k2, k3, k4, k5, -⟩ := key
  exact ⟨_, (List.mem_of_getElem? (i := 0) rfl), σ, ck_ag_rf, (fun _ h => absurd h List.not_mem_nil), (fun _ h => absurd h List.not_mem_nil), trivial, (List.forall_mem_cons.mpr ⟨⟨⟨ck_wb_ok rfl, ck_wb_ok rfl⟩, k0⟩, (List.forall_mem_cons.mpr ⟨⟨⟨ck_wb_ok rfl, ck_wb_ok rfl⟩, k1⟩, (List.forall_mem_cons.mpr ⟨⟨⟨ck_wb_ok rfl, ck_wb_ok rfl⟩, k2⟩, (List.forall_mem_cons.mpr ⟨⟨⟨ck_wb_ok rfl, ck_wb_ok rfl⟩, k3⟩, (List.forall_mem_cons.mpr ⟨⟨⟨ck_wb_ok rfl, ck_wb_ok rfl⟩, k4⟩, (List.forall_mem_cons.mpr ⟨⟨⟨ck_wb_ok rfl, ck_wb_ok rfl⟩, k5⟩, (fun _ h => absurd h List.not_mem_nil)⟩)⟩)⟩)⟩)⟩)⟩), (fun _ h => absurd h List.not_mem_nil)⟩
theorem ccWP_5 {l : Launch} {D : va_G} {kp : Nat → ClassId} : ck_con l D kp ck_NN ceWP_5 := ck_con_s (k := 67) rfl rpWP_5
theorem rpPX_5 : ck_gcon cePX_5 := by
  intro σ E hgi hF hP hΦ
  have f0 : (0 : Int) ≤ 0 + (1 * σ 0 + 0) := hF _ (List.mem_of_getElem? (i := 0) rfl)
  have f1 : (0 : Int) ≤ 5 + ((-1) * σ 0 + 0) := hF _ (List.mem_of_getElem? (i := 1) rfl)
  have key : (((0 : Int) ≤ 5000 + (10 * σ 0 + 0) ∧ ck_lk E 109 (5000 + (10 * σ 0 + 0)) = 1 + 0) ∧ True) := by
    refine ⟨⟨by omega, ?_⟩, trivial⟩
    rw [k109 (c := 5) (r := σ 0) (n := 0) (by omega) (by omega) (by omega) (by omega) (by omega)]
    refine (cb_t ?_).trans rfl
    intro i i0 i1
    omega
  obtain ⟨k0, -⟩ := key
  exact ⟨_, (List.mem_of_getElem? (i := 0) rfl), σ, ck_ag_rf, (fun _ h => absurd h List.not_mem_nil), (fun _ h => absurd h List.not_mem_nil), trivial, (List.forall_mem_cons.mpr ⟨⟨⟨ck_wb_ok rfl, ck_wb_ok rfl⟩, k0⟩, (fun _ h => absurd h List.not_mem_nil)⟩), (fun _ h => absurd h List.not_mem_nil)⟩
theorem ccPX_5 {l : Launch} {D : va_G} {kp : Nat → ClassId} : ck_con l D kp ck_NN cePX_5 := ck_con_g rfl rpPX_5
theorem rpWT : ck_scon ceWT 67 := by
  intro σ E e' idx v hargs hgi hF hP hΦ hgi2 h0 l1 l2
  cases hargs
  have h0 : (0 : Int) ≤ 0 + (1 * σ 0 + 0) := h0
  have l1 : ck_loc e' (0 + (1 * σ 0 + 0)) = 0 + (1 * σ 1 + 0) := l1
  have l2 : ∀ j, 0 ≤ j → ¬ j = 0 + (1 * σ 0 + 0) → ck_loc e' j = ck_loc (E 67) j := l2
  have f0 : (0 : Int) ≤ 0 + (1 * σ 0 + 0) := hF _ (List.mem_of_getElem? (i := 0) rfl)
  have f1 : (0 : Int) ≤ 5 + ((-1) * σ 0 + 0) := hF _ (List.mem_of_getElem? (i := 1) rfl)
  have f2 : (0 : Int) ≤ (-1) + (1 * σ 2 + 0) := hF _ (List.mem_of_getElem? (i := 2) rfl)
  have p0 : ck_lk E 108 (0 + 0) = 0 + (1 * σ 2 + 0) := (hP _ (List.mem_of_getElem? (i := 0) rfl)).2.2
  have q0 : (0 : Int) ≤ 0 + 0 := (hP _ (List.mem_of_getElem? (i := 0) rfl)).2.1
  have p1 : ck_lk E 108 (1 + 0) = 0 + (1 * σ 3 + 0) := (hP _ (List.mem_of_getElem? (i := 1) rfl)).2.2
  have q1 : (0 : Int) ≤ 1 + 0 := (hP _ (List.mem_of_getElem? (i := 1) rfl)).2.1
  have p2 : ck_lk E 108 (2 + 0) = 0 + (1 * σ 4 + 0) := (hP _ (List.mem_of_getElem? (i := 2) rfl)).2.2
  have q2 : (0 : Int) ≤ 2 + 0 := (hP _ (List.mem_of_getElem? (i := 2) rfl)).2.1
  have p3 : ck_lk E 108 (3 + 0) = 0 + (1 * σ 5 + 0) := (hP _ (List.mem_of_getElem? (i := 3) rfl)).2.2
  have q3 : (0 : Int) ≤ 3 + 0 := (hP _ (List.mem_of_getElem? (i := 3) rfl)).2.1
  have p4 : ck_lk E 108 (4 + 0) = 0 + (1 * σ 6 + 0) := (hP _ (List.mem_of_getElem? (i := 4) rfl)).2.2
  have q4 : (0 : Int) ≤ 4 + 0 := (hP _ (List.mem_of_getElem? (i := 4) rfl)).2.1
  have p5 : ck_lk E 108 (5 + 0) = 0 + (1 * σ 7 + 0) := (hP _ (List.mem_of_getElem? (i := 5) rfl)).2.2
  have q5 : (0 : Int) ≤ 5 + 0 := (hP _ (List.mem_of_getElem? (i := 5) rfl)).2.1
  have key : (((0 : Int) ≤ 1 + 0 ∧ ck_lk (va_up E 67 e') 108 (1 + 0) = 0 + (1 * σ 3 + 0)) ∧ ((0 : Int) ≤ 2 + 0 ∧ ck_lk (va_up E 67 e') 108 (2 + 0) = 0 + (1 * σ 4 + 0)) ∧ ((0 : Int) ≤ 3 + 0 ∧ ck_lk (va_up E 67 e') 108 (3 + 0) = 0 + (1 * σ 5 + 0)) ∧ ((0 : Int) ≤ 4 + 0 ∧ ck_lk (va_up E 67 e') 108 (4 + 0) = 0 + (1 * σ 6 + 0)) ∧ ((0 : Int) ≤ 5 + 0 ∧ ck_lk (va_up E 67 e') 108 (5 + 0) = 0 + (1 * σ 7 + 0)) ∧ ((0 : Int) ≤ 0 + (1 * σ 0 + 0) ∧ ck_lk (va_up E 67 e') 112 (0 + (1 * σ 0 + 0)) = 1 + 0) ∧ True) := by
    refine ⟨⟨by decide, ?_⟩, ⟨by decide, ?_⟩, ⟨by decide, ?_⟩, ⟨by decide, ?_⟩, ⟨by decide, ?_⟩, ⟨by omega, ?_⟩, trivial⟩
    · rw [k108 (c := 1) (by decide)] at p1
      rw [k108 (c := 1) (by decide), vf_wx_st hgi hgi2 (by decide) (by decide) l2 ⟨fun q => absurd q (by decide), fun _ => by omega, fun q => absurd q (by decide), fun q => absurd q (by decide), fun q => absurd q (by decide)⟩]
      exact p1
    · rw [k108 (c := 2) (by decide)] at p2
      rw [k108 (c := 2) (by decide), vf_wx_st hgi hgi2 (by decide) (by decide) l2 ⟨fun q => absurd q (by decide), fun _ => by omega, fun q => absurd q (by decide), fun q => absurd q (by decide), fun q => absurd q (by decide)⟩]
      exact p2
    · rw [k108 (c := 3) (by decide)] at p3
      rw [k108 (c := 3) (by decide), vf_wx_st hgi hgi2 (by decide) (by decide) l2 ⟨fun q => absurd q (by decide), fun _ => by omega, fun q => absurd q (by decide), fun q => absurd q (by decide), fun q => absurd q (by decide)⟩]
      exact p3
    · rw [k108 (c := 4) (by decide)] at p4
      rw [k108 (c := 4) (by decide), vf_wx_st hgi hgi2 (by decide) (by decide) l2 ⟨fun q => absurd q (by decide), fun _ => by omega, fun q => absurd q (by decide), fun q => absurd q (by decide), fun q => absurd q (by decide)⟩]
      exact p4
    · rw [k108 (c := 5) (by decide)] at p5
      rw [k108 (c := 5) (by decide), vf_wx_st hgi hgi2 (by decide) (by decide) l2 ⟨fun q => absurd q (by decide), fun _ => by omega, fun q => absurd q (by decide), fun q => absurd q (by decide), fun q => absurd q (by decide)⟩]
      exact p5
    · rw [k108 (c := 0) (by decide)] at p0
      obtain ⟨ha, hl⟩ := cb_ge p0 (by omega)
      rw [k112 (r := σ 0) (by omega) (by omega) (by omega)]
      refine (cb_t ?_).trans rfl
      refine ⟨fun r i r0 r1 rx i0 i1 => ?_, ?_⟩
      · rw [un (j := 65) (by decide)] at r1 ⊢
        rw [un (j := 69) (by decide)]
        rw [va_up_self, l2 (6 * 0 + r) (by omega) (by omega)] at i1
        exact ha r i r0 r1 (by omega) i0 i1
      · rw [un (j := 70) (by decide), un (j := 72) (by decide), un (j := 65) (by decide)]; exact hl
  obtain ⟨k0, k1, k2, k3, k4, k5, -⟩ := key
  exact ⟨_, (List.mem_of_getElem? (i := 0) rfl), σ, ck_ag_rf, (fun _ h => absurd h List.not_mem_nil), (fun _ h => absurd h List.not_mem_nil), trivial, (List.forall_mem_cons.mpr ⟨⟨⟨ck_wb_ok rfl, ck_wb_ok rfl⟩, k0⟩, (List.forall_mem_cons.mpr ⟨⟨⟨ck_wb_ok rfl, ck_wb_ok rfl⟩, k1⟩, (List.forall_mem_cons.mpr ⟨⟨⟨ck_wb_ok rfl, ck_wb_ok rfl⟩, k2⟩, (List.forall_mem_cons.mpr ⟨⟨⟨ck_wb_ok rfl, ck_wb_ok rfl⟩, k3⟩, (List.forall_mem_cons.mpr ⟨⟨⟨ck_wb_ok rfl, ck_wb_ok rfl⟩, k4⟩, (List.forall_mem_cons.mpr ⟨⟨⟨ck_wb_ok rfl, ck_wb_ok rfl⟩, k5⟩, (fun _ h => absurd h List.not_mem_nil)⟩)⟩)⟩)⟩)⟩)⟩), (fun _ h => absurd h List.not_mem_nil)⟩
theorem ccWT {l : Launch} {D : va_G} {kp : Nat → ClassId} : ck_con l D kp ck_NN ceWT := ck_con_s (k := 67) rfl rpWT
theorem rpWX : ck_scon ceWX 69 := by
  intro σ E e' idx v hargs hgi hF hP hΦ hgi2 h0 l1 l2
  cases hargs
  have h0 : (0 : Int) ≤ 0 + (1 * σ 3 + 0) := h0
  have l1 : ck_loc e' (0 + (1 * σ 3 + 0)) = 0 + (1 * σ 2 + 0) := l1
  have l2 : ∀ j, 0 ≤ j → ¬ j = 0 + (1 * σ 3 + 0) → ck_loc e' j = ck_loc (E 69) j := l2
  have f0 : (0 : Int) ≤ 0 + (1 * σ 0 + 0) := hF _ (List.mem_of_getElem? (i := 0) rfl)
  have f1 : (0 : Int) ≤ 5 + ((-1) * σ 0 + 0) := hF _ (List.mem_of_getElem? (i := 1) rfl)
  have f2 : (0 : Int) ≤ 0 + (1 * σ 1 + 0) := hF _ (List.mem_of_getElem? (i := 2) rfl)
  have f3 : (0 : Int) ≤ 7 + ((-1) * σ 1 + 0) := hF _ (List.mem_of_getElem? (i := 3) rfl)
  have f4 : (0 : Int) ≤ 0 + ((-8) * σ 0 + ((-1) * σ 1 + (1 * σ 3 + 0))) := hF _ (List.mem_of_getElem? (i := 4) rfl)
  have f5 : (0 : Int) ≤ 0 + (8 * σ 0 + (1 * σ 1 + ((-1) * σ 3 + 0))) := hF _ (List.mem_of_getElem? (i := 5) rfl)
  have f6 : (0 : Int) ≤ (-1) + ((-1) * σ 2 + (1 * σ 9 + 0)) := hF _ (List.mem_of_getElem? (i := 6) rfl)
  have f7 : (0 : Int) ≤ (-1) + (1 * σ 10 + 0) := hF _ (List.mem_of_getElem? (i := 7) rfl)
  have f8 : (0 : Int) ≤ (-1) + (1 * σ 11 + 0) := hF _ (List.mem_of_getElem? (i := 8) rfl)
  have p0 : ck_lk E 108 (1 + 0) = 0 + (1 * σ 4 + 0) := (hP _ (List.mem_of_getElem? (i := 0) rfl)).2.2
  have q0 : (0 : Int) ≤ 1 + 0 := (hP _ (List.mem_of_getElem? (i := 0) rfl)).2.1
  have p1 : ck_lk E 108 (2 + 0) = 0 + (1 * σ 5 + 0) := (hP _ (List.mem_of_getElem? (i := 1) rfl)).2.2
  have q1 : (0 : Int) ≤ 2 + 0 := (hP _ (List.mem_of_getElem? (i := 1) rfl)).2.1
  have p2 : ck_lk E 108 (3 + 0) = 0 + (1 * σ 6 + 0) := (hP _ (List.mem_of_getElem? (i := 2) rfl)).2.2
  have q2 : (0 : Int) ≤ 3 + 0 := (hP _ (List.mem_of_getElem? (i := 2) rfl)).2.1
  have p3 : ck_lk E 108 (4 + 0) = 0 + (1 * σ 7 + 0) := (hP _ (List.mem_of_getElem? (i := 3) rfl)).2.2
  have q3 : (0 : Int) ≤ 4 + 0 := (hP _ (List.mem_of_getElem? (i := 3) rfl)).2.1
  have p4 : ck_lk E 108 (5 + 0) = 0 + (1 * σ 8 + 0) := (hP _ (List.mem_of_getElem? (i := 4) rfl)).2.2
  have q4 : (0 : Int) ≤ 5 + 0 := (hP _ (List.mem_of_getElem? (i := 4) rfl)).2.1
  have p5 : ck_lk E 65 (0 + 0) = 0 + (1 * σ 9 + 0) := (hP _ (List.mem_of_getElem? (i := 5) rfl)).2.2
  have q5 : (0 : Int) ≤ 0 + 0 := (hP _ (List.mem_of_getElem? (i := 5) rfl)).2.1
  have p6 : ck_lk E 112 (0 + (1 * σ 0 + 0)) = 0 + (1 * σ 10 + 0) := (hP _ (List.mem_of_getElem? (i := 6) rfl)).2.2
  have q6 : (0 : Int) ≤ 0 + (1 * σ 0 + 0) := (hP _ (List.mem_of_getElem? (i := 6) rfl)).2.1
  have p7 : ck_lk E 109 (0 + (10 * σ 0 + (1 * σ 1 + 0))) = 0 + (1 * σ 11 + 0) := (hP _ (List.mem_of_getElem? (i := 7) rfl)).2.2
  have q7 : (0 : Int) ≤ 0 + (10 * σ 0 + (1 * σ 1 + 0)) := (hP _ (List.mem_of_getElem? (i := 7) rfl)).2.1
  have key : (((0 : Int) ≤ 1 + 0 ∧ ck_lk (va_up E 69 e') 108 (1 + 0) = 0 + (1 * σ 4 + 0)) ∧ ((0 : Int) ≤ 2 + 0 ∧ ck_lk (va_up E 69 e') 108 (2 + 0) = 0 + (1 * σ 5 + 0)) ∧ ((0 : Int) ≤ 3 + 0 ∧ ck_lk (va_up E 69 e') 108 (3 + 0) = 0 + (1 * σ 6 + 0)) ∧ ((0 : Int) ≤ 4 + 0 ∧ ck_lk (va_up E 69 e') 108 (4 + 0) = 0 + (1 * σ 7 + 0)) ∧ ((0 : Int) ≤ 5 + 0 ∧ ck_lk (va_up E 69 e') 108 (5 + 0) = 0 + (1 * σ 8 + 0)) ∧ ((0 : Int) ≤ 0 + (1 * σ 0 + 0) ∧ ck_lk (va_up E 69 e') 112 (0 + (1 * σ 0 + 0)) = 1 + 0) ∧ ((0 : Int) ≤ 1 + (10 * σ 0 + (1 * σ 1 + 0)) ∧ ck_lk (va_up E 69 e') 109 (1 + (10 * σ 0 + (1 * σ 1 + 0))) = 1 + 0) ∧ True) := by
    rw [kc (i := 0) (by decide) (by decide)] at p5
    rw [k112 (r := σ 0) (by omega) (by omega) (by omega)] at p6
    obtain ⟨ha, hl⟩ := cb_ge p6 (by omega)
    rw [k109 (c := 0) (r := σ 0) (n := σ 1) (by omega) (by omega) (by omega) (by omega) (by omega)] at p7
    have hr := cb_ge p7 (by omega)
    refine ⟨⟨by decide, ?_⟩, ⟨by decide, ?_⟩, ⟨by decide, ?_⟩, ⟨by decide, ?_⟩, ⟨by decide, ?_⟩, ⟨by omega, ?_⟩, ⟨by omega, ?_⟩, trivial⟩
    · rw [k108 (c := 1) (by decide)] at p0
      rw [k108 (c := 1) (by decide), vf_wx_st hgi hgi2 (by decide) (by decide) l2 ⟨fun q => absurd q (by decide), fun q => absurd q (by decide), fun _ => by omega, fun q => absurd q (by decide), fun q => absurd q (by decide)⟩]
      exact p0
    · rw [k108 (c := 2) (by decide)] at p1
      rw [k108 (c := 2) (by decide), vf_wx_st hgi hgi2 (by decide) (by decide) l2 ⟨fun q => absurd q (by decide), fun q => absurd q (by decide), fun _ => by omega, fun q => absurd q (by decide), fun q => absurd q (by decide)⟩]
      exact p1
    · rw [k108 (c := 3) (by decide)] at p2
      rw [k108 (c := 3) (by decide), vf_wx_st hgi hgi2 (by decide) (by decide) l2 ⟨fun q => absurd q (by decide), fun q => absurd q (by decide), fun _ => by omega, fun q => absurd q (by decide), fun q => absurd q (by decide)⟩]
      exact p2
    · rw [k108 (c := 4) (by decide)] at p3
      rw [k108 (c := 4) (by decide), vf_wx_st hgi hgi2 (by decide) (by decide) l2 ⟨fun q => absurd q (by decide), fun q => absurd q (by decide), fun _ => by omega, fun q => absurd q (by decide), fun q => absurd q (by decide)⟩]
      exact p3
    · rw [k108 (c := 5) (by decide)] at p4
      rw [k108 (c := 5) (by decide), vf_wx_st hgi hgi2 (by decide) (by decide) l2 ⟨fun q => absurd q (by decide), fun q => absurd q (by decide), fun _ => by omega, fun q => absurd q (by decide), fun q => absurd q (by decide)⟩]
      exact p4
    · rw [k112 (r := σ 0) (by omega) (by omega) (by omega), cb_t (vf_wx_put (by decide) ⟨ha, hl⟩ l1 l2 (by omega))]
      rfl
    · rw [k109 (c := 0) (r := σ 0) (n := σ 1 + 1) (by omega) (by omega) (by omega) (by omega) (by omega)]
      refine (cb_t ?_).trans rfl
      intro i i0 i1
      rw [un (j := 65) (by decide)]
      by_cases hi : i = σ 1
      · rw [va_up_self, show 48 * 0 + 8 * σ 0 + i = 0 + (1 * σ 3 + 0) by omega, l1]; omega
      · exact vf_up69 l1 l2 (by omega) (by omega) (hr i i0 (by omega))
  obtain ⟨k0, k1, k2, k3, k4, k5, k6, -⟩ := key
  exact ⟨_, (List.mem_of_getElem? (i := 0) rfl), σ, ck_ag_rf, (fun _ h => absurd h List.not_mem_nil), (fun _ h => absurd h List.not_mem_nil), trivial, (List.forall_mem_cons.mpr ⟨⟨⟨ck_wb_ok rfl, ck_wb_ok rfl⟩, k0⟩, (List.forall_mem_cons.mpr ⟨⟨⟨ck_wb_ok rfl, ck_wb_ok rfl⟩, k1⟩, (List.forall_mem_cons.mpr ⟨⟨⟨ck_wb_ok rfl, ck_wb_ok rfl⟩, k2⟩, (List.forall_mem_cons.mpr ⟨⟨⟨ck_wb_ok rfl, ck_wb_ok rfl⟩, k3⟩, (List.forall_mem_cons.mpr ⟨⟨⟨ck_wb_ok rfl, ck_wb_ok rfl⟩, k4⟩, (List.forall_mem_cons.mpr ⟨⟨⟨ck_wb_ok rfl, ck_wb_ok rfl⟩, k5⟩, (List.forall_mem_cons.mpr ⟨⟨⟨ck_wb_ok rfl, ck_wb_ok rfl⟩, k6⟩, (fun _ h => absurd h List.not_mem_nil)⟩)⟩)⟩)⟩)⟩)⟩)⟩), (fun _ h => absurd h List.not_mem_nil)⟩
theorem ccWX {l : Launch} {D : va_G} {kp : Nat → ClassId} : ck_con l D kp ck_NN ceWX := ck_con_s (k := 69) rfl rpWX
theorem rpWE : ck_gcon ceWE := by
  intro σ E hgi hF hP hΦ
  have f0 : (0 : Int) ≤ 0 + (1 * σ 0 + 0) := hF _ (List.mem_of_getElem? (i := 0) rfl)
  have f1 : (0 : Int) ≤ 5 + ((-1) * σ 0 + 0) := hF _ (List.mem_of_getElem? (i := 1) rfl)
  have f2 : (0 : Int) ≤ 0 + (1 * σ 2 + 0) := hF _ (List.mem_of_getElem? (i := 2) rfl)
  have f3 : (0 : Int) ≤ 8 + ((-1) * σ 2 + 0) := hF _ (List.mem_of_getElem? (i := 3) rfl)
  have f4 : (0 : Int) ≤ (-1) + (1 * σ 1 + 0) := hF _ (List.mem_of_getElem? (i := 4) rfl)
  have f5 : (0 : Int) ≤ (-1) + (1 * σ 3 + 0) := hF _ (List.mem_of_getElem? (i := 5) rfl)
  have p0 : ck_lk E 112 (0 + (1 * σ 0 + 0)) = 0 + (1 * σ 1 + 0) := (hP _ (List.mem_of_getElem? (i := 0) rfl)).2.2
  have q0 : (0 : Int) ≤ 0 + (1 * σ 0 + 0) := (hP _ (List.mem_of_getElem? (i := 0) rfl)).2.1
  have p1 : ck_lk E 67 (0 + (1 * σ 0 + 0)) = 0 + (1 * σ 2 + 0) := (hP _ (List.mem_of_getElem? (i := 1) rfl)).2.2
  have q1 : (0 : Int) ≤ 0 + (1 * σ 0 + 0) := (hP _ (List.mem_of_getElem? (i := 1) rfl)).2.1
  have p2 : ck_lk E 109 (0 + (10 * σ 0 + (1 * σ 2 + 0))) = 0 + (1 * σ 3 + 0) := (hP _ (List.mem_of_getElem? (i := 2) rfl)).2.2
  have q2 : (0 : Int) ≤ 0 + (10 * σ 0 + (1 * σ 2 + 0)) := (hP _ (List.mem_of_getElem? (i := 2) rfl)).2.1
  have key : (((0 : Int) ≤ 0 + 0 ∧ ck_lk E 108 (0 + 0) = 1 + 0) ∧ True) := by
    rw [k112 (r := σ 0) (by omega) (by omega) (by omega)] at p0
    obtain ⟨ha, hl⟩ := cb_ge p0 (by omega)
    rw [kc (i := σ 0) (by decide) (by omega)] at p1
    rw [k109 (c := 0) (r := σ 0) (n := σ 2) (by omega) (by omega) (by omega) (by omega) (by omega)] at p2
    have hr := cb_ge p2 (by omega)
    refine ⟨⟨by decide, ?_⟩, trivial⟩
    rw [k108 (c := 0) (by decide)]
    refine (cb_t ?_).trans rfl
    refine ⟨fun r i r0 r1 rx i0 i1 => ?_, hl⟩
    by_cases hi : r = σ 0
    · rw [show 6 * 0 + r = σ 0 by omega, p1] at i1
      rw [hi]; exact hr i i0 (by omega)
    · exact ha r i r0 r1 hi i0 i1
  obtain ⟨k0, -⟩ := key
  exact ⟨_, (List.mem_of_getElem? (i := 0) rfl), σ, ck_ag_rf, (fun _ h => absurd h List.not_mem_nil), (fun _ h => absurd h List.not_mem_nil), trivial, (List.forall_mem_cons.mpr ⟨⟨⟨ck_wb_ok rfl, ck_wb_ok rfl⟩, k0⟩, (fun _ h => absurd h List.not_mem_nil)⟩), (fun _ h => absurd h List.not_mem_nil)⟩
theorem ccWE {l : Launch} {D : va_G} {kp : Nat → ClassId} : ck_con l D kp ck_NN ceWE := ck_con_g rfl rpWE
theorem rpWR : ck_gcon ceWR := by
  intro σ E hgi hF hP hΦ
  have f0 : (0 : Int) ≤ (-1) + (1 * σ 2 + 0) := hF _ (List.mem_of_getElem? (i := 0) rfl)
  have f1 : (0 : Int) ≤ 0 + (1 * σ 0 + 0) := hF _ (List.mem_of_getElem? (i := 1) rfl)
  have f2 : (0 : Int) ≤ (-1) + ((-1) * σ 0 + (1 * σ 3 + 0)) := hF _ (List.mem_of_getElem? (i := 2) rfl)
  have f3 : (0 : Int) ≤ 0 + (1 * σ 1 + 0) := hF _ (List.mem_of_getElem? (i := 3) rfl)
  have f4 : (0 : Int) ≤ (-1) + ((-1) * σ 1 + (1 * σ 4 + 0)) := hF _ (List.mem_of_getElem? (i := 4) rfl)
  have p0 : ck_lk E 108 (0 + 0) = 0 + (1 * σ 2 + 0) := (hP _ (List.mem_of_getElem? (i := 0) rfl)).2.2
  have q0 : (0 : Int) ≤ 0 + 0 := (hP _ (List.mem_of_getElem? (i := 0) rfl)).2.1
  have p1 : ck_lk E 65 (0 + 0) = 0 + (1 * σ 3 + 0) := (hP _ (List.mem_of_getElem? (i := 1) rfl)).2.2
  have q1 : (0 : Int) ≤ 0 + 0 := (hP _ (List.mem_of_getElem? (i := 1) rfl)).2.1
  have p2 : ck_lk E 67 (0 + (1 * σ 0 + 0)) = 0 + (1 * σ 4 + 0) := (hP _ (List.mem_of_getElem? (i := 2) rfl)).2.2
  have q2 : (0 : Int) ≤ 0 + (1 * σ 0 + 0) := (hP _ (List.mem_of_getElem? (i := 2) rfl)).2.1
  have p3 : ck_lk E 69 (0 + (8 * σ 0 + (1 * σ 1 + 0))) = 0 + (1 * σ 5 + 0) := (hP _ (List.mem_of_getElem? (i := 3) rfl)).2.2
  have q3 : (0 : Int) ≤ 0 + (8 * σ 0 + (1 * σ 1 + 0)) := (hP _ (List.mem_of_getElem? (i := 3) rfl)).2.1
  have key : ((0 : Int) ≤ (-1) + (1 * σ 3 + ((-1) * σ 5 + 0)) ∧ True) := by
    rw [k108 (c := 0) (by decide)] at p0
    obtain ⟨ha, -⟩ := cb_ge p0 (by omega)
    rw [kc (i := 0) (by decide) (by decide)] at p1
    rw [kc (i := 6 * 0 + σ 0) (by decide) (by omega)] at p2
    rw [kc (i := 48 * 0 + 8 * σ 0 + σ 1) (by decide) (by omega)] at p3
    have := ha (σ 0) (σ 1) (by omega) (by omega) (by omega) (by omega) (by omega)
    exact ⟨by omega, trivial⟩
  obtain ⟨k0, -⟩ := key
  exact ⟨_, (List.mem_of_getElem? (i := 0) rfl), σ, ck_ag_rf, (List.forall_mem_cons.mpr ⟨k0, (fun _ h => absurd h List.not_mem_nil)⟩), (fun f hf => ck_wb_ok (List.all_eq_true.mp (show List.all _ (ck_wb 6) = true from rfl) f hf)), trivial, (fun _ h => absurd h List.not_mem_nil), (fun _ h => absurd h List.not_mem_nil)⟩
theorem ccWR {l : Launch} {D : va_G} {kp : Nat → ClassId} : ck_con l D kp ck_NN ceWR := ck_con_g rfl rpWR
theorem rpWLr : ck_gcon ceWLr := by
  intro σ E hgi hF hP hΦ
  have f0 : (0 : Int) ≤ (-1) + (1 * σ 1 + 0) := hF _ (List.mem_of_getElem? (i := 0) rfl)
  have f1 : (0 : Int) ≤ 0 + (1 * σ 0 + 0) := hF _ (List.mem_of_getElem? (i := 1) rfl)
  have f2 : (0 : Int) ≤ (-1) + ((-1) * σ 0 + (1 * σ 3 + 0)) := hF _ (List.mem_of_getElem? (i := 2) rfl)
  have p0 : ck_lk E 108 (0 + 0) = 0 + (1 * σ 1 + 0) := (hP _ (List.mem_of_getElem? (i := 0) rfl)).2.2
  have q0 : (0 : Int) ≤ 0 + 0 := (hP _ (List.mem_of_getElem? (i := 0) rfl)).2.1
  have p1 : ck_lk E 65 (0 + 0) = 0 + (1 * σ 2 + 0) := (hP _ (List.mem_of_getElem? (i := 1) rfl)).2.2
  have q1 : (0 : Int) ≤ 0 + 0 := (hP _ (List.mem_of_getElem? (i := 1) rfl)).2.1
  have p2 : ck_lk E 70 (1 + 0) = 0 + (1 * σ 3 + 0) := (hP _ (List.mem_of_getElem? (i := 2) rfl)).2.2
  have q2 : (0 : Int) ≤ 1 + 0 := (hP _ (List.mem_of_getElem? (i := 2) rfl)).2.1
  have p3 : ck_lk E 72 (0 + (3 * σ 0 + 0)) = 0 + (1 * σ 4 + 0) := (hP _ (List.mem_of_getElem? (i := 3) rfl)).2.2
  have q3 : (0 : Int) ≤ 0 + (3 * σ 0 + 0) := (hP _ (List.mem_of_getElem? (i := 3) rfl)).2.1
  have p4 : ck_lk E 72 (2 + (3 * σ 0 + 0)) = 0 + (1 * σ 5 + 0) := (hP _ (List.mem_of_getElem? (i := 4) rfl)).2.2
  have q4 : (0 : Int) ≤ 2 + (3 * σ 0 + 0) := (hP _ (List.mem_of_getElem? (i := 4) rfl)).2.1
  have key : ((0 : Int) ≤ (-1) + (1 * σ 2 + ((-1) * σ 4 + 0)) ∧ (0 : Int) ≤ (-1) + (1 * σ 2 + ((-1) * σ 5 + 0)) ∧ True) := by
    rw [k108 (c := 0) (by decide)] at p0
    obtain ⟨-, hl⟩ := cb_ge p0 (by omega)
    rw [kc (i := 0) (by decide) (by decide)] at p1
    rw [kc (i := 2 * 0 + 1) (by decide) (by decide)] at p2
    rw [kc (i := 24 * 0 + 3 * σ 0) (by decide) (by omega)] at p3
    rw [kc (i := 24 * 0 + 3 * σ 0 + 2) (by decide) (by omega)] at p4
    have := hl (σ 0) (by omega) (by omega)
    exact ⟨by omega, by omega, trivial⟩
  obtain ⟨k0, k1, -⟩ := key
  exact ⟨_, (List.mem_of_getElem? (i := 0) rfl), σ, ck_ag_rf, (List.forall_mem_cons.mpr ⟨k0, (List.forall_mem_cons.mpr ⟨k1, (fun _ h => absurd h List.not_mem_nil)⟩)⟩), (fun f hf => ck_wb_ok (List.all_eq_true.mp (show List.all _ (ck_wb 6) = true from rfl) f hf)), trivial, (fun _ h => absurd h List.not_mem_nil), (fun _ h => absurd h List.not_mem_nil)⟩
theorem ccWLr {l : Launch} {D : va_G} {kp : Nat → ClassId} : ck_con l D kp ck_NN ceWLr := ck_con_g rfl rpWLr
theorem rpWH0 : ck_gcon ceWH0 := by
  intro σ E hgi hF hP hΦ
  have key : (((0 : Int) ≤ 0 + 0 ∧ ck_lk E 113 (0 + 0) = 1 + 0) ∧ True) := by
    refine ⟨⟨by decide, ?_⟩, trivial⟩
    rw [ck_lk_v (by decide)]
    refine (cb_t ?_).trans rfl
    intro i i0 i1
    have i1 : i < 0 + 0 := i1
    omega
  obtain ⟨k0, -⟩ := key
  exact ⟨_, (List.mem_of_getElem? (i := 0) rfl), σ, ck_ag_rf, (fun _ h => absurd h List.not_mem_nil), (fun _ h => absurd h List.not_mem_nil), trivial, (List.forall_mem_cons.mpr ⟨⟨⟨ck_wb_ok rfl, ck_wb_ok rfl⟩, k0⟩, (fun _ h => absurd h List.not_mem_nil)⟩), (fun _ h => absurd h List.not_mem_nil)⟩
theorem ccWH0 {l : Launch} {D : va_G} {kp : Nat → ClassId} : ck_con l D kp ck_NN ceWH0 := ck_con_g rfl rpWH0
theorem rpWH : ck_scon ceWH 76 := by
  intro σ E e' idx v hargs hgi hF hP hΦ hgi2 h0 l1 l2
  cases hargs
  have h0 : (0 : Int) ≤ 0 + (1 * σ 0 + 0) := h0
  have l1 : ck_loc e' (0 + (1 * σ 0 + 0)) = 0 + (1 * σ 1 + 0) := l1
  have l2 : ∀ j, 0 ≤ j → ¬ j = 0 + (1 * σ 0 + 0) → ck_loc e' j = ck_loc (E 76) j := l2
  have f0 : (0 : Int) ≤ 0 + (1 * σ 0 + 0) := hF _ (List.mem_of_getElem? (i := 0) rfl)
  have f1 : (0 : Int) ≤ 7 + ((-1) * σ 0 + 0) := hF _ (List.mem_of_getElem? (i := 1) rfl)
  have f2 : (0 : Int) ≤ (-1) + (1 * σ 2 + 0) := hF _ (List.mem_of_getElem? (i := 2) rfl)
  have f3 : (0 : Int) ≤ (-1) + ((-1) * σ 1 + (1 * σ 3 + 0)) := hF _ (List.mem_of_getElem? (i := 3) rfl)
  have p0 : ck_lk E 113 (0 + (1 * σ 0 + 0)) = 0 + (1 * σ 2 + 0) := (hP _ (List.mem_of_getElem? (i := 0) rfl)).2.2
  have q0 : (0 : Int) ≤ 0 + (1 * σ 0 + 0) := (hP _ (List.mem_of_getElem? (i := 0) rfl)).2.1
  have p1 : ck_lk E 65 (0 + 0) = 0 + (1 * σ 3 + 0) := (hP _ (List.mem_of_getElem? (i := 1) rfl)).2.2
  have q1 : (0 : Int) ≤ 0 + 0 := (hP _ (List.mem_of_getElem? (i := 1) rfl)).2.1
  have key : (((0 : Int) ≤ 1 + (1 * σ 0 + 0) ∧ ck_lk (va_up E 76 e') 113 (1 + (1 * σ 0 + 0)) = 1 + 0) ∧ True) := by
    have z : 0 + (1 * σ 0 + 0) = σ 0 := by omega
    rw [z] at h0 l1 l2 p0
    rw [ck_lk_v (by decide)] at p0
    have hp := cb_ge p0 (by omega)
    rw [kc (i := 0) (by decide) (by decide)] at p1
    refine ⟨⟨by omega, ?_⟩, trivial⟩
    rw [ck_lk_v (by decide)]
    refine (cb_t ?_).trans rfl
    intro i i0 i1
    have i1 : i < 1 + (1 * σ 0 + 0) := i1
    rw [va_up_self, un (j := 65) (by decide)]
    by_cases hi : i = σ 0
    · rw [hi, l1]; omega
    · rw [l2 i i0 hi]; exact hp i i0 (show i < σ 0 by omega)
  obtain ⟨k0, -⟩ := key
  exact ⟨_, (List.mem_of_getElem? (i := 0) rfl), σ, ck_ag_rf, (fun _ h => absurd h List.not_mem_nil), (fun _ h => absurd h List.not_mem_nil), trivial, (List.forall_mem_cons.mpr ⟨⟨⟨ck_wb_ok rfl, ck_wb_ok rfl⟩, k0⟩, (fun _ h => absurd h List.not_mem_nil)⟩), (fun _ h => absurd h List.not_mem_nil)⟩
theorem ccWH {l : Launch} {D : va_G} {kp : Nat → ClassId} : ck_con l D kp ck_NN ceWH := ck_con_s (k := 76) rfl rpWH
theorem rpWI : ck_gcon ceWI := by
  intro σ E hgi hF hP hΦ
  have f0 : (0 : Int) ≤ 0 + (1 * σ 0 + 0) := hF _ (List.mem_of_getElem? (i := 0) rfl)
  have f1 : (0 : Int) ≤ (-1) + ((-1) * σ 0 + (1 * σ 1 + 0)) := hF _ (List.mem_of_getElem? (i := 1) rfl)
  have f2 : (0 : Int) ≤ (-1) + (1 * σ 2 + 0) := hF _ (List.mem_of_getElem? (i := 2) rfl)
  have p0 : ck_lk E 113 (0 + (1 * σ 1 + 0)) = 0 + (1 * σ 2 + 0) := (hP _ (List.mem_of_getElem? (i := 0) rfl)).2.2
  have q0 : (0 : Int) ≤ 0 + (1 * σ 1 + 0) := (hP _ (List.mem_of_getElem? (i := 0) rfl)).2.1
  have p1 : ck_lk E 76 (0 + (1 * σ 0 + 0)) = 0 + (1 * σ 3 + 0) := (hP _ (List.mem_of_getElem? (i := 1) rfl)).2.2
  have q1 : (0 : Int) ≤ 0 + (1 * σ 0 + 0) := (hP _ (List.mem_of_getElem? (i := 1) rfl)).2.1
  have p2 : ck_lk E 65 (0 + 0) = 0 + (1 * σ 4 + 0) := (hP _ (List.mem_of_getElem? (i := 2) rfl)).2.2
  have q2 : (0 : Int) ≤ 0 + 0 := (hP _ (List.mem_of_getElem? (i := 2) rfl)).2.1
  have key : ((0 : Int) ≤ (-1) + ((-1) * σ 3 + (1 * σ 4 + 0)) ∧ True) := by
    rw [ck_lk_v (by decide)] at p0
    have hp := cb_ge p0 (by omega)
    rw [kc (i := σ 0) (by decide) (by omega)] at p1
    rw [kc (i := 0) (by decide) (by decide)] at p2
    have := hp (σ 0) (by omega) (show σ 0 < 0 + (1 * σ 1 + 0) by omega)
    exact ⟨by omega, trivial⟩
  obtain ⟨k0, -⟩ := key
  exact ⟨_, (List.mem_of_getElem? (i := 0) rfl), σ, ck_ag_rf, (List.forall_mem_cons.mpr ⟨k0, (fun _ h => absurd h List.not_mem_nil)⟩), (fun f hf => ck_wb_ok (List.all_eq_true.mp (show List.all _ (ck_wb 5) = true from rfl) f hf)), trivial, (fun _ h => absurd h List.not_mem_nil), (fun _ h => absurd h List.not_mem_nil)⟩
theorem ccWI {l : Launch} {D : va_G} {kp : Nat → ClassId} : ck_con l D kp ck_NN ceWI := ck_con_g rfl rpWI
theorem rpW4 : ck_gcon ceW4 := by
  intro σ E hgi hF hP hΦ
  have f0 : (0 : Int) ≤ 0 + ((-1) * σ 0 + 0) := hF _ (List.mem_of_getElem? (i := 0) rfl)
  have f1 : (0 : Int) ≤ 0 + ((-1) * σ 1 + 0) := hF _ (List.mem_of_getElem? (i := 1) rfl)
  have p0 : ck_lk E 65 (4 + 0) = 0 + (1 * σ 0 + 0) := (hP _ (List.mem_of_getElem? (i := 0) rfl)).2.2
  have q0 : (0 : Int) ≤ 4 + 0 := (hP _ (List.mem_of_getElem? (i := 0) rfl)).2.1
  have p1 : ck_lk E 70 (9 + 0) = 0 + (1 * σ 1 + 0) := (hP _ (List.mem_of_getElem? (i := 1) rfl)).2.2
  have q1 : (0 : Int) ≤ 9 + 0 := (hP _ (List.mem_of_getElem? (i := 1) rfl)).2.1
  have key : (((0 : Int) ≤ 4 + 0 ∧ ck_lk E 108 (4 + 0) = 1 + 0) ∧ True) := by
    rw [kc (i := 4) (by decide) (by decide)] at p0
    rw [kc (i := 2 * 4 + 1) (by decide) (by decide)] at p1
    refine ⟨⟨by decide, ?_⟩, trivial⟩
    rw [k108 (c := 4) (by decide)]
    refine (cb_t ?_).trans rfl
    exact ⟨fun r i r0 r1 rx i0 i1 => by omega, fun k k0 k1 => by omega⟩
  obtain ⟨k0, -⟩ := key
  exact ⟨_, (List.mem_of_getElem? (i := 0) rfl), σ, ck_ag_rf, (fun _ h => absurd h List.not_mem_nil), (fun _ h => absurd h List.not_mem_nil), trivial, (List.forall_mem_cons.mpr ⟨⟨⟨ck_wb_ok rfl, ck_wb_ok rfl⟩, k0⟩, (fun _ h => absurd h List.not_mem_nil)⟩), (fun _ h => absurd h List.not_mem_nil)⟩
theorem ccW4 {l : Launch} {D : va_G} {kp : Nat → ClassId} : ck_con l D kp ck_NN ceW4 := ck_con_g rfl rpW4
theorem rpCLr : ck_gcon ceCLr := by
  intro σ E hgi hF hP hΦ
  have f0 : (0 : Int) ≤ (-1) + (1 * σ 0 + 0) := hF _ (List.mem_of_getElem? (i := 0) rfl)
  have f1 : (0 : Int) ≤ 1 + ((-1) * σ 0 + 0) := hF _ (List.mem_of_getElem? (i := 1) rfl)
  have f2 : (0 : Int) ≤ 0 + (1 * σ 6 + 0) := hF _ (List.mem_of_getElem? (i := 2) rfl)
  have f3 : (0 : Int) ≤ 0 + ((-1) * σ 6 + 0) := hF _ (List.mem_of_getElem? (i := 3) rfl)
  have f4 : (0 : Int) ≤ (-1) + (1 * σ 1 + 0) := hF _ (List.mem_of_getElem? (i := 4) rfl)
  have f5 : (0 : Int) ≤ 1 + ((-1) * σ 1 + 0) := hF _ (List.mem_of_getElem? (i := 5) rfl)
  have f6 : (0 : Int) ≤ (-1) + (1 * σ 7 + 0) := hF _ (List.mem_of_getElem? (i := 6) rfl)
  have f7 : (0 : Int) ≤ 1 + ((-1) * σ 7 + 0) := hF _ (List.mem_of_getElem? (i := 7) rfl)
  have f8 : (0 : Int) ≤ (-1) + (1 * σ 2 + 0) := hF _ (List.mem_of_getElem? (i := 8) rfl)
  have f9 : (0 : Int) ≤ 1 + ((-1) * σ 2 + 0) := hF _ (List.mem_of_getElem? (i := 9) rfl)
  have f10 : (0 : Int) ≤ (-2) + (1 * σ 8 + 0) := hF _ (List.mem_of_getElem? (i := 10) rfl)
  have f11 : (0 : Int) ≤ 2 + ((-1) * σ 8 + 0) := hF _ (List.mem_of_getElem? (i := 11) rfl)
  have f12 : (0 : Int) ≤ (-1) + (1 * σ 3 + 0) := hF _ (List.mem_of_getElem? (i := 12) rfl)
  have f13 : (0 : Int) ≤ 1 + ((-1) * σ 3 + 0) := hF _ (List.mem_of_getElem? (i := 13) rfl)
  have f14 : (0 : Int) ≤ (-3) + (1 * σ 9 + 0) := hF _ (List.mem_of_getElem? (i := 14) rfl)
  have f15 : (0 : Int) ≤ 3 + ((-1) * σ 9 + 0) := hF _ (List.mem_of_getElem? (i := 15) rfl)
  have f16 : (0 : Int) ≤ (-1) + (1 * σ 4 + 0) := hF _ (List.mem_of_getElem? (i := 16) rfl)
  have f17 : (0 : Int) ≤ 1 + ((-1) * σ 4 + 0) := hF _ (List.mem_of_getElem? (i := 17) rfl)
  have f18 : (0 : Int) ≤ (-4) + (1 * σ 10 + 0) := hF _ (List.mem_of_getElem? (i := 18) rfl)
  have f19 : (0 : Int) ≤ 4 + ((-1) * σ 10 + 0) := hF _ (List.mem_of_getElem? (i := 19) rfl)
  have f20 : (0 : Int) ≤ (-1) + (1 * σ 5 + 0) := hF _ (List.mem_of_getElem? (i := 20) rfl)
  have f21 : (0 : Int) ≤ 1 + ((-1) * σ 5 + 0) := hF _ (List.mem_of_getElem? (i := 21) rfl)
  have f22 : (0 : Int) ≤ (-5) + (1 * σ 11 + 0) := hF _ (List.mem_of_getElem? (i := 22) rfl)
  have f23 : (0 : Int) ≤ 5 + ((-1) * σ 11 + 0) := hF _ (List.mem_of_getElem? (i := 23) rfl)
  have f24 : (0 : Int) ≤ 0 + (1 * σ 12 + 0) := hF _ (List.mem_of_getElem? (i := 24) rfl)
  have f25 : (0 : Int) ≤ 0 + ((-1) * σ 12 + 0) := hF _ (List.mem_of_getElem? (i := 25) rfl)
  have p0 : ck_lk E 67 (24 + 0) = 0 + (1 * σ 0 + 0) := (hP _ (List.mem_of_getElem? (i := 0) rfl)).2.2
  have q0 : (0 : Int) ≤ 24 + 0 := (hP _ (List.mem_of_getElem? (i := 0) rfl)).2.1
  have p1 : ck_lk E 67 (25 + 0) = 0 + (1 * σ 1 + 0) := (hP _ (List.mem_of_getElem? (i := 1) rfl)).2.2
  have q1 : (0 : Int) ≤ 25 + 0 := (hP _ (List.mem_of_getElem? (i := 1) rfl)).2.1
  have p2 : ck_lk E 67 (26 + 0) = 0 + (1 * σ 2 + 0) := (hP _ (List.mem_of_getElem? (i := 2) rfl)).2.2
  have q2 : (0 : Int) ≤ 26 + 0 := (hP _ (List.mem_of_getElem? (i := 2) rfl)).2.1
  have p3 : ck_lk E 67 (27 + 0) = 0 + (1 * σ 3 + 0) := (hP _ (List.mem_of_getElem? (i := 3) rfl)).2.2
  have q3 : (0 : Int) ≤ 27 + 0 := (hP _ (List.mem_of_getElem? (i := 3) rfl)).2.1
  have p4 : ck_lk E 67 (28 + 0) = 0 + (1 * σ 4 + 0) := (hP _ (List.mem_of_getElem? (i := 4) rfl)).2.2
  have q4 : (0 : Int) ≤ 28 + 0 := (hP _ (List.mem_of_getElem? (i := 4) rfl)).2.1
  have p5 : ck_lk E 67 (29 + 0) = 0 + (1 * σ 5 + 0) := (hP _ (List.mem_of_getElem? (i := 5) rfl)).2.2
  have q5 : (0 : Int) ≤ 29 + 0 := (hP _ (List.mem_of_getElem? (i := 5) rfl)).2.1
  have p6 : ck_lk E 69 (192 + 0) = 0 + (1 * σ 6 + 0) := (hP _ (List.mem_of_getElem? (i := 6) rfl)).2.2
  have q6 : (0 : Int) ≤ 192 + 0 := (hP _ (List.mem_of_getElem? (i := 6) rfl)).2.1
  have p7 : ck_lk E 69 (200 + 0) = 0 + (1 * σ 7 + 0) := (hP _ (List.mem_of_getElem? (i := 7) rfl)).2.2
  have q7 : (0 : Int) ≤ 200 + 0 := (hP _ (List.mem_of_getElem? (i := 7) rfl)).2.1
  have p8 : ck_lk E 69 (208 + 0) = 0 + (1 * σ 8 + 0) := (hP _ (List.mem_of_getElem? (i := 8) rfl)).2.2
  have q8 : (0 : Int) ≤ 208 + 0 := (hP _ (List.mem_of_getElem? (i := 8) rfl)).2.1
  have p9 : ck_lk E 69 (216 + 0) = 0 + (1 * σ 9 + 0) := (hP _ (List.mem_of_getElem? (i := 9) rfl)).2.2
  have q9 : (0 : Int) ≤ 216 + 0 := (hP _ (List.mem_of_getElem? (i := 9) rfl)).2.1
  have p10 : ck_lk E 69 (224 + 0) = 0 + (1 * σ 10 + 0) := (hP _ (List.mem_of_getElem? (i := 10) rfl)).2.2
  have q10 : (0 : Int) ≤ 224 + 0 := (hP _ (List.mem_of_getElem? (i := 10) rfl)).2.1
  have p11 : ck_lk E 69 (232 + 0) = 0 + (1 * σ 11 + 0) := (hP _ (List.mem_of_getElem? (i := 11) rfl)).2.2
  have q11 : (0 : Int) ≤ 232 + 0 := (hP _ (List.mem_of_getElem? (i := 11) rfl)).2.1
  have p12 : ck_lk E 70 (9 + 0) = 0 + (1 * σ 12 + 0) := (hP _ (List.mem_of_getElem? (i := 12) rfl)).2.2
  have q12 : (0 : Int) ≤ 9 + 0 := (hP _ (List.mem_of_getElem? (i := 12) rfl)).2.1
  have key : (((0 : Int) ≤ 0 + 0 ∧ ck_lk E 110 (0 + 0) = 1 + 0) ∧ True) := by
    rw [kc (i := 24) (by decide) (by decide)] at p0
    rw [kc (i := 25) (by decide) (by decide)] at p1
    rw [kc (i := 26) (by decide) (by decide)] at p2
    rw [kc (i := 27) (by decide) (by decide)] at p3
    rw [kc (i := 28) (by decide) (by decide)] at p4
    rw [kc (i := 29) (by decide) (by decide)] at p5
    rw [kc (i := 192) (by decide) (by decide)] at p6
    rw [kc (i := 200) (by decide) (by decide)] at p7
    rw [kc (i := 208) (by decide) (by decide)] at p8
    rw [kc (i := 216) (by decide) (by decide)] at p9
    rw [kc (i := 224) (by decide) (by decide)] at p10
    rw [kc (i := 232) (by decide) (by decide)] at p11
    rw [kc (i := 9) (by decide) (by decide)] at p12
    refine ⟨⟨by decide, ?_⟩, trivial⟩
    rw [ck_lk_v (by decide)]
    refine (cb_t ?_).trans rfl
    refine ⟨fun r r0 r6 => ?_, by omega⟩
    have hr : r = 0 ∨ r = 1 ∨ r = 2 ∨ r = 3 ∨ r = 4 ∨ r = 5 := by omega
    rcases hr with rfl | rfl | rfl | rfl | rfl | rfl
    · show ck_loc (E 67) 24 = 1 ∧ ck_loc (E 69) 192 = 0
      omega
    · show ck_loc (E 67) 25 = 1 ∧ ck_loc (E 69) 200 = 1
      omega
    · show ck_loc (E 67) 26 = 1 ∧ ck_loc (E 69) 208 = 2
      omega
    · show ck_loc (E 67) 27 = 1 ∧ ck_loc (E 69) 216 = 3
      omega
    · show ck_loc (E 67) 28 = 1 ∧ ck_loc (E 69) 224 = 4
      omega
    · show ck_loc (E 67) 29 = 1 ∧ ck_loc (E 69) 232 = 5
      omega
  obtain ⟨k0, -⟩ := key
  exact ⟨_, (List.mem_of_getElem? (i := 0) rfl), σ, ck_ag_rf, (fun _ h => absurd h List.not_mem_nil), (fun _ h => absurd h List.not_mem_nil), trivial, (List.forall_mem_cons.mpr ⟨⟨⟨ck_wb_ok rfl, ck_wb_ok rfl⟩, k0⟩, (fun _ h => absurd h List.not_mem_nil)⟩), (fun _ h => absurd h List.not_mem_nil)⟩
theorem ccCLr {l : Launch} {D : va_G} {kp : Nat → ClassId} : ck_con l D kp ck_NN ceCLr := ck_con_g rfl rpCLr
theorem rpCU : ck_gcon ceCU := by
  intro σ E hgi hF hP hΦ
  have key : (∃ v0 : Int, (0 : Int) ≤ 0 + (1 * v0 + 0) ∧ (0 : Int) ≤ 1 + ((-1) * v0 + 0) ∧ ((0 : Int) ≤ 0 + 0 ∧ ck_lk E 110 (0 + 0) = 0 + (1 * v0 + 0)) ∧ True) := by
    have hb : 0 ≤ ck_lk E 110 (0 + 0) ∧ ck_lk E 110 (0 + 0) ≤ 1 := by rw [ck_lk_v (by decide)]; exact cb_le _
    exact ⟨ck_lk E 110 (0 + 0), by omega, by omega, ⟨by decide, by omega⟩, trivial⟩
  obtain ⟨v0, k0, k1, k2, -⟩ := key
  exact ⟨_, (List.mem_of_getElem? (i := 0) rfl), (fun i => if i = 0 then v0 else σ i), (fun i hi => by show (if i = 0 then v0 else σ i) = σ i; rw [if_neg (show ¬ i = 0 by have : i < 0 := hi; omega)]), (List.forall_mem_cons.mpr ⟨k0, (List.forall_mem_cons.mpr ⟨k1, (fun _ h => absurd h List.not_mem_nil)⟩)⟩), (fun f hf => ck_wb_ok (List.all_eq_true.mp (show List.all _ (ck_wb 1) = true from rfl) f hf)), trivial, (List.forall_mem_cons.mpr ⟨⟨⟨ck_wb_ok rfl, ck_wb_ok rfl⟩, k2⟩, (fun _ h => absurd h List.not_mem_nil)⟩), (fun _ h => absurd h List.not_mem_nil)⟩
theorem ccCU {l : Launch} {D : va_G} {kp : Nat → ClassId} : ck_con l D kp ck_NN ceCU := ck_con_g rfl rpCU
theorem rpWB : ck_scon ceWB 65 := by
  intro σ E e' idx v hargs hgi hF hP hΦ hgi2 h0 l1 l2
  cases hargs
  have h0 : (0 : Int) ≤ 4 + 0 := h0
  have l1 : ck_loc e' (4 + 0) = 0 + (1 * σ 0 + 0) := l1
  have l2 : ∀ j, 0 ≤ j → ¬ j = 4 + 0 → ck_loc e' j = ck_loc (E 65) j := l2
  have f0 : (0 : Int) ≤ (-1) + (1 * σ 0 + 0) := hF _ (List.mem_of_getElem? (i := 0) rfl)
  have f1 : (0 : Int) ≤ 6 + ((-1) * σ 0 + 0) := hF _ (List.mem_of_getElem? (i := 1) rfl)
  have f2 : (0 : Int) ≤ (-1) + (1 * σ 6 + 0) := hF _ (List.mem_of_getElem? (i := 2) rfl)
  have p0 : ck_lk E 108 (0 + 0) = 0 + (1 * σ 1 + 0) := (hP _ (List.mem_of_getElem? (i := 0) rfl)).2.2
  have q0 : (0 : Int) ≤ 0 + 0 := (hP _ (List.mem_of_getElem? (i := 0) rfl)).2.1
  have p1 : ck_lk E 108 (1 + 0) = 0 + (1 * σ 2 + 0) := (hP _ (List.mem_of_getElem? (i := 1) rfl)).2.2
  have q1 : (0 : Int) ≤ 1 + 0 := (hP _ (List.mem_of_getElem? (i := 1) rfl)).2.1
  have p2 : ck_lk E 108 (2 + 0) = 0 + (1 * σ 3 + 0) := (hP _ (List.mem_of_getElem? (i := 2) rfl)).2.2
  have q2 : (0 : Int) ≤ 2 + 0 := (hP _ (List.mem_of_getElem? (i := 2) rfl)).2.1
  have p3 : ck_lk E 108 (3 + 0) = 0 + (1 * σ 4 + 0) := (hP _ (List.mem_of_getElem? (i := 3) rfl)).2.2
  have q3 : (0 : Int) ≤ 3 + 0 := (hP _ (List.mem_of_getElem? (i := 3) rfl)).2.1
  have p4 : ck_lk E 108 (5 + 0) = 0 + (1 * σ 5 + 0) := (hP _ (List.mem_of_getElem? (i := 4) rfl)).2.2
  have q4 : (0 : Int) ≤ 5 + 0 := (hP _ (List.mem_of_getElem? (i := 4) rfl)).2.1
  have p5 : ck_lk E 110 (0 + 0) = 0 + (1 * σ 6 + 0) := (hP _ (List.mem_of_getElem? (i := 5) rfl)).2.2
  have q5 : (0 : Int) ≤ 0 + 0 := (hP _ (List.mem_of_getElem? (i := 5) rfl)).2.1
  have key : (((0 : Int) ≤ 0 + 0 ∧ ck_lk (va_up E 65 e') 108 (0 + 0) = 0 + (1 * σ 1 + 0)) ∧ ((0 : Int) ≤ 1 + 0 ∧ ck_lk (va_up E 65 e') 108 (1 + 0) = 0 + (1 * σ 2 + 0)) ∧ ((0 : Int) ≤ 2 + 0 ∧ ck_lk (va_up E 65 e') 108 (2 + 0) = 0 + (1 * σ 3 + 0)) ∧ ((0 : Int) ≤ 3 + 0 ∧ ck_lk (va_up E 65 e') 108 (3 + 0) = 0 + (1 * σ 4 + 0)) ∧ ((0 : Int) ≤ 5 + 0 ∧ ck_lk (va_up E 65 e') 108 (5 + 0) = 0 + (1 * σ 5 + 0)) ∧ ((0 : Int) ≤ 4 + 0 ∧ ck_lk (va_up E 65 e') 108 (4 + 0) = 1 + 0) ∧ True) := by
    rw [ck_lk_v (by decide)] at p5
    obtain ⟨hc, hz⟩ := cb_ge p5 (by omega)
    refine ⟨⟨by decide, ?_⟩, ⟨by decide, ?_⟩, ⟨by decide, ?_⟩, ⟨by decide, ?_⟩, ⟨by decide, ?_⟩, ⟨by decide, ?_⟩, trivial⟩
    · rw [k108 (c := 0) (by decide)] at p0
      rw [k108 (c := 0) (by decide), vf_wx_st hgi hgi2 (by decide) (by decide) l2 ⟨fun _ => by omega, fun q => absurd q (by decide), fun q => absurd q (by decide), fun q => absurd q (by decide), fun q => absurd q (by decide)⟩]
      exact p0
    · rw [k108 (c := 1) (by decide)] at p1
      rw [k108 (c := 1) (by decide), vf_wx_st hgi hgi2 (by decide) (by decide) l2 ⟨fun _ => by omega, fun q => absurd q (by decide), fun q => absurd q (by decide), fun q => absurd q (by decide), fun q => absurd q (by decide)⟩]
      exact p1
    · rw [k108 (c := 2) (by decide)] at p2
      rw [k108 (c := 2) (by decide), vf_wx_st hgi hgi2 (by decide) (by decide) l2 ⟨fun _ => by omega, fun q => absurd q (by decide), fun q => absurd q (by decide), fun q => absurd q (by decide), fun q => absurd q (by decide)⟩]
      exact p2
    · rw [k108 (c := 3) (by decide)] at p3
      rw [k108 (c := 3) (by decide), vf_wx_st hgi hgi2 (by decide) (by decide) l2 ⟨fun _ => by omega, fun q => absurd q (by decide), fun q => absurd q (by decide), fun q => absurd q (by decide), fun q => absurd q (by decide)⟩]
      exact p3
    · rw [k108 (c := 5) (by decide)] at p4
      rw [k108 (c := 5) (by decide), vf_wx_st hgi hgi2 (by decide) (by decide) l2 ⟨fun _ => by omega, fun q => absurd q (by decide), fun q => absurd q (by decide), fun q => absurd q (by decide), fun q => absurd q (by decide)⟩]
      exact p4
    · rw [k108 (c := 4) (by decide)]
      refine (cb_t ?_).trans rfl
      have l1 : ck_loc e' 4 = 0 + (1 * σ 0 + 0) := l1
      refine ⟨fun r i r0 r1 rx i0 i1 => ?_, fun k k0 k1 => ?_⟩
      · rw [va_up_self, l1] at r1 ⊢
        rw [un (j := 67) (by decide), show (6 * 4 + r : Int) = 24 + r by omega, (hc r r0 (by omega)).1] at i1
        rw [un (j := 69) (by decide), show (48 * 4 + 8 * r + i : Int) = 192 + 8 * r by omega, (hc r r0 (by omega)).2]
        exact r1
      · rw [un (j := 70) (by decide), show (2 * 4 + 1 : Int) = 9 by decide, hz] at k1
        omega
  obtain ⟨k0, k1, k2, k3, k4, k5, -⟩ := key
  exact ⟨_, (List.mem_of_getElem? (i := 0) rfl), σ, ck_ag_rf, (fun _ h => absurd h List.not_mem_nil), (fun _ h => absurd h List.not_mem_nil), trivial, (List.forall_mem_cons.mpr ⟨⟨⟨ck_wb_ok rfl, ck_wb_ok rfl⟩, k0⟩, (List.forall_mem_cons.mpr ⟨⟨⟨ck_wb_ok rfl, ck_wb_ok rfl⟩, k1⟩, (List.forall_mem_cons.mpr ⟨⟨⟨ck_wb_ok rfl, ck_wb_ok rfl⟩, k2⟩, (List.forall_mem_cons.mpr ⟨⟨⟨ck_wb_ok rfl, ck_wb_ok rfl⟩, k3⟩, (List.forall_mem_cons.mpr ⟨⟨⟨ck_wb_ok rfl, ck_wb_ok rfl⟩, k4⟩, (List.forall_mem_cons.mpr ⟨⟨⟨ck_wb_ok rfl, ck_wb_ok rfl⟩, k5⟩, (fun _ h => absurd h List.not_mem_nil)⟩)⟩)⟩)⟩)⟩)⟩), (fun _ h => absurd h List.not_mem_nil)⟩
theorem ccWB {l : Launch} {D : va_G} {kp : Nat → ClassId} : ck_con l D kp ck_NN ceWB := ck_con_s (k := 65) rfl rpWB
theorem rpWL : ck_scon ceWL 72 := by
  intro σ E e' idx v hargs hgi hF hP hΦ hgi2 h0 l1 l2
  cases hargs
  have h0 : (0 : Int) ≤ 0 + (1 * σ 0 + 0) := h0
  have l1 : ck_loc e' (0 + (1 * σ 0 + 0)) = 0 + (1 * σ 1 + 0) := l1
  have l2 : ∀ j, 0 ≤ j → ¬ j = 0 + (1 * σ 0 + 0) → ck_loc e' j = ck_loc (E 72) j := l2
  have f0 : (0 : Int) ≤ (-96) + (1 * σ 0 + ((-3) * σ 8 + 0)) := hF _ (List.mem_of_getElem? (i := 0) rfl)
  have f1 : (0 : Int) ≤ 119 + ((-1) * σ 0 + 0) := hF _ (List.mem_of_getElem? (i := 1) rfl)
  have f2 : (0 : Int) ≤ (-1) + (1 * σ 6 + 0) := hF _ (List.mem_of_getElem? (i := 2) rfl)
  have p0 : ck_lk E 108 (0 + 0) = 0 + (1 * σ 2 + 0) := (hP _ (List.mem_of_getElem? (i := 0) rfl)).2.2
  have q0 : (0 : Int) ≤ 0 + 0 := (hP _ (List.mem_of_getElem? (i := 0) rfl)).2.1
  have p1 : ck_lk E 108 (1 + 0) = 0 + (1 * σ 3 + 0) := (hP _ (List.mem_of_getElem? (i := 1) rfl)).2.2
  have q1 : (0 : Int) ≤ 1 + 0 := (hP _ (List.mem_of_getElem? (i := 1) rfl)).2.1
  have p2 : ck_lk E 108 (2 + 0) = 0 + (1 * σ 4 + 0) := (hP _ (List.mem_of_getElem? (i := 2) rfl)).2.2
  have q2 : (0 : Int) ≤ 2 + 0 := (hP _ (List.mem_of_getElem? (i := 2) rfl)).2.1
  have p3 : ck_lk E 108 (3 + 0) = 0 + (1 * σ 5 + 0) := (hP _ (List.mem_of_getElem? (i := 3) rfl)).2.2
  have q3 : (0 : Int) ≤ 3 + 0 := (hP _ (List.mem_of_getElem? (i := 3) rfl)).2.1
  have p4 : ck_lk E 108 (4 + 0) = 0 + (1 * σ 6 + 0) := (hP _ (List.mem_of_getElem? (i := 4) rfl)).2.2
  have q4 : (0 : Int) ≤ 4 + 0 := (hP _ (List.mem_of_getElem? (i := 4) rfl)).2.1
  have p5 : ck_lk E 108 (5 + 0) = 0 + (1 * σ 7 + 0) := (hP _ (List.mem_of_getElem? (i := 5) rfl)).2.2
  have q5 : (0 : Int) ≤ 5 + 0 := (hP _ (List.mem_of_getElem? (i := 5) rfl)).2.1
  have p6 : ck_lk E 70 (9 + 0) = 0 + (1 * σ 8 + 0) := (hP _ (List.mem_of_getElem? (i := 6) rfl)).2.2
  have q6 : (0 : Int) ≤ 9 + 0 := (hP _ (List.mem_of_getElem? (i := 6) rfl)).2.1
  have key : (((0 : Int) ≤ 0 + 0 ∧ ck_lk (va_up E 72 e') 108 (0 + 0) = 0 + (1 * σ 2 + 0)) ∧ ((0 : Int) ≤ 1 + 0 ∧ ck_lk (va_up E 72 e') 108 (1 + 0) = 0 + (1 * σ 3 + 0)) ∧ ((0 : Int) ≤ 2 + 0 ∧ ck_lk (va_up E 72 e') 108 (2 + 0) = 0 + (1 * σ 4 + 0)) ∧ ((0 : Int) ≤ 3 + 0 ∧ ck_lk (va_up E 72 e') 108 (3 + 0) = 0 + (1 * σ 5 + 0)) ∧ ((0 : Int) ≤ 4 + 0 ∧ ck_lk (va_up E 72 e') 108 (4 + 0) = 1 + 0) ∧ ((0 : Int) ≤ 5 + 0 ∧ ck_lk (va_up E 72 e') 108 (5 + 0) = 0 + (1 * σ 7 + 0)) ∧ True) := by
    have b7 := vf_70 hgi (c := 4) (by decide) (by decide)
    rw [kc (i := 2 * 4 + 1) (by decide) (by decide)] at p6
    refine ⟨⟨by decide, ?_⟩, ⟨by decide, ?_⟩, ⟨by decide, ?_⟩, ⟨by decide, ?_⟩, ⟨by decide, ?_⟩, ⟨by decide, ?_⟩, trivial⟩
    · rw [k108 (c := 0) (by decide)] at p0
      rw [k108 (c := 0) (by decide), vf_wx_st hgi hgi2 (by decide) (by decide) l2 ⟨fun q => absurd q (by decide), fun q => absurd q (by decide), fun q => absurd q (by decide), fun q => absurd q (by decide), fun _ => by omega⟩]
      exact p0
    · rw [k108 (c := 1) (by decide)] at p1
      rw [k108 (c := 1) (by decide), vf_wx_st hgi hgi2 (by decide) (by decide) l2 ⟨fun q => absurd q (by decide), fun q => absurd q (by decide), fun q => absurd q (by decide), fun q => absurd q (by decide), fun _ => by omega⟩]
      exact p1
    · rw [k108 (c := 2) (by decide)] at p2
      rw [k108 (c := 2) (by decide), vf_wx_st hgi hgi2 (by decide) (by decide) l2 ⟨fun q => absurd q (by decide), fun q => absurd q (by decide), fun q => absurd q (by decide), fun q => absurd q (by decide), fun _ => by omega⟩]
      exact p2
    · rw [k108 (c := 3) (by decide)] at p3
      rw [k108 (c := 3) (by decide), vf_wx_st hgi hgi2 (by decide) (by decide) l2 ⟨fun q => absurd q (by decide), fun q => absurd q (by decide), fun q => absurd q (by decide), fun q => absurd q (by decide), fun _ => by omega⟩]
      exact p3
    · rw [k108 (c := 4) (by decide)] at p4
      obtain ⟨ha, hl⟩ := cb_ge p4 (by omega)
      rw [k108 (c := 4) (by decide)]
      refine (cb_t ?_).trans rfl
      refine ⟨?_, fun k k0 k1 => ?_⟩
      · rw [un (j := 65) (by decide), un (j := 67) (by decide), un (j := 69) (by decide)]; exact ha
      · rw [un (j := 70) (by decide)] at k1
        rw [va_up_self, un (j := 65) (by decide), l2 (24 * 4 + 3 * k) (by omega) (by omega), l2 (24 * 4 + 3 * k + 2) (by omega) (by omega)]
        exact hl k k0 k1
    · rw [k108 (c := 5) (by decide)] at p5
      rw [k108 (c := 5) (by decide), vf_wx_st hgi hgi2 (by decide) (by decide) l2 ⟨fun q => absurd q (by decide), fun q => absurd q (by decide), fun q => absurd q (by decide), fun q => absurd q (by decide), fun _ => by omega⟩]
      exact p5
  obtain ⟨k0, k1, k2, k3, k4, k5, -⟩ := key
  exact ⟨_, (List.mem_of_getElem? (i := 0) rfl), σ, ck_ag_rf, (fun _ h => absurd h List.not_mem_nil), (fun _ h => absurd h List.not_mem_nil), trivial, (List.forall_mem_cons.mpr ⟨⟨⟨ck_wb_ok rfl, ck_wb_ok rfl⟩, k0⟩, (List.forall_mem_cons.mpr ⟨⟨⟨ck_wb_ok rfl, ck_wb_ok rfl⟩, k1⟩, (List.forall_mem_cons.mpr ⟨⟨⟨ck_wb_ok rfl, ck_wb_ok rfl⟩, k2⟩, (List.forall_mem_cons.mpr ⟨⟨⟨ck_wb_ok rfl, ck_wb_ok rfl⟩, k3⟩, (List.forall_mem_cons.mpr ⟨⟨⟨ck_wb_ok rfl, ck_wb_ok rfl⟩, k4⟩, (List.forall_mem_cons.mpr ⟨⟨⟨ck_wb_ok rfl, ck_wb_ok rfl⟩, k5⟩, (fun _ h => absurd h List.not_mem_nil)⟩)⟩)⟩)⟩)⟩)⟩), (fun _ h => absurd h List.not_mem_nil)⟩
theorem ccWL {l : Launch} {D : va_G} {kp : Nat → ClassId} : ck_con l D kp ck_NN ceWL := ck_con_s (k := 72) rfl rpWL
theorem rpWN : ck_scon ceWN 70 := by
  intro σ E e' idx v hargs hgi hF hP hΦ hgi2 h0 l1 l2
  cases hargs
  have h0 : (0 : Int) ≤ 9 + 0 := h0
  have l1 : ck_loc e' (9 + 0) = 0 + (1 * σ 0 + 0) := l1
  have l2 : ∀ j, 0 ≤ j → ¬ j = 9 + 0 → ck_loc e' j = ck_loc (E 70) j := l2
  have f0 : (0 : Int) ≤ (-1) + (1 * σ 0 + ((-1) * σ 8 + 0)) := hF _ (List.mem_of_getElem? (i := 0) rfl)
  have f1 : (0 : Int) ≤ 1 + ((-1) * σ 0 + (1 * σ 8 + 0)) := hF _ (List.mem_of_getElem? (i := 1) rfl)
  have f2 : (0 : Int) ≤ 0 + (1 * σ 8 + 0) := hF _ (List.mem_of_getElem? (i := 2) rfl)
  have f3 : (0 : Int) ≤ 7 + ((-1) * σ 8 + 0) := hF _ (List.mem_of_getElem? (i := 3) rfl)
  have f4 : (0 : Int) ≤ (-1) + (1 * σ 5 + 0) := hF _ (List.mem_of_getElem? (i := 4) rfl)
  have f5 : (0 : Int) ≤ (-1) + (1 * σ 7 + ((-1) * σ 9 + 0)) := hF _ (List.mem_of_getElem? (i := 5) rfl)
  have f6 : (0 : Int) ≤ (-1) + (1 * σ 7 + ((-1) * σ 10 + 0)) := hF _ (List.mem_of_getElem? (i := 6) rfl)
  have p0 : ck_lk E 108 (0 + 0) = 0 + (1 * σ 1 + 0) := (hP _ (List.mem_of_getElem? (i := 0) rfl)).2.2
  have q0 : (0 : Int) ≤ 0 + 0 := (hP _ (List.mem_of_getElem? (i := 0) rfl)).2.1
  have p1 : ck_lk E 108 (1 + 0) = 0 + (1 * σ 2 + 0) := (hP _ (List.mem_of_getElem? (i := 1) rfl)).2.2
  have q1 : (0 : Int) ≤ 1 + 0 := (hP _ (List.mem_of_getElem? (i := 1) rfl)).2.1
  have p2 : ck_lk E 108 (2 + 0) = 0 + (1 * σ 3 + 0) := (hP _ (List.mem_of_getElem? (i := 2) rfl)).2.2
  have q2 : (0 : Int) ≤ 2 + 0 := (hP _ (List.mem_of_getElem? (i := 2) rfl)).2.1
  have p3 : ck_lk E 108 (3 + 0) = 0 + (1 * σ 4 + 0) := (hP _ (List.mem_of_getElem? (i := 3) rfl)).2.2
  have q3 : (0 : Int) ≤ 3 + 0 := (hP _ (List.mem_of_getElem? (i := 3) rfl)).2.1
  have p4 : ck_lk E 108 (4 + 0) = 0 + (1 * σ 5 + 0) := (hP _ (List.mem_of_getElem? (i := 4) rfl)).2.2
  have q4 : (0 : Int) ≤ 4 + 0 := (hP _ (List.mem_of_getElem? (i := 4) rfl)).2.1
  have p5 : ck_lk E 108 (5 + 0) = 0 + (1 * σ 6 + 0) := (hP _ (List.mem_of_getElem? (i := 5) rfl)).2.2
  have q5 : (0 : Int) ≤ 5 + 0 := (hP _ (List.mem_of_getElem? (i := 5) rfl)).2.1
  have p6 : ck_lk E 65 (4 + 0) = 0 + (1 * σ 7 + 0) := (hP _ (List.mem_of_getElem? (i := 6) rfl)).2.2
  have q6 : (0 : Int) ≤ 4 + 0 := (hP _ (List.mem_of_getElem? (i := 6) rfl)).2.1
  have p7 : ck_lk E 70 (9 + 0) = 0 + (1 * σ 8 + 0) := (hP _ (List.mem_of_getElem? (i := 7) rfl)).2.2
  have q7 : (0 : Int) ≤ 9 + 0 := (hP _ (List.mem_of_getElem? (i := 7) rfl)).2.1
  have p8 : ck_lk E 72 (96 + (3 * σ 8 + 0)) = 0 + (1 * σ 9 + 0) := (hP _ (List.mem_of_getElem? (i := 8) rfl)).2.2
  have q8 : (0 : Int) ≤ 96 + (3 * σ 8 + 0) := (hP _ (List.mem_of_getElem? (i := 8) rfl)).2.1
  have p9 : ck_lk E 72 (98 + (3 * σ 8 + 0)) = 0 + (1 * σ 10 + 0) := (hP _ (List.mem_of_getElem? (i := 9) rfl)).2.2
  have q9 : (0 : Int) ≤ 98 + (3 * σ 8 + 0) := (hP _ (List.mem_of_getElem? (i := 9) rfl)).2.1
  have key : (((0 : Int) ≤ 0 + 0 ∧ ck_lk (va_up E 70 e') 108 (0 + 0) = 0 + (1 * σ 1 + 0)) ∧ ((0 : Int) ≤ 1 + 0 ∧ ck_lk (va_up E 70 e') 108 (1 + 0) = 0 + (1 * σ 2 + 0)) ∧ ((0 : Int) ≤ 2 + 0 ∧ ck_lk (va_up E 70 e') 108 (2 + 0) = 0 + (1 * σ 3 + 0)) ∧ ((0 : Int) ≤ 3 + 0 ∧ ck_lk (va_up E 70 e') 108 (3 + 0) = 0 + (1 * σ 4 + 0)) ∧ ((0 : Int) ≤ 4 + 0 ∧ ck_lk (va_up E 70 e') 108 (4 + 0) = 1 + 0) ∧ ((0 : Int) ≤ 5 + 0 ∧ ck_lk (va_up E 70 e') 108 (5 + 0) = 0 + (1 * σ 6 + 0)) ∧ True) := by
    rw [kc (i := 4) (by decide) (by decide)] at p6
    rw [kc (i := 2 * 4 + 1) (by decide) (by decide)] at p7
    rw [kc (i := 24 * 4 + 3 * σ 8) (by decide) (by omega)] at p8
    rw [kc (i := 24 * 4 + 3 * σ 8 + 2) (by decide) (by omega)] at p9
    have l1 : ck_loc e' (2 * 4 + 1) = 0 + (1 * σ 0 + 0) := l1
    refine ⟨⟨by decide, ?_⟩, ⟨by decide, ?_⟩, ⟨by decide, ?_⟩, ⟨by decide, ?_⟩, ⟨by decide, ?_⟩, ⟨by decide, ?_⟩, trivial⟩
    · rw [k108 (c := 0) (by decide)] at p0
      rw [k108 (c := 0) (by decide), vf_wx_st hgi hgi2 (by decide) (by decide) l2 ⟨fun q => absurd q (by decide), fun q => absurd q (by decide), fun q => absurd q (by decide), fun _ => by omega, fun q => absurd q (by decide)⟩]
      exact p0
    · rw [k108 (c := 1) (by decide)] at p1
      rw [k108 (c := 1) (by decide), vf_wx_st hgi hgi2 (by decide) (by decide) l2 ⟨fun q => absurd q (by decide), fun q => absurd q (by decide), fun q => absurd q (by decide), fun _ => by omega, fun q => absurd q (by decide)⟩]
      exact p1
    · rw [k108 (c := 2) (by decide)] at p2
      rw [k108 (c := 2) (by decide), vf_wx_st hgi hgi2 (by decide) (by decide) l2 ⟨fun q => absurd q (by decide), fun q => absurd q (by decide), fun q => absurd q (by decide), fun _ => by omega, fun q => absurd q (by decide)⟩]
      exact p2
    · rw [k108 (c := 3) (by decide)] at p3
      rw [k108 (c := 3) (by decide), vf_wx_st hgi hgi2 (by decide) (by decide) l2 ⟨fun q => absurd q (by decide), fun q => absurd q (by decide), fun q => absurd q (by decide), fun _ => by omega, fun q => absurd q (by decide)⟩]
      exact p3
    · rw [k108 (c := 4) (by decide)] at p4
      obtain ⟨ha, hl⟩ := cb_ge p4 (by omega)
      rw [k108 (c := 4) (by decide)]
      refine (cb_t ?_).trans rfl
      refine ⟨?_, fun k k0 k1 => ?_⟩
      · rw [un (j := 65) (by decide), un (j := 67) (by decide), un (j := 69) (by decide)]; exact ha
      · rw [va_up_self, l1] at k1
        rw [un (j := 72) (by decide), un (j := 65) (by decide)]
        by_cases hk : k = σ 8
        · rw [hk]; omega
        · exact hl k k0 (by omega)
    · rw [k108 (c := 5) (by decide)] at p5
      rw [k108 (c := 5) (by decide), vf_wx_st hgi hgi2 (by decide) (by decide) l2 ⟨fun q => absurd q (by decide), fun q => absurd q (by decide), fun q => absurd q (by decide), fun _ => by omega, fun q => absurd q (by decide)⟩]
      exact p5
  obtain ⟨k0, k1, k2, k3, k4, k5, -⟩ := key
  exact ⟨_, (List.mem_of_getElem? (i := 0) rfl), σ, ck_ag_rf, (fun _ h => absurd h List.not_mem_nil), (fun _ h => absurd h List.not_mem_nil), trivial, (List.forall_mem_cons.mpr ⟨⟨⟨ck_wb_ok rfl, ck_wb_ok rfl⟩, k0⟩, (List.forall_mem_cons.mpr ⟨⟨⟨ck_wb_ok rfl, ck_wb_ok rfl⟩, k1⟩, (List.forall_mem_cons.mpr ⟨⟨⟨ck_wb_ok rfl, ck_wb_ok rfl⟩, k2⟩, (List.forall_mem_cons.mpr ⟨⟨⟨ck_wb_ok rfl, ck_wb_ok rfl⟩, k3⟩, (List.forall_mem_cons.mpr ⟨⟨⟨ck_wb_ok rfl, ck_wb_ok rfl⟩, k4⟩, (List.forall_mem_cons.mpr ⟨⟨⟨ck_wb_ok rfl, ck_wb_ok rfl⟩, k5⟩, (fun _ h => absurd h List.not_mem_nil)⟩)⟩)⟩)⟩)⟩)⟩), (fun _ h => absurd h List.not_mem_nil)⟩
theorem ccWN {l : Launch} {D : va_G} {kp : Nat → ClassId} : ck_con l D kp ck_NN ceWN := ck_con_s (k := 70) rfl rpWN
theorem rpWK8 : ck_scon ceWK8 70 := by
  intro σ E e' idx v hargs hgi hF hP hΦ hgi2 h0 l1 l2
  cases hargs
  have h0 : (0 : Int) ≤ 8 + 0 := h0
  have l1 : ck_loc e' (8 + 0) = 0 + (1 * σ 0 + 0) := l1
  have l2 : ∀ j, 0 ≤ j → ¬ j = 8 + 0 → ck_loc e' j = ck_loc (E 70) j := l2
  have f0 : (0 : Int) ≤ (-1) + (1 * σ 5 + 0) := hF _ (List.mem_of_getElem? (i := 0) rfl)
  have p0 : ck_lk E 108 (0 + 0) = 0 + (1 * σ 1 + 0) := (hP _ (List.mem_of_getElem? (i := 0) rfl)).2.2
  have q0 : (0 : Int) ≤ 0 + 0 := (hP _ (List.mem_of_getElem? (i := 0) rfl)).2.1
  have p1 : ck_lk E 108 (1 + 0) = 0 + (1 * σ 2 + 0) := (hP _ (List.mem_of_getElem? (i := 1) rfl)).2.2
  have q1 : (0 : Int) ≤ 1 + 0 := (hP _ (List.mem_of_getElem? (i := 1) rfl)).2.1
  have p2 : ck_lk E 108 (2 + 0) = 0 + (1 * σ 3 + 0) := (hP _ (List.mem_of_getElem? (i := 2) rfl)).2.2
  have q2 : (0 : Int) ≤ 2 + 0 := (hP _ (List.mem_of_getElem? (i := 2) rfl)).2.1
  have p3 : ck_lk E 108 (3 + 0) = 0 + (1 * σ 4 + 0) := (hP _ (List.mem_of_getElem? (i := 3) rfl)).2.2
  have q3 : (0 : Int) ≤ 3 + 0 := (hP _ (List.mem_of_getElem? (i := 3) rfl)).2.1
  have p4 : ck_lk E 108 (4 + 0) = 0 + (1 * σ 5 + 0) := (hP _ (List.mem_of_getElem? (i := 4) rfl)).2.2
  have q4 : (0 : Int) ≤ 4 + 0 := (hP _ (List.mem_of_getElem? (i := 4) rfl)).2.1
  have p5 : ck_lk E 108 (5 + 0) = 0 + (1 * σ 6 + 0) := (hP _ (List.mem_of_getElem? (i := 5) rfl)).2.2
  have q5 : (0 : Int) ≤ 5 + 0 := (hP _ (List.mem_of_getElem? (i := 5) rfl)).2.1
  have key : (((0 : Int) ≤ 0 + 0 ∧ ck_lk (va_up E 70 e') 108 (0 + 0) = 0 + (1 * σ 1 + 0)) ∧ ((0 : Int) ≤ 1 + 0 ∧ ck_lk (va_up E 70 e') 108 (1 + 0) = 0 + (1 * σ 2 + 0)) ∧ ((0 : Int) ≤ 2 + 0 ∧ ck_lk (va_up E 70 e') 108 (2 + 0) = 0 + (1 * σ 3 + 0)) ∧ ((0 : Int) ≤ 3 + 0 ∧ ck_lk (va_up E 70 e') 108 (3 + 0) = 0 + (1 * σ 4 + 0)) ∧ ((0 : Int) ≤ 4 + 0 ∧ ck_lk (va_up E 70 e') 108 (4 + 0) = 1 + 0) ∧ ((0 : Int) ≤ 5 + 0 ∧ ck_lk (va_up E 70 e') 108 (5 + 0) = 0 + (1 * σ 6 + 0)) ∧ True) := by
    have l2 : ∀ j, 0 ≤ j → ¬ j = 8 → ck_loc e' j = ck_loc (E 70) j := l2
    refine ⟨⟨by decide, ?_⟩, ⟨by decide, ?_⟩, ⟨by decide, ?_⟩, ⟨by decide, ?_⟩, ⟨by decide, ?_⟩, ⟨by decide, ?_⟩, trivial⟩
    · rw [k108 (c := 0) (by decide)] at p0
      rw [k108 (c := 0) (by decide), vf_wx_st hgi hgi2 (by decide) (by decide) l2 ⟨fun q => absurd q (by decide), fun q => absurd q (by decide), fun q => absurd q (by decide), fun _ => by omega, fun q => absurd q (by decide)⟩]
      exact p0
    · rw [k108 (c := 1) (by decide)] at p1
      rw [k108 (c := 1) (by decide), vf_wx_st hgi hgi2 (by decide) (by decide) l2 ⟨fun q => absurd q (by decide), fun q => absurd q (by decide), fun q => absurd q (by decide), fun _ => by omega, fun q => absurd q (by decide)⟩]
      exact p1
    · rw [k108 (c := 2) (by decide)] at p2
      rw [k108 (c := 2) (by decide), vf_wx_st hgi hgi2 (by decide) (by decide) l2 ⟨fun q => absurd q (by decide), fun q => absurd q (by decide), fun q => absurd q (by decide), fun _ => by omega, fun q => absurd q (by decide)⟩]
      exact p2
    · rw [k108 (c := 3) (by decide)] at p3
      rw [k108 (c := 3) (by decide), vf_wx_st hgi hgi2 (by decide) (by decide) l2 ⟨fun q => absurd q (by decide), fun q => absurd q (by decide), fun q => absurd q (by decide), fun _ => by omega, fun q => absurd q (by decide)⟩]
      exact p3
    · rw [k108 (c := 4) (by decide)] at p4
      rw [k108 (c := 4) (by decide), vf_wx_st hgi hgi2 (by decide) (by decide) l2 ⟨fun q => absurd q (by decide), fun q => absurd q (by decide), fun q => absurd q (by decide), fun _ => by omega, fun q => absurd q (by decide)⟩]
      have b9 := cb_le (vf_wx E 4 (-1))
      omega
    · rw [k108 (c := 5) (by decide)] at p5
      rw [k108 (c := 5) (by decide), vf_wx_st hgi hgi2 (by decide) (by decide) l2 ⟨fun q => absurd q (by decide), fun q => absurd q (by decide), fun q => absurd q (by decide), fun _ => by omega, fun q => absurd q (by decide)⟩]
      exact p5
  obtain ⟨k0, k1, k2, k3, k4, k5, -⟩ := key
  exact ⟨_, (List.mem_of_getElem? (i := 0) rfl), σ, ck_ag_rf, (fun _ h => absurd h List.not_mem_nil), (fun _ h => absurd h List.not_mem_nil), trivial, (List.forall_mem_cons.mpr ⟨⟨⟨ck_wb_ok rfl, ck_wb_ok rfl⟩, k0⟩, (List.forall_mem_cons.mpr ⟨⟨⟨ck_wb_ok rfl, ck_wb_ok rfl⟩, k1⟩, (List.forall_mem_cons.mpr ⟨⟨⟨ck_wb_ok rfl, ck_wb_ok rfl⟩, k2⟩, (List.forall_mem_cons.mpr ⟨⟨⟨ck_wb_ok rfl, ck_wb_ok rfl⟩, k3⟩, (List.forall_mem_cons.mpr ⟨⟨⟨ck_wb_ok rfl, ck_wb_ok rfl⟩, k4⟩, (List.forall_mem_cons.mpr ⟨⟨⟨ck_wb_ok rfl, ck_wb_ok rfl⟩, k5⟩, (fun _ h => absurd h List.not_mem_nil)⟩)⟩)⟩)⟩)⟩)⟩), (fun _ h => absurd h List.not_mem_nil)⟩
theorem ccWK8 {l : Launch} {D : va_G} {kp : Nat → ClassId} : ck_con l D kp ck_NN ceWK8 := ck_con_s (k := 70) rfl rpWK8
theorem rpC14_4_0 : ck_gcon ceC14_4_0 := by
  intro σ E hgi hF hP hΦ
  have key : (((0 : Int) ≤ 40000 + 0 ∧ ck_lk E 114 (40000 + 0) = 1 + 0) ∧ True) := by
    refine ⟨⟨by decide, ?_⟩, trivial⟩
    rw [ck_lk_v (by decide)]
    refine (cb_t ?_).trans rfl
    intro i i0 i1
    have i1 : i < (40000 + 0 : Int) % 1000 := i1
    omega
  obtain ⟨k0, -⟩ := key
  exact ⟨_, (List.mem_of_getElem? (i := 0) rfl), σ, ck_ag_rf, (fun _ h => absurd h List.not_mem_nil), (fun _ h => absurd h List.not_mem_nil), trivial, (List.forall_mem_cons.mpr ⟨⟨⟨ck_wb_ok rfl, ck_wb_ok rfl⟩, k0⟩, (fun _ h => absurd h List.not_mem_nil)⟩), (fun _ h => absurd h List.not_mem_nil)⟩
theorem ccC14_4_0 {l : Launch} {D : va_G} {kp : Nat → ClassId} : ck_con l D kp ck_NN ceC14_4_0 := ck_con_g rfl rpC14_4_0
theorem rpC15_4_0 : ck_gcon ceC15_4_0 := by
  intro σ E hgi hF hP hΦ
  have key : (((0 : Int) ≤ 40000 + 0 ∧ ck_lk E 115 (40000 + 0) = 1 + 0) ∧ True) := by
    refine ⟨⟨by decide, ?_⟩, trivial⟩
    rw [ck_lk_v (by decide)]
    refine (cb_t ?_).trans rfl
    intro i i0 i1
    have i1 : i < (40000 + 0 : Int) % 1000 := i1
    omega
  obtain ⟨k0, -⟩ := key
  exact ⟨_, (List.mem_of_getElem? (i := 0) rfl), σ, ck_ag_rf, (fun _ h => absurd h List.not_mem_nil), (fun _ h => absurd h List.not_mem_nil), trivial, (List.forall_mem_cons.mpr ⟨⟨⟨ck_wb_ok rfl, ck_wb_ok rfl⟩, k0⟩, (fun _ h => absurd h List.not_mem_nil)⟩), (fun _ h => absurd h List.not_mem_nil)⟩
theorem ccC15_4_0 {l : Launch} {D : va_G} {kp : Nat → ClassId} : ck_con l D kp ck_NN ceC15_4_0 := ck_con_g rfl rpC15_4_0
theorem rpCW9_4_0 : ck_scon ceCW9_4_0 69 := by
  intro σ E e' idx v hargs hgi hF hP hΦ hgi2 h0 l1 l2
  cases hargs
  have h0 : (0 : Int) ≤ 0 + (1 * σ 0 + 0) := h0
  have l1 : ck_loc e' (0 + (1 * σ 0 + 0)) = 0 + (1 * σ 6 + 0) := l1
  have l2 : ∀ j, 0 ≤ j → ¬ j = 0 + (1 * σ 0 + 0) → ck_loc e' j = ck_loc (E 69) j := l2
  have f0 : (0 : Int) ≤ 0 + (1 * σ 0 + 0) := hF _ (List.mem_of_getElem? (i := 0) rfl)
  have f1 : (0 : Int) ≤ 47 + ((-1) * σ 0 + 0) := hF _ (List.mem_of_getElem? (i := 1) rfl)
  have f2 : (0 : Int) ≤ (-1) + (1 * σ 7 + 0) := hF _ (List.mem_of_getElem? (i := 2) rfl)
  have p0 : ck_lk E 108 (1 + 0) = 0 + (1 * σ 1 + 0) := (hP _ (List.mem_of_getElem? (i := 0) rfl)).2.2
  have q0 : (0 : Int) ≤ 1 + 0 := (hP _ (List.mem_of_getElem? (i := 0) rfl)).2.1
  have p1 : ck_lk E 108 (2 + 0) = 0 + (1 * σ 2 + 0) := (hP _ (List.mem_of_getElem? (i := 1) rfl)).2.2
  have q1 : (0 : Int) ≤ 2 + 0 := (hP _ (List.mem_of_getElem? (i := 1) rfl)).2.1
  have p2 : ck_lk E 108 (3 + 0) = 0 + (1 * σ 3 + 0) := (hP _ (List.mem_of_getElem? (i := 2) rfl)).2.2
  have q2 : (0 : Int) ≤ 3 + 0 := (hP _ (List.mem_of_getElem? (i := 2) rfl)).2.1
  have p3 : ck_lk E 108 (4 + 0) = 0 + (1 * σ 4 + 0) := (hP _ (List.mem_of_getElem? (i := 3) rfl)).2.2
  have q3 : (0 : Int) ≤ 4 + 0 := (hP _ (List.mem_of_getElem? (i := 3) rfl)).2.1
  have p4 : ck_lk E 108 (5 + 0) = 0 + (1 * σ 5 + 0) := (hP _ (List.mem_of_getElem? (i := 4) rfl)).2.2
  have q4 : (0 : Int) ≤ 5 + 0 := (hP _ (List.mem_of_getElem? (i := 4) rfl)).2.1
  have p5 : ck_lk E 69 (192 + (1 * σ 0 + 0)) = 0 + (1 * σ 6 + 0) := (hP _ (List.mem_of_getElem? (i := 5) rfl)).2.2
  have q5 : (0 : Int) ≤ 192 + (1 * σ 0 + 0) := (hP _ (List.mem_of_getElem? (i := 5) rfl)).2.1
  have p6 : ck_lk E 114 (40000 + (1 * σ 0 + 0)) = 0 + (1 * σ 7 + 0) := (hP _ (List.mem_of_getElem? (i := 6) rfl)).2.2
  have q6 : (0 : Int) ≤ 40000 + (1 * σ 0 + 0) := (hP _ (List.mem_of_getElem? (i := 6) rfl)).2.1
  have key : (((0 : Int) ≤ 1 + 0 ∧ ck_lk (va_up E 69 e') 108 (1 + 0) = 0 + (1 * σ 1 + 0)) ∧ ((0 : Int) ≤ 2 + 0 ∧ ck_lk (va_up E 69 e') 108 (2 + 0) = 0 + (1 * σ 2 + 0)) ∧ ((0 : Int) ≤ 3 + 0 ∧ ck_lk (va_up E 69 e') 108 (3 + 0) = 0 + (1 * σ 3 + 0)) ∧ ((0 : Int) ≤ 4 + 0 ∧ ck_lk (va_up E 69 e') 108 (4 + 0) = 0 + (1 * σ 4 + 0)) ∧ ((0 : Int) ≤ 5 + 0 ∧ ck_lk (va_up E 69 e') 108 (5 + 0) = 0 + (1 * σ 5 + 0)) ∧ ((0 : Int) ≤ 40001 + (1 * σ 0 + 0) ∧ ck_lk (va_up E 69 e') 114 (40001 + (1 * σ 0 + 0)) = 1 + 0) ∧ True) := by
    rw [kc (i := 192 + σ 0) (by decide) (by omega)] at p5
    rw [ck_lk_v (by decide)] at p6
    have hp := cb_ge p6 (by omega)
    refine ⟨⟨by decide, ?_⟩, ⟨by decide, ?_⟩, ⟨by decide, ?_⟩, ⟨by decide, ?_⟩, ⟨by decide, ?_⟩, ⟨by omega, ?_⟩, trivial⟩
    · rw [k108 (c := 1) (by decide)] at p0
      rw [k108 (c := 1) (by decide), vf_wx_st hgi hgi2 (by decide) (by decide) l2 ⟨fun q => absurd q (by decide), fun q => absurd q (by decide), fun _ => by omega, fun q => absurd q (by decide), fun q => absurd q (by decide)⟩]
      exact p0
    · rw [k108 (c := 2) (by decide)] at p1
      rw [k108 (c := 2) (by decide), vf_wx_st hgi hgi2 (by decide) (by decide) l2 ⟨fun q => absurd q (by decide), fun q => absurd q (by decide), fun _ => by omega, fun q => absurd q (by decide), fun q => absurd q (by decide)⟩]
      exact p1
    · rw [k108 (c := 3) (by decide)] at p2
      rw [k108 (c := 3) (by decide), vf_wx_st hgi hgi2 (by decide) (by decide) l2 ⟨fun q => absurd q (by decide), fun q => absurd q (by decide), fun _ => by omega, fun q => absurd q (by decide), fun q => absurd q (by decide)⟩]
      exact p2
    · rw [k108 (c := 4) (by decide)] at p3
      rw [k108 (c := 4) (by decide), vf_wx_st hgi hgi2 (by decide) (by decide) l2 ⟨fun q => absurd q (by decide), fun q => absurd q (by decide), fun _ => by omega, fun q => absurd q (by decide), fun q => absurd q (by decide)⟩]
      exact p3
    · rw [k108 (c := 5) (by decide)] at p4
      rw [k108 (c := 5) (by decide), vf_wx_st hgi hgi2 (by decide) (by decide) l2 ⟨fun q => absurd q (by decide), fun q => absurd q (by decide), fun _ => by omega, fun q => absurd q (by decide), fun q => absurd q (by decide)⟩]
      exact p4
    · rw [ck_lk_v (by decide)]
      refine (cb_t ?_).trans rfl
      intro i i0 i1
      have i1 : i < (40001 + (1 * σ 0 + 0)) % 1000 := i1
      show ck_loc (va_up E 69 e' 69) (48 * ((40001 + (1 * σ 0 + 0)) / 1000 % 10) + i) = ck_loc (va_up E 69 e' 69) (48 * ((40001 + (1 * σ 0 + 0)) / 10000) + i)
      rw [va_up_self, show (40001 + (1 * σ 0 + 0)) / 1000 % 10 = 0 by omega, show (40001 + (1 * σ 0 + 0)) / 10000 = 4 by omega]
      have hp : ∀ i : Int, 0 ≤ i → i < (40000 + (1 * σ 0 + 0)) % 1000 → ck_loc (E 69) (48 * ((40000 + (1 * σ 0 + 0)) / 1000 % 10) + i) = ck_loc (E 69) (48 * ((40000 + (1 * σ 0 + 0)) / 10000) + i) := hp
      rw [show (40000 + (1 * σ 0 + 0)) / 1000 % 10 = 0 by omega, show (40000 + (1 * σ 0 + 0)) / 10000 = 4 by omega] at hp
      rw [l2 (48 * 4 + i) (by omega) (by omega)]
      by_cases hi : i = σ 0
      · rw [hi, show (48 * 0 + σ 0 : Int) = 0 + (1 * σ 0 + 0) by omega, l1, show (48 * 4 + σ 0 : Int) = 192 + σ 0 by omega, p5]
      · rw [l2 (48 * 0 + i) (by omega) (by omega)]
        exact hp i i0 (by omega)
  obtain ⟨k0, k1, k2, k3, k4, k5, -⟩ := key
  exact ⟨_, (List.mem_of_getElem? (i := 0) rfl), σ, ck_ag_rf, (fun _ h => absurd h List.not_mem_nil), (fun _ h => absurd h List.not_mem_nil), trivial, (List.forall_mem_cons.mpr ⟨⟨⟨ck_wb_ok rfl, ck_wb_ok rfl⟩, k0⟩, (List.forall_mem_cons.mpr ⟨⟨⟨ck_wb_ok rfl, ck_wb_ok rfl⟩, k1⟩, (List.forall_mem_cons.mpr ⟨⟨⟨ck_wb_ok rfl, ck_wb_ok rfl⟩, k2⟩, (List.forall_mem_cons.mpr ⟨⟨⟨ck_wb_ok rfl, ck_wb_ok rfl⟩, k3⟩, (List.forall_mem_cons.mpr ⟨⟨⟨ck_wb_ok rfl, ck_wb_ok rfl⟩, k4⟩, (List.forall_mem_cons.mpr ⟨⟨⟨ck_wb_ok rfl, ck_wb_ok rfl⟩, k5⟩, (fun _ h => absurd h List.not_mem_nil)⟩)⟩)⟩)⟩)⟩)⟩), (fun _ h => absurd h List.not_mem_nil)⟩
theorem ccCW9_4_0 {l : Launch} {D : va_G} {kp : Nat → ClassId} : ck_con l D kp ck_NN ceCW9_4_0 := ck_con_s (k := 69) rfl rpCW9_4_0
theorem rpCW2_4_0 : ck_scon ceCW2_4_0 72 := by
  intro σ E e' idx v hargs hgi hF hP hΦ hgi2 h0 l1 l2
  cases hargs
  have h0 : (0 : Int) ≤ 0 + (1 * σ 0 + 0) := h0
  have l1 : ck_loc e' (0 + (1 * σ 0 + 0)) = 0 + (1 * σ 6 + 0) := l1
  have l2 : ∀ j, 0 ≤ j → ¬ j = 0 + (1 * σ 0 + 0) → ck_loc e' j = ck_loc (E 72) j := l2
  have f0 : (0 : Int) ≤ 0 + (1 * σ 0 + 0) := hF _ (List.mem_of_getElem? (i := 0) rfl)
  have f1 : (0 : Int) ≤ 23 + ((-1) * σ 0 + 0) := hF _ (List.mem_of_getElem? (i := 1) rfl)
  have f2 : (0 : Int) ≤ (-1) + (1 * σ 7 + 0) := hF _ (List.mem_of_getElem? (i := 2) rfl)
  have p0 : ck_lk E 108 (1 + 0) = 0 + (1 * σ 1 + 0) := (hP _ (List.mem_of_getElem? (i := 0) rfl)).2.2
  have q0 : (0 : Int) ≤ 1 + 0 := (hP _ (List.mem_of_getElem? (i := 0) rfl)).2.1
  have p1 : ck_lk E 108 (2 + 0) = 0 + (1 * σ 2 + 0) := (hP _ (List.mem_of_getElem? (i := 1) rfl)).2.2
  have q1 : (0 : Int) ≤ 2 + 0 := (hP _ (List.mem_of_getElem? (i := 1) rfl)).2.1
  have p2 : ck_lk E 108 (3 + 0) = 0 + (1 * σ 3 + 0) := (hP _ (List.mem_of_getElem? (i := 2) rfl)).2.2
  have q2 : (0 : Int) ≤ 3 + 0 := (hP _ (List.mem_of_getElem? (i := 2) rfl)).2.1
  have p3 : ck_lk E 108 (4 + 0) = 0 + (1 * σ 4 + 0) := (hP _ (List.mem_of_getElem? (i := 3) rfl)).2.2
  have q3 : (0 : Int) ≤ 4 + 0 := (hP _ (List.mem_of_getElem? (i := 3) rfl)).2.1
  have p4 : ck_lk E 108 (5 + 0) = 0 + (1 * σ 5 + 0) := (hP _ (List.mem_of_getElem? (i := 4) rfl)).2.2
  have q4 : (0 : Int) ≤ 5 + 0 := (hP _ (List.mem_of_getElem? (i := 4) rfl)).2.1
  have p5 : ck_lk E 72 (96 + (1 * σ 0 + 0)) = 0 + (1 * σ 6 + 0) := (hP _ (List.mem_of_getElem? (i := 5) rfl)).2.2
  have q5 : (0 : Int) ≤ 96 + (1 * σ 0 + 0) := (hP _ (List.mem_of_getElem? (i := 5) rfl)).2.1
  have p6 : ck_lk E 115 (40000 + (1 * σ 0 + 0)) = 0 + (1 * σ 7 + 0) := (hP _ (List.mem_of_getElem? (i := 6) rfl)).2.2
  have q6 : (0 : Int) ≤ 40000 + (1 * σ 0 + 0) := (hP _ (List.mem_of_getElem? (i := 6) rfl)).2.1
  have key : (((0 : Int) ≤ 1 + 0 ∧ ck_lk (va_up E 72 e') 108 (1 + 0) = 0 + (1 * σ 1 + 0)) ∧ ((0 : Int) ≤ 2 + 0 ∧ ck_lk (va_up E 72 e') 108 (2 + 0) = 0 + (1 * σ 2 + 0)) ∧ ((0 : Int) ≤ 3 + 0 ∧ ck_lk (va_up E 72 e') 108 (3 + 0) = 0 + (1 * σ 3 + 0)) ∧ ((0 : Int) ≤ 4 + 0 ∧ ck_lk (va_up E 72 e') 108 (4 + 0) = 0 + (1 * σ 4 + 0)) ∧ ((0 : Int) ≤ 5 + 0 ∧ ck_lk (va_up E 72 e') 108 (5 + 0) = 0 + (1 * σ 5 + 0)) ∧ ((0 : Int) ≤ 40001 + (1 * σ 0 + 0) ∧ ck_lk (va_up E 72 e') 115 (40001 + (1 * σ 0 + 0)) = 1 + 0) ∧ True) := by
    rw [kc (i := 96 + σ 0) (by decide) (by omega)] at p5
    rw [ck_lk_v (by decide)] at p6
    have hp := cb_ge p6 (by omega)
    refine ⟨⟨by decide, ?_⟩, ⟨by decide, ?_⟩, ⟨by decide, ?_⟩, ⟨by decide, ?_⟩, ⟨by decide, ?_⟩, ⟨by omega, ?_⟩, trivial⟩
    · rw [k108 (c := 1) (by decide)] at p0
      rw [k108 (c := 1) (by decide), vf_wx_st hgi hgi2 (by decide) (by decide) l2 ⟨fun q => absurd q (by decide), fun q => absurd q (by decide), fun q => absurd q (by decide), fun q => absurd q (by decide), fun _ => by omega⟩]
      exact p0
    · rw [k108 (c := 2) (by decide)] at p1
      rw [k108 (c := 2) (by decide), vf_wx_st hgi hgi2 (by decide) (by decide) l2 ⟨fun q => absurd q (by decide), fun q => absurd q (by decide), fun q => absurd q (by decide), fun q => absurd q (by decide), fun _ => by omega⟩]
      exact p1
    · rw [k108 (c := 3) (by decide)] at p2
      rw [k108 (c := 3) (by decide), vf_wx_st hgi hgi2 (by decide) (by decide) l2 ⟨fun q => absurd q (by decide), fun q => absurd q (by decide), fun q => absurd q (by decide), fun q => absurd q (by decide), fun _ => by omega⟩]
      exact p2
    · rw [k108 (c := 4) (by decide)] at p3
      rw [k108 (c := 4) (by decide), vf_wx_st hgi hgi2 (by decide) (by decide) l2 ⟨fun q => absurd q (by decide), fun q => absurd q (by decide), fun q => absurd q (by decide), fun q => absurd q (by decide), fun _ => by omega⟩]
      exact p3
    · rw [k108 (c := 5) (by decide)] at p4
      rw [k108 (c := 5) (by decide), vf_wx_st hgi hgi2 (by decide) (by decide) l2 ⟨fun q => absurd q (by decide), fun q => absurd q (by decide), fun q => absurd q (by decide), fun q => absurd q (by decide), fun _ => by omega⟩]
      exact p4
    · rw [ck_lk_v (by decide)]
      refine (cb_t ?_).trans rfl
      intro i i0 i1
      have i1 : i < (40001 + (1 * σ 0 + 0)) % 1000 := i1
      show ck_loc (va_up E 72 e' 72) (24 * ((40001 + (1 * σ 0 + 0)) / 1000 % 10) + i) = ck_loc (va_up E 72 e' 72) (24 * ((40001 + (1 * σ 0 + 0)) / 10000) + i)
      rw [va_up_self, show (40001 + (1 * σ 0 + 0)) / 1000 % 10 = 0 by omega, show (40001 + (1 * σ 0 + 0)) / 10000 = 4 by omega]
      have hp : ∀ i : Int, 0 ≤ i → i < (40000 + (1 * σ 0 + 0)) % 1000 → ck_loc (E 72) (24 * ((40000 + (1 * σ 0 + 0)) / 1000 % 10) + i) = ck_loc (E 72) (24 * ((40000 + (1 * σ 0 + 0)) / 10000) + i) := hp
      rw [show (40000 + (1 * σ 0 + 0)) / 1000 % 10 = 0 by omega, show (40000 + (1 * σ 0 + 0)) / 10000 = 4 by omega] at hp
      rw [l2 (24 * 4 + i) (by omega) (by omega)]
      by_cases hi : i = σ 0
      · rw [hi, show (24 * 0 + σ 0 : Int) = 0 + (1 * σ 0 + 0) by omega, l1, show (24 * 4 + σ 0 : Int) = 96 + σ 0 by omega, p5]
      · rw [l2 (24 * 0 + i) (by omega) (by omega)]
        exact hp i i0 (by omega)
  obtain ⟨k0, k1, k2, k3, k4, k5, -⟩ := key
  exact ⟨_, (List.mem_of_getElem? (i := 0) rfl), σ, ck_ag_rf, (fun _ h => absurd h List.not_mem_nil), (fun _ h => absurd h List.not_mem_nil), trivial, (List.forall_mem_cons.mpr ⟨⟨⟨ck_wb_ok rfl, ck_wb_ok rfl⟩, k0⟩, (List.forall_mem_cons.mpr ⟨⟨⟨ck_wb_ok rfl, ck_wb_ok rfl⟩, k1⟩, (List.forall_mem_cons.mpr ⟨⟨⟨ck_wb_ok rfl, ck_wb_ok rfl⟩, k2⟩, (List.forall_mem_cons.mpr ⟨⟨⟨ck_wb_ok rfl, ck_wb_ok rfl⟩, k3⟩, (List.forall_mem_cons.mpr ⟨⟨⟨ck_wb_ok rfl, ck_wb_ok rfl⟩, k4⟩, (List.forall_mem_cons.mpr ⟨⟨⟨ck_wb_ok rfl, ck_wb_ok rfl⟩, k5⟩, (fun _ h => absurd h List.not_mem_nil)⟩)⟩)⟩)⟩)⟩)⟩), (fun _ h => absurd h List.not_mem_nil)⟩
theorem ccCW2_4_0 {l : Launch} {D : va_G} {kp : Nat → ClassId} : ck_con l D kp ck_NN ceCW2_4_0 := ck_con_s (k := 72) rfl rpCW2_4_0
theorem rpWC_4_0 : ck_gcon ceWC_4_0 := by
  intro σ E hgi hF hP hΦ
  have f0 : (0 : Int) ≤ (-1) + (1 * σ 0 + 0) := hF _ (List.mem_of_getElem? (i := 0) rfl)
  have f1 : (0 : Int) ≤ (-1) + (1 * σ 17 + 0) := hF _ (List.mem_of_getElem? (i := 1) rfl)
  have f2 : (0 : Int) ≤ (-1) + (1 * σ 18 + 0) := hF _ (List.mem_of_getElem? (i := 2) rfl)
  have f3 : (0 : Int) ≤ 0 + (1 * σ 1 + ((-1) * σ 2 + 0)) := hF _ (List.mem_of_getElem? (i := 3) rfl)
  have f4 : (0 : Int) ≤ 0 + ((-1) * σ 1 + (1 * σ 2 + 0)) := hF _ (List.mem_of_getElem? (i := 4) rfl)
  have f5 : (0 : Int) ≤ 0 + (1 * σ 3 + ((-1) * σ 4 + 0)) := hF _ (List.mem_of_getElem? (i := 5) rfl)
  have f6 : (0 : Int) ≤ 0 + ((-1) * σ 3 + (1 * σ 4 + 0)) := hF _ (List.mem_of_getElem? (i := 6) rfl)
  have f7 : (0 : Int) ≤ 0 + (1 * σ 5 + ((-1) * σ 11 + 0)) := hF _ (List.mem_of_getElem? (i := 7) rfl)
  have f8 : (0 : Int) ≤ 0 + ((-1) * σ 5 + (1 * σ 11 + 0)) := hF _ (List.mem_of_getElem? (i := 8) rfl)
  have f9 : (0 : Int) ≤ 0 + (1 * σ 6 + ((-1) * σ 12 + 0)) := hF _ (List.mem_of_getElem? (i := 9) rfl)
  have f10 : (0 : Int) ≤ 0 + ((-1) * σ 6 + (1 * σ 12 + 0)) := hF _ (List.mem_of_getElem? (i := 10) rfl)
  have f11 : (0 : Int) ≤ 0 + (1 * σ 7 + ((-1) * σ 13 + 0)) := hF _ (List.mem_of_getElem? (i := 11) rfl)
  have f12 : (0 : Int) ≤ 0 + ((-1) * σ 7 + (1 * σ 13 + 0)) := hF _ (List.mem_of_getElem? (i := 12) rfl)
  have f13 : (0 : Int) ≤ 0 + (1 * σ 8 + ((-1) * σ 14 + 0)) := hF _ (List.mem_of_getElem? (i := 13) rfl)
  have f14 : (0 : Int) ≤ 0 + ((-1) * σ 8 + (1 * σ 14 + 0)) := hF _ (List.mem_of_getElem? (i := 14) rfl)
  have f15 : (0 : Int) ≤ 0 + (1 * σ 9 + ((-1) * σ 15 + 0)) := hF _ (List.mem_of_getElem? (i := 15) rfl)
  have f16 : (0 : Int) ≤ 0 + ((-1) * σ 9 + (1 * σ 15 + 0)) := hF _ (List.mem_of_getElem? (i := 16) rfl)
  have f17 : (0 : Int) ≤ 0 + (1 * σ 10 + ((-1) * σ 16 + 0)) := hF _ (List.mem_of_getElem? (i := 17) rfl)
  have f18 : (0 : Int) ≤ 0 + ((-1) * σ 10 + (1 * σ 16 + 0)) := hF _ (List.mem_of_getElem? (i := 18) rfl)
  have p0 : ck_lk E 108 (4 + 0) = 0 + (1 * σ 0 + 0) := (hP _ (List.mem_of_getElem? (i := 0) rfl)).2.2
  have q0 : (0 : Int) ≤ 4 + 0 := (hP _ (List.mem_of_getElem? (i := 0) rfl)).2.1
  have p1 : ck_lk E 65 (4 + 0) = 0 + (1 * σ 1 + 0) := (hP _ (List.mem_of_getElem? (i := 1) rfl)).2.2
  have q1 : (0 : Int) ≤ 4 + 0 := (hP _ (List.mem_of_getElem? (i := 1) rfl)).2.1
  have p2 : ck_lk E 65 (0 + 0) = 0 + (1 * σ 2 + 0) := (hP _ (List.mem_of_getElem? (i := 2) rfl)).2.2
  have q2 : (0 : Int) ≤ 0 + 0 := (hP _ (List.mem_of_getElem? (i := 2) rfl)).2.1
  have p3 : ck_lk E 70 (9 + 0) = 0 + (1 * σ 3 + 0) := (hP _ (List.mem_of_getElem? (i := 3) rfl)).2.2
  have q3 : (0 : Int) ≤ 9 + 0 := (hP _ (List.mem_of_getElem? (i := 3) rfl)).2.1
  have p4 : ck_lk E 70 (1 + 0) = 0 + (1 * σ 4 + 0) := (hP _ (List.mem_of_getElem? (i := 4) rfl)).2.2
  have q4 : (0 : Int) ≤ 1 + 0 := (hP _ (List.mem_of_getElem? (i := 4) rfl)).2.1
  have p5 : ck_lk E 67 (24 + 0) = 0 + (1 * σ 5 + 0) := (hP _ (List.mem_of_getElem? (i := 5) rfl)).2.2
  have q5 : (0 : Int) ≤ 24 + 0 := (hP _ (List.mem_of_getElem? (i := 5) rfl)).2.1
  have p6 : ck_lk E 67 (25 + 0) = 0 + (1 * σ 6 + 0) := (hP _ (List.mem_of_getElem? (i := 6) rfl)).2.2
  have q6 : (0 : Int) ≤ 25 + 0 := (hP _ (List.mem_of_getElem? (i := 6) rfl)).2.1
  have p7 : ck_lk E 67 (26 + 0) = 0 + (1 * σ 7 + 0) := (hP _ (List.mem_of_getElem? (i := 7) rfl)).2.2
  have q7 : (0 : Int) ≤ 26 + 0 := (hP _ (List.mem_of_getElem? (i := 7) rfl)).2.1
  have p8 : ck_lk E 67 (27 + 0) = 0 + (1 * σ 8 + 0) := (hP _ (List.mem_of_getElem? (i := 8) rfl)).2.2
  have q8 : (0 : Int) ≤ 27 + 0 := (hP _ (List.mem_of_getElem? (i := 8) rfl)).2.1
  have p9 : ck_lk E 67 (28 + 0) = 0 + (1 * σ 9 + 0) := (hP _ (List.mem_of_getElem? (i := 9) rfl)).2.2
  have q9 : (0 : Int) ≤ 28 + 0 := (hP _ (List.mem_of_getElem? (i := 9) rfl)).2.1
  have p10 : ck_lk E 67 (29 + 0) = 0 + (1 * σ 10 + 0) := (hP _ (List.mem_of_getElem? (i := 10) rfl)).2.2
  have q10 : (0 : Int) ≤ 29 + 0 := (hP _ (List.mem_of_getElem? (i := 10) rfl)).2.1
  have p11 : ck_lk E 67 (0 + 0) = 0 + (1 * σ 11 + 0) := (hP _ (List.mem_of_getElem? (i := 11) rfl)).2.2
  have q11 : (0 : Int) ≤ 0 + 0 := (hP _ (List.mem_of_getElem? (i := 11) rfl)).2.1
  have p12 : ck_lk E 67 (1 + 0) = 0 + (1 * σ 12 + 0) := (hP _ (List.mem_of_getElem? (i := 12) rfl)).2.2
  have q12 : (0 : Int) ≤ 1 + 0 := (hP _ (List.mem_of_getElem? (i := 12) rfl)).2.1
  have p13 : ck_lk E 67 (2 + 0) = 0 + (1 * σ 13 + 0) := (hP _ (List.mem_of_getElem? (i := 13) rfl)).2.2
  have q13 : (0 : Int) ≤ 2 + 0 := (hP _ (List.mem_of_getElem? (i := 13) rfl)).2.1
  have p14 : ck_lk E 67 (3 + 0) = 0 + (1 * σ 14 + 0) := (hP _ (List.mem_of_getElem? (i := 14) rfl)).2.2
  have q14 : (0 : Int) ≤ 3 + 0 := (hP _ (List.mem_of_getElem? (i := 14) rfl)).2.1
  have p15 : ck_lk E 67 (4 + 0) = 0 + (1 * σ 15 + 0) := (hP _ (List.mem_of_getElem? (i := 15) rfl)).2.2
  have q15 : (0 : Int) ≤ 4 + 0 := (hP _ (List.mem_of_getElem? (i := 15) rfl)).2.1
  have p16 : ck_lk E 67 (5 + 0) = 0 + (1 * σ 16 + 0) := (hP _ (List.mem_of_getElem? (i := 16) rfl)).2.2
  have q16 : (0 : Int) ≤ 5 + 0 := (hP _ (List.mem_of_getElem? (i := 16) rfl)).2.1
  have p17 : ck_lk E 114 (40048 + 0) = 0 + (1 * σ 17 + 0) := (hP _ (List.mem_of_getElem? (i := 17) rfl)).2.2
  have q17 : (0 : Int) ≤ 40048 + 0 := (hP _ (List.mem_of_getElem? (i := 17) rfl)).2.1
  have p18 : ck_lk E 115 (40024 + 0) = 0 + (1 * σ 18 + 0) := (hP _ (List.mem_of_getElem? (i := 18) rfl)).2.2
  have q18 : (0 : Int) ≤ 40024 + 0 := (hP _ (List.mem_of_getElem? (i := 18) rfl)).2.1
  have key : (((0 : Int) ≤ 0 + 0 ∧ ck_lk E 108 (0 + 0) = 1 + 0) ∧ True) := by
    rw [k108 (c := 4) (by decide)] at p0
    have hw := cb_ge p0 (by omega)
    rw [kc (i := 4) (by decide) (by decide)] at p1
    rw [kc (i := 0) (by decide) (by decide)] at p2
    rw [kc (i := 9) (by decide) (by decide)] at p3
    rw [kc (i := 1) (by decide) (by decide)] at p4
    rw [kc (i := 24) (by decide) (by decide)] at p5
    rw [kc (i := 0) (by decide) (by decide)] at p11
    rw [kc (i := 25) (by decide) (by decide)] at p6
    rw [kc (i := 1) (by decide) (by decide)] at p12
    rw [kc (i := 26) (by decide) (by decide)] at p7
    rw [kc (i := 2) (by decide) (by decide)] at p13
    rw [kc (i := 27) (by decide) (by decide)] at p8
    rw [kc (i := 3) (by decide) (by decide)] at p14
    rw [kc (i := 28) (by decide) (by decide)] at p9
    rw [kc (i := 4) (by decide) (by decide)] at p15
    rw [kc (i := 29) (by decide) (by decide)] at p10
    rw [kc (i := 5) (by decide) (by decide)] at p16
    rw [ck_lk_v (by decide)] at p17 p18
    have h9 : ∀ i : Int, 0 ≤ i → i < 48 → ck_loc (E 69) (48 * 0 + i) = ck_loc (E 69) (48 * 4 + i) := cb_ge p17 (by omega)
    have h2 : ∀ i : Int, 0 ≤ i → i < 24 → ck_loc (E 72) (24 * 0 + i) = ck_loc (E 72) (24 * 4 + i) := cb_ge p18 (by omega)
    refine ⟨⟨by decide, ?_⟩, trivial⟩
    rw [k108 (c := 0) (by decide)]
    refine (cb_t ?_).trans rfl
    refine vf_wx_mono (a := 4) hgi (by decide) (by decide) (by omega) (fun r r0 r6 => ?_) h9 (show ck_loc (E 70) 1 = ck_loc (E 70) 9 by omega) h2 hw
    have hr : r = 0 ∨ r = 1 ∨ r = 2 ∨ r = 3 ∨ r = 4 ∨ r = 5 := by omega
    rcases hr with rfl | rfl | rfl | rfl | rfl | rfl
    · show ck_loc (E 67) 0 = ck_loc (E 67) 24
      omega
    · show ck_loc (E 67) 1 = ck_loc (E 67) 25
      omega
    · show ck_loc (E 67) 2 = ck_loc (E 67) 26
      omega
    · show ck_loc (E 67) 3 = ck_loc (E 67) 27
      omega
    · show ck_loc (E 67) 4 = ck_loc (E 67) 28
      omega
    · show ck_loc (E 67) 5 = ck_loc (E 67) 29
      omega
  obtain ⟨k0, -⟩ := key
  exact ⟨_, (List.mem_of_getElem? (i := 0) rfl), σ, ck_ag_rf, (fun _ h => absurd h List.not_mem_nil), (fun _ h => absurd h List.not_mem_nil), trivial, (List.forall_mem_cons.mpr ⟨⟨⟨ck_wb_ok rfl, ck_wb_ok rfl⟩, k0⟩, (fun _ h => absurd h List.not_mem_nil)⟩), (fun _ h => absurd h List.not_mem_nil)⟩
theorem ccWC_4_0 {l : Launch} {D : va_G} {kp : Nat → ClassId} : ck_con l D kp ck_NN ceWC_4_0 := ck_con_g rfl rpWC_4_0
theorem rpC14_0_5 : ck_gcon ceC14_0_5 := by
  intro σ E hgi hF hP hΦ
  have key : (((0 : Int) ≤ 5000 + 0 ∧ ck_lk E 114 (5000 + 0) = 1 + 0) ∧ True) := by
    refine ⟨⟨by decide, ?_⟩, trivial⟩
    rw [ck_lk_v (by decide)]
    refine (cb_t ?_).trans rfl
    intro i i0 i1
    have i1 : i < (5000 + 0 : Int) % 1000 := i1
    omega
  obtain ⟨k0, -⟩ := key
  exact ⟨_, (List.mem_of_getElem? (i := 0) rfl), σ, ck_ag_rf, (fun _ h => absurd h List.not_mem_nil), (fun _ h => absurd h List.not_mem_nil), trivial, (List.forall_mem_cons.mpr ⟨⟨⟨ck_wb_ok rfl, ck_wb_ok rfl⟩, k0⟩, (fun _ h => absurd h List.not_mem_nil)⟩), (fun _ h => absurd h List.not_mem_nil)⟩
theorem ccC14_0_5 {l : Launch} {D : va_G} {kp : Nat → ClassId} : ck_con l D kp ck_NN ceC14_0_5 := ck_con_g rfl rpC14_0_5
theorem rpC15_0_5 : ck_gcon ceC15_0_5 := by
  intro σ E hgi hF hP hΦ
  have key : (((0 : Int) ≤ 5000 + 0 ∧ ck_lk E 115 (5000 + 0) = 1 + 0) ∧ True) := by
    refine ⟨⟨by decide, ?_⟩, trivial⟩
    rw [ck_lk_v (by decide)]
    refine (cb_t ?_).trans rfl
    intro i i0 i1
    have i1 : i < (5000 + 0 : Int) % 1000 := i1
    omega
  obtain ⟨k0, -⟩ := key
  exact ⟨_, (List.mem_of_getElem? (i := 0) rfl), σ, ck_ag_rf, (fun _ h => absurd h List.not_mem_nil), (fun _ h => absurd h List.not_mem_nil), trivial, (List.forall_mem_cons.mpr ⟨⟨⟨ck_wb_ok rfl, ck_wb_ok rfl⟩, k0⟩, (fun _ h => absurd h List.not_mem_nil)⟩), (fun _ h => absurd h List.not_mem_nil)⟩
theorem ccC15_0_5 {l : Launch} {D : va_G} {kp : Nat → ClassId} : ck_con l D kp ck_NN ceC15_0_5 := ck_con_g rfl rpC15_0_5
theorem rpCW9_0_5 : ck_scon ceCW9_0_5 69 := by
  intro σ E e' idx v hargs hgi hF hP hΦ hgi2 h0 l1 l2
  cases hargs
  have h0 : (0 : Int) ≤ 240 + (1 * σ 0 + 0) := h0
  have l1 : ck_loc e' (240 + (1 * σ 0 + 0)) = 0 + (1 * σ 6 + 0) := l1
  have l2 : ∀ j, 0 ≤ j → ¬ j = 240 + (1 * σ 0 + 0) → ck_loc e' j = ck_loc (E 69) j := l2
  have f0 : (0 : Int) ≤ 0 + (1 * σ 0 + 0) := hF _ (List.mem_of_getElem? (i := 0) rfl)
  have f1 : (0 : Int) ≤ 47 + ((-1) * σ 0 + 0) := hF _ (List.mem_of_getElem? (i := 1) rfl)
  have f2 : (0 : Int) ≤ (-1) + (1 * σ 7 + 0) := hF _ (List.mem_of_getElem? (i := 2) rfl)
  have p0 : ck_lk E 108 (0 + 0) = 0 + (1 * σ 1 + 0) := (hP _ (List.mem_of_getElem? (i := 0) rfl)).2.2
  have q0 : (0 : Int) ≤ 0 + 0 := (hP _ (List.mem_of_getElem? (i := 0) rfl)).2.1
  have p1 : ck_lk E 108 (1 + 0) = 0 + (1 * σ 2 + 0) := (hP _ (List.mem_of_getElem? (i := 1) rfl)).2.2
  have q1 : (0 : Int) ≤ 1 + 0 := (hP _ (List.mem_of_getElem? (i := 1) rfl)).2.1
  have p2 : ck_lk E 108 (2 + 0) = 0 + (1 * σ 3 + 0) := (hP _ (List.mem_of_getElem? (i := 2) rfl)).2.2
  have q2 : (0 : Int) ≤ 2 + 0 := (hP _ (List.mem_of_getElem? (i := 2) rfl)).2.1
  have p3 : ck_lk E 108 (3 + 0) = 0 + (1 * σ 4 + 0) := (hP _ (List.mem_of_getElem? (i := 3) rfl)).2.2
  have q3 : (0 : Int) ≤ 3 + 0 := (hP _ (List.mem_of_getElem? (i := 3) rfl)).2.1
  have p4 : ck_lk E 108 (4 + 0) = 0 + (1 * σ 5 + 0) := (hP _ (List.mem_of_getElem? (i := 4) rfl)).2.2
  have q4 : (0 : Int) ≤ 4 + 0 := (hP _ (List.mem_of_getElem? (i := 4) rfl)).2.1
  have p5 : ck_lk E 69 (0 + (1 * σ 0 + 0)) = 0 + (1 * σ 6 + 0) := (hP _ (List.mem_of_getElem? (i := 5) rfl)).2.2
  have q5 : (0 : Int) ≤ 0 + (1 * σ 0 + 0) := (hP _ (List.mem_of_getElem? (i := 5) rfl)).2.1
  have p6 : ck_lk E 114 (5000 + (1 * σ 0 + 0)) = 0 + (1 * σ 7 + 0) := (hP _ (List.mem_of_getElem? (i := 6) rfl)).2.2
  have q6 : (0 : Int) ≤ 5000 + (1 * σ 0 + 0) := (hP _ (List.mem_of_getElem? (i := 6) rfl)).2.1
  have key : (((0 : Int) ≤ 0 + 0 ∧ ck_lk (va_up E 69 e') 108 (0 + 0) = 0 + (1 * σ 1 + 0)) ∧ ((0 : Int) ≤ 1 + 0 ∧ ck_lk (va_up E 69 e') 108 (1 + 0) = 0 + (1 * σ 2 + 0)) ∧ ((0 : Int) ≤ 2 + 0 ∧ ck_lk (va_up E 69 e') 108 (2 + 0) = 0 + (1 * σ 3 + 0)) ∧ ((0 : Int) ≤ 3 + 0 ∧ ck_lk (va_up E 69 e') 108 (3 + 0) = 0 + (1 * σ 4 + 0)) ∧ ((0 : Int) ≤ 4 + 0 ∧ ck_lk (va_up E 69 e') 108 (4 + 0) = 0 + (1 * σ 5 + 0)) ∧ ((0 : Int) ≤ 5001 + (1 * σ 0 + 0) ∧ ck_lk (va_up E 69 e') 114 (5001 + (1 * σ 0 + 0)) = 1 + 0) ∧ True) := by
    rw [kc (i := 0 + σ 0) (by decide) (by omega)] at p5
    rw [ck_lk_v (by decide)] at p6
    have hp := cb_ge p6 (by omega)
    refine ⟨⟨by decide, ?_⟩, ⟨by decide, ?_⟩, ⟨by decide, ?_⟩, ⟨by decide, ?_⟩, ⟨by decide, ?_⟩, ⟨by omega, ?_⟩, trivial⟩
    · rw [k108 (c := 0) (by decide)] at p0
      rw [k108 (c := 0) (by decide), vf_wx_st hgi hgi2 (by decide) (by decide) l2 ⟨fun q => absurd q (by decide), fun q => absurd q (by decide), fun _ => by omega, fun q => absurd q (by decide), fun q => absurd q (by decide)⟩]
      exact p0
    · rw [k108 (c := 1) (by decide)] at p1
      rw [k108 (c := 1) (by decide), vf_wx_st hgi hgi2 (by decide) (by decide) l2 ⟨fun q => absurd q (by decide), fun q => absurd q (by decide), fun _ => by omega, fun q => absurd q (by decide), fun q => absurd q (by decide)⟩]
      exact p1
    · rw [k108 (c := 2) (by decide)] at p2
      rw [k108 (c := 2) (by decide), vf_wx_st hgi hgi2 (by decide) (by decide) l2 ⟨fun q => absurd q (by decide), fun q => absurd q (by decide), fun _ => by omega, fun q => absurd q (by decide), fun q => absurd q (by decide)⟩]
      exact p2
    · rw [k108 (c := 3) (by decide)] at p3
      rw [k108 (c := 3) (by decide), vf_wx_st hgi hgi2 (by decide) (by decide) l2 ⟨fun q => absurd q (by decide), fun q => absurd q (by decide), fun _ => by omega, fun q => absurd q (by decide), fun q => absurd q (by decide)⟩]
      exact p3
    · rw [k108 (c := 4) (by decide)] at p4
      rw [k108 (c := 4) (by decide), vf_wx_st hgi hgi2 (by decide) (by decide) l2 ⟨fun q => absurd q (by decide), fun q => absurd q (by decide), fun _ => by omega, fun q => absurd q (by decide), fun q => absurd q (by decide)⟩]
      exact p4
    · rw [ck_lk_v (by decide)]
      refine (cb_t ?_).trans rfl
      intro i i0 i1
      have i1 : i < (5001 + (1 * σ 0 + 0)) % 1000 := i1
      show ck_loc (va_up E 69 e' 69) (48 * ((5001 + (1 * σ 0 + 0)) / 1000 % 10) + i) = ck_loc (va_up E 69 e' 69) (48 * ((5001 + (1 * σ 0 + 0)) / 10000) + i)
      rw [va_up_self, show (5001 + (1 * σ 0 + 0)) / 1000 % 10 = 5 by omega, show (5001 + (1 * σ 0 + 0)) / 10000 = 0 by omega]
      have hp : ∀ i : Int, 0 ≤ i → i < (5000 + (1 * σ 0 + 0)) % 1000 → ck_loc (E 69) (48 * ((5000 + (1 * σ 0 + 0)) / 1000 % 10) + i) = ck_loc (E 69) (48 * ((5000 + (1 * σ 0 + 0)) / 10000) + i) := hp
      rw [show (5000 + (1 * σ 0 + 0)) / 1000 % 10 = 5 by omega, show (5000 + (1 * σ 0 + 0)) / 10000 = 0 by omega] at hp
      rw [l2 (48 * 0 + i) (by omega) (by omega)]
      by_cases hi : i = σ 0
      · rw [hi, show (48 * 5 + σ 0 : Int) = 240 + (1 * σ 0 + 0) by omega, l1, show (48 * 0 + σ 0 : Int) = 0 + σ 0 by omega, p5]
      · rw [l2 (48 * 5 + i) (by omega) (by omega)]
        exact hp i i0 (by omega)
  obtain ⟨k0, k1, k2, k3, k4, k5, -⟩ := key
  exact ⟨_, (List.mem_of_getElem? (i := 0) rfl), σ, ck_ag_rf, (fun _ h => absurd h List.not_mem_nil), (fun _ h => absurd h List.not_mem_nil), trivial, (List.forall_mem_cons.mpr ⟨⟨⟨ck_wb_ok rfl, ck_wb_ok rfl⟩, k0⟩, (List.forall_mem_cons.mpr ⟨⟨⟨ck_wb_ok rfl, ck_wb_ok rfl⟩, k1⟩, (List.forall_mem_cons.mpr ⟨⟨⟨ck_wb_ok rfl, ck_wb_ok rfl⟩, k2⟩, (List.forall_mem_cons.mpr ⟨⟨⟨ck_wb_ok rfl, ck_wb_ok rfl⟩, k3⟩, (List.forall_mem_cons.mpr ⟨⟨⟨ck_wb_ok rfl, ck_wb_ok rfl⟩, k4⟩, (List.forall_mem_cons.mpr ⟨⟨⟨ck_wb_ok rfl, ck_wb_ok rfl⟩, k5⟩, (fun _ h => absurd h List.not_mem_nil)⟩)⟩)⟩)⟩)⟩)⟩), (fun _ h => absurd h List.not_mem_nil)⟩
theorem ccCW9_0_5 {l : Launch} {D : va_G} {kp : Nat → ClassId} : ck_con l D kp ck_NN ceCW9_0_5 := ck_con_s (k := 69) rfl rpCW9_0_5
theorem rpCW2_0_5 : ck_scon ceCW2_0_5 72 := by
  intro σ E e' idx v hargs hgi hF hP hΦ hgi2 h0 l1 l2
  cases hargs
  have h0 : (0 : Int) ≤ 120 + (1 * σ 0 + 0) := h0
  have l1 : ck_loc e' (120 + (1 * σ 0 + 0)) = 0 + (1 * σ 6 + 0) := l1
  have l2 : ∀ j, 0 ≤ j → ¬ j = 120 + (1 * σ 0 + 0) → ck_loc e' j = ck_loc (E 72) j := l2
  have f0 : (0 : Int) ≤ 0 + (1 * σ 0 + 0) := hF _ (List.mem_of_getElem? (i := 0) rfl)
  have f1 : (0 : Int) ≤ 23 + ((-1) * σ 0 + 0) := hF _ (List.mem_of_getElem? (i := 1) rfl)
  have f2 : (0 : Int) ≤ (-1) + (1 * σ 7 + 0) := hF _ (List.mem_of_getElem? (i := 2) rfl)
  have p0 : ck_lk E 108 (0 + 0) = 0 + (1 * σ 1 + 0) := (hP _ (List.mem_of_getElem? (i := 0) rfl)).2.2
  have q0 : (0 : Int) ≤ 0 + 0 := (hP _ (List.mem_of_getElem? (i := 0) rfl)).2.1
  have p1 : ck_lk E 108 (1 + 0) = 0 + (1 * σ 2 + 0) := (hP _ (List.mem_of_getElem? (i := 1) rfl)).2.2
  have q1 : (0 : Int) ≤ 1 + 0 := (hP _ (List.mem_of_getElem? (i := 1) rfl)).2.1
  have p2 : ck_lk E 108 (2 + 0) = 0 + (1 * σ 3 + 0) := (hP _ (List.mem_of_getElem? (i := 2) rfl)).2.2
  have q2 : (0 : Int) ≤ 2 + 0 := (hP _ (List.mem_of_getElem? (i := 2) rfl)).2.1
  have p3 : ck_lk E 108 (3 + 0) = 0 + (1 * σ 4 + 0) := (hP _ (List.mem_of_getElem? (i := 3) rfl)).2.2
  have q3 : (0 : Int) ≤ 3 + 0 := (hP _ (List.mem_of_getElem? (i := 3) rfl)).2.1
  have p4 : ck_lk E 108 (4 + 0) = 0 + (1 * σ 5 + 0) := (hP _ (List.mem_of_getElem? (i := 4) rfl)).2.2
  have q4 : (0 : Int) ≤ 4 + 0 := (hP _ (List.mem_of_getElem? (i := 4) rfl)).2.1
  have p5 : ck_lk E 72 (0 + (1 * σ 0 + 0)) = 0 + (1 * σ 6 + 0) := (hP _ (List.mem_of_getElem? (i := 5) rfl)).2.2
  have q5 : (0 : Int) ≤ 0 + (1 * σ 0 + 0) := (hP _ (List.mem_of_getElem? (i := 5) rfl)).2.1
  have p6 : ck_lk E 115 (5000 + (1 * σ 0 + 0)) = 0 + (1 * σ 7 + 0) := (hP _ (List.mem_of_getElem? (i := 6) rfl)).2.2
  have q6 : (0 : Int) ≤ 5000 + (1 * σ 0 + 0) := (hP _ (List.mem_of_getElem? (i := 6) rfl)).2.1
  have key : (((0 : Int) ≤ 0 + 0 ∧ ck_lk (va_up E 72 e') 108 (0 + 0) = 0 + (1 * σ 1 + 0)) ∧ ((0 : Int) ≤ 1 + 0 ∧ ck_lk (va_up E 72 e') 108 (1 + 0) = 0 + (1 * σ 2 + 0)) ∧ ((0 : Int) ≤ 2 + 0 ∧ ck_lk (va_up E 72 e') 108 (2 + 0) = 0 + (1 * σ 3 + 0)) ∧ ((0 : Int) ≤ 3 + 0 ∧ ck_lk (va_up E 72 e') 108 (3 + 0) = 0 + (1 * σ 4 + 0)) ∧ ((0 : Int) ≤ 4 + 0 ∧ ck_lk (va_up E 72 e') 108 (4 + 0) = 0 + (1 * σ 5 + 0)) ∧ ((0 : Int) ≤ 5001 + (1 * σ 0 + 0) ∧ ck_lk (va_up E 72 e') 115 (5001 + (1 * σ 0 + 0)) = 1 + 0) ∧ True) := by
    rw [kc (i := 0 + σ 0) (by decide) (by omega)] at p5
    rw [ck_lk_v (by decide)] at p6
    have hp := cb_ge p6 (by omega)
    refine ⟨⟨by decide, ?_⟩, ⟨by decide, ?_⟩, ⟨by decide, ?_⟩, ⟨by decide, ?_⟩, ⟨by decide, ?_⟩, ⟨by omega, ?_⟩, trivial⟩
    · rw [k108 (c := 0) (by decide)] at p0
      rw [k108 (c := 0) (by decide), vf_wx_st hgi hgi2 (by decide) (by decide) l2 ⟨fun q => absurd q (by decide), fun q => absurd q (by decide), fun q => absurd q (by decide), fun q => absurd q (by decide), fun _ => by omega⟩]
      exact p0
    · rw [k108 (c := 1) (by decide)] at p1
      rw [k108 (c := 1) (by decide), vf_wx_st hgi hgi2 (by decide) (by decide) l2 ⟨fun q => absurd q (by decide), fun q => absurd q (by decide), fun q => absurd q (by decide), fun q => absurd q (by decide), fun _ => by omega⟩]
      exact p1
    · rw [k108 (c := 2) (by decide)] at p2
      rw [k108 (c := 2) (by decide), vf_wx_st hgi hgi2 (by decide) (by decide) l2 ⟨fun q => absurd q (by decide), fun q => absurd q (by decide), fun q => absurd q (by decide), fun q => absurd q (by decide), fun _ => by omega⟩]
      exact p2
    · rw [k108 (c := 3) (by decide)] at p3
      rw [k108 (c := 3) (by decide), vf_wx_st hgi hgi2 (by decide) (by decide) l2 ⟨fun q => absurd q (by decide), fun q => absurd q (by decide), fun q => absurd q (by decide), fun q => absurd q (by decide), fun _ => by omega⟩]
      exact p3
    · rw [k108 (c := 4) (by decide)] at p4
      rw [k108 (c := 4) (by decide), vf_wx_st hgi hgi2 (by decide) (by decide) l2 ⟨fun q => absurd q (by decide), fun q => absurd q (by decide), fun q => absurd q (by decide), fun q => absurd q (by decide), fun _ => by omega⟩]
      exact p4
    · rw [ck_lk_v (by decide)]
      refine (cb_t ?_).trans rfl
      intro i i0 i1
      have i1 : i < (5001 + (1 * σ 0 + 0)) % 1000 := i1
      show ck_loc (va_up E 72 e' 72) (24 * ((5001 + (1 * σ 0 + 0)) / 1000 % 10) + i) = ck_loc (va_up E 72 e' 72) (24 * ((5001 + (1 * σ 0 + 0)) / 10000) + i)
      rw [va_up_self, show (5001 + (1 * σ 0 + 0)) / 1000 % 10 = 5 by omega, show (5001 + (1 * σ 0 + 0)) / 10000 = 0 by omega]
      have hp : ∀ i : Int, 0 ≤ i → i < (5000 + (1 * σ 0 + 0)) % 1000 → ck_loc (E 72) (24 * ((5000 + (1 * σ 0 + 0)) / 1000 % 10) + i) = ck_loc (E 72) (24 * ((5000 + (1 * σ 0 + 0)) / 10000) + i) := hp
      rw [show (5000 + (1 * σ 0 + 0)) / 1000 % 10 = 5 by omega, show (5000 + (1 * σ 0 + 0)) / 10000 = 0 by omega] at hp
      rw [l2 (24 * 0 + i) (by omega) (by omega)]
      by_cases hi : i = σ 0
      · rw [hi, show (24 * 5 + σ 0 : Int) = 120 + (1 * σ 0 + 0) by omega, l1, show (24 * 0 + σ 0 : Int) = 0 + σ 0 by omega, p5]
      · rw [l2 (24 * 5 + i) (by omega) (by omega)]
        exact hp i i0 (by omega)
  obtain ⟨k0, k1, k2, k3, k4, k5, -⟩ := key
  exact ⟨_, (List.mem_of_getElem? (i := 0) rfl), σ, ck_ag_rf, (fun _ h => absurd h List.not_mem_nil), (fun _ h => absurd h List.not_mem_nil), trivial, (List.forall_mem_cons.mpr ⟨⟨⟨ck_wb_ok rfl, ck_wb_ok rfl⟩, k0⟩, (List.forall_mem_cons.mpr ⟨⟨⟨ck_wb_ok rfl, ck_wb_ok rfl⟩, k1⟩, (List.forall_mem_cons.mpr ⟨⟨⟨ck_wb_ok rfl, ck_wb_ok rfl⟩, k2⟩, (List.forall_mem_cons.mpr ⟨⟨⟨ck_wb_ok rfl, ck_wb_ok rfl⟩, k3⟩, (List.forall_mem_cons.mpr ⟨⟨⟨ck_wb_ok rfl, ck_wb_ok rfl⟩, k4⟩, (List.forall_mem_cons.mpr ⟨⟨⟨ck_wb_ok rfl, ck_wb_ok rfl⟩, k5⟩, (fun _ h => absurd h List.not_mem_nil)⟩)⟩)⟩)⟩)⟩)⟩), (fun _ h => absurd h List.not_mem_nil)⟩
theorem ccCW2_0_5 {l : Launch} {D : va_G} {kp : Nat → ClassId} : ck_con l D kp ck_NN ceCW2_0_5 := ck_con_s (k := 72) rfl rpCW2_0_5
theorem rpWC_0_5 : ck_gcon ceWC_0_5 := by
  intro σ E hgi hF hP hΦ
  have f0 : (0 : Int) ≤ (-1) + (1 * σ 0 + 0) := hF _ (List.mem_of_getElem? (i := 0) rfl)
  have f1 : (0 : Int) ≤ (-1) + (1 * σ 17 + 0) := hF _ (List.mem_of_getElem? (i := 1) rfl)
  have f2 : (0 : Int) ≤ (-1) + (1 * σ 18 + 0) := hF _ (List.mem_of_getElem? (i := 2) rfl)
  have f3 : (0 : Int) ≤ 0 + (1 * σ 1 + ((-1) * σ 2 + 0)) := hF _ (List.mem_of_getElem? (i := 3) rfl)
  have f4 : (0 : Int) ≤ 0 + ((-1) * σ 1 + (1 * σ 2 + 0)) := hF _ (List.mem_of_getElem? (i := 4) rfl)
  have f5 : (0 : Int) ≤ 0 + (1 * σ 3 + ((-1) * σ 4 + 0)) := hF _ (List.mem_of_getElem? (i := 5) rfl)
  have f6 : (0 : Int) ≤ 0 + ((-1) * σ 3 + (1 * σ 4 + 0)) := hF _ (List.mem_of_getElem? (i := 6) rfl)
  have f7 : (0 : Int) ≤ 0 + (1 * σ 5 + ((-1) * σ 11 + 0)) := hF _ (List.mem_of_getElem? (i := 7) rfl)
  have f8 : (0 : Int) ≤ 0 + ((-1) * σ 5 + (1 * σ 11 + 0)) := hF _ (List.mem_of_getElem? (i := 8) rfl)
  have f9 : (0 : Int) ≤ 0 + (1 * σ 6 + ((-1) * σ 12 + 0)) := hF _ (List.mem_of_getElem? (i := 9) rfl)
  have f10 : (0 : Int) ≤ 0 + ((-1) * σ 6 + (1 * σ 12 + 0)) := hF _ (List.mem_of_getElem? (i := 10) rfl)
  have f11 : (0 : Int) ≤ 0 + (1 * σ 7 + ((-1) * σ 13 + 0)) := hF _ (List.mem_of_getElem? (i := 11) rfl)
  have f12 : (0 : Int) ≤ 0 + ((-1) * σ 7 + (1 * σ 13 + 0)) := hF _ (List.mem_of_getElem? (i := 12) rfl)
  have f13 : (0 : Int) ≤ 0 + (1 * σ 8 + ((-1) * σ 14 + 0)) := hF _ (List.mem_of_getElem? (i := 13) rfl)
  have f14 : (0 : Int) ≤ 0 + ((-1) * σ 8 + (1 * σ 14 + 0)) := hF _ (List.mem_of_getElem? (i := 14) rfl)
  have f15 : (0 : Int) ≤ 0 + (1 * σ 9 + ((-1) * σ 15 + 0)) := hF _ (List.mem_of_getElem? (i := 15) rfl)
  have f16 : (0 : Int) ≤ 0 + ((-1) * σ 9 + (1 * σ 15 + 0)) := hF _ (List.mem_of_getElem? (i := 16) rfl)
  have f17 : (0 : Int) ≤ 0 + (1 * σ 10 + ((-1) * σ 16 + 0)) := hF _ (List.mem_of_getElem? (i := 17) rfl)
  have f18 : (0 : Int) ≤ 0 + ((-1) * σ 10 + (1 * σ 16 + 0)) := hF _ (List.mem_of_getElem? (i := 18) rfl)
  have p0 : ck_lk E 108 (0 + 0) = 0 + (1 * σ 0 + 0) := (hP _ (List.mem_of_getElem? (i := 0) rfl)).2.2
  have q0 : (0 : Int) ≤ 0 + 0 := (hP _ (List.mem_of_getElem? (i := 0) rfl)).2.1
  have p1 : ck_lk E 65 (0 + 0) = 0 + (1 * σ 1 + 0) := (hP _ (List.mem_of_getElem? (i := 1) rfl)).2.2
  have q1 : (0 : Int) ≤ 0 + 0 := (hP _ (List.mem_of_getElem? (i := 1) rfl)).2.1
  have p2 : ck_lk E 65 (5 + 0) = 0 + (1 * σ 2 + 0) := (hP _ (List.mem_of_getElem? (i := 2) rfl)).2.2
  have q2 : (0 : Int) ≤ 5 + 0 := (hP _ (List.mem_of_getElem? (i := 2) rfl)).2.1
  have p3 : ck_lk E 70 (1 + 0) = 0 + (1 * σ 3 + 0) := (hP _ (List.mem_of_getElem? (i := 3) rfl)).2.2
  have q3 : (0 : Int) ≤ 1 + 0 := (hP _ (List.mem_of_getElem? (i := 3) rfl)).2.1
  have p4 : ck_lk E 70 (11 + 0) = 0 + (1 * σ 4 + 0) := (hP _ (List.mem_of_getElem? (i := 4) rfl)).2.2
  have q4 : (0 : Int) ≤ 11 + 0 := (hP _ (List.mem_of_getElem? (i := 4) rfl)).2.1
  have p5 : ck_lk E 67 (0 + 0) = 0 + (1 * σ 5 + 0) := (hP _ (List.mem_of_getElem? (i := 5) rfl)).2.2
  have q5 : (0 : Int) ≤ 0 + 0 := (hP _ (List.mem_of_getElem? (i := 5) rfl)).2.1
  have p6 : ck_lk E 67 (1 + 0) = 0 + (1 * σ 6 + 0) := (hP _ (List.mem_of_getElem? (i := 6) rfl)).2.2
  have q6 : (0 : Int) ≤ 1 + 0 := (hP _ (List.mem_of_getElem? (i := 6) rfl)).2.1
  have p7 : ck_lk E 67 (2 + 0) = 0 + (1 * σ 7 + 0) := (hP _ (List.mem_of_getElem? (i := 7) rfl)).2.2
  have q7 : (0 : Int) ≤ 2 + 0 := (hP _ (List.mem_of_getElem? (i := 7) rfl)).2.1
  have p8 : ck_lk E 67 (3 + 0) = 0 + (1 * σ 8 + 0) := (hP _ (List.mem_of_getElem? (i := 8) rfl)).2.2
  have q8 : (0 : Int) ≤ 3 + 0 := (hP _ (List.mem_of_getElem? (i := 8) rfl)).2.1
  have p9 : ck_lk E 67 (4 + 0) = 0 + (1 * σ 9 + 0) := (hP _ (List.mem_of_getElem? (i := 9) rfl)).2.2
  have q9 : (0 : Int) ≤ 4 + 0 := (hP _ (List.mem_of_getElem? (i := 9) rfl)).2.1
  have p10 : ck_lk E 67 (5 + 0) = 0 + (1 * σ 10 + 0) := (hP _ (List.mem_of_getElem? (i := 10) rfl)).2.2
  have q10 : (0 : Int) ≤ 5 + 0 := (hP _ (List.mem_of_getElem? (i := 10) rfl)).2.1
  have p11 : ck_lk E 67 (30 + 0) = 0 + (1 * σ 11 + 0) := (hP _ (List.mem_of_getElem? (i := 11) rfl)).2.2
  have q11 : (0 : Int) ≤ 30 + 0 := (hP _ (List.mem_of_getElem? (i := 11) rfl)).2.1
  have p12 : ck_lk E 67 (31 + 0) = 0 + (1 * σ 12 + 0) := (hP _ (List.mem_of_getElem? (i := 12) rfl)).2.2
  have q12 : (0 : Int) ≤ 31 + 0 := (hP _ (List.mem_of_getElem? (i := 12) rfl)).2.1
  have p13 : ck_lk E 67 (32 + 0) = 0 + (1 * σ 13 + 0) := (hP _ (List.mem_of_getElem? (i := 13) rfl)).2.2
  have q13 : (0 : Int) ≤ 32 + 0 := (hP _ (List.mem_of_getElem? (i := 13) rfl)).2.1
  have p14 : ck_lk E 67 (33 + 0) = 0 + (1 * σ 14 + 0) := (hP _ (List.mem_of_getElem? (i := 14) rfl)).2.2
  have q14 : (0 : Int) ≤ 33 + 0 := (hP _ (List.mem_of_getElem? (i := 14) rfl)).2.1
  have p15 : ck_lk E 67 (34 + 0) = 0 + (1 * σ 15 + 0) := (hP _ (List.mem_of_getElem? (i := 15) rfl)).2.2
  have q15 : (0 : Int) ≤ 34 + 0 := (hP _ (List.mem_of_getElem? (i := 15) rfl)).2.1
  have p16 : ck_lk E 67 (35 + 0) = 0 + (1 * σ 16 + 0) := (hP _ (List.mem_of_getElem? (i := 16) rfl)).2.2
  have q16 : (0 : Int) ≤ 35 + 0 := (hP _ (List.mem_of_getElem? (i := 16) rfl)).2.1
  have p17 : ck_lk E 114 (5048 + 0) = 0 + (1 * σ 17 + 0) := (hP _ (List.mem_of_getElem? (i := 17) rfl)).2.2
  have q17 : (0 : Int) ≤ 5048 + 0 := (hP _ (List.mem_of_getElem? (i := 17) rfl)).2.1
  have p18 : ck_lk E 115 (5024 + 0) = 0 + (1 * σ 18 + 0) := (hP _ (List.mem_of_getElem? (i := 18) rfl)).2.2
  have q18 : (0 : Int) ≤ 5024 + 0 := (hP _ (List.mem_of_getElem? (i := 18) rfl)).2.1
  have key : (((0 : Int) ≤ 5 + 0 ∧ ck_lk E 108 (5 + 0) = 1 + 0) ∧ True) := by
    rw [k108 (c := 0) (by decide)] at p0
    have hw := cb_ge p0 (by omega)
    rw [kc (i := 0) (by decide) (by decide)] at p1
    rw [kc (i := 5) (by decide) (by decide)] at p2
    rw [kc (i := 1) (by decide) (by decide)] at p3
    rw [kc (i := 11) (by decide) (by decide)] at p4
    rw [kc (i := 0) (by decide) (by decide)] at p5
    rw [kc (i := 30) (by decide) (by decide)] at p11
    rw [kc (i := 1) (by decide) (by decide)] at p6
    rw [kc (i := 31) (by decide) (by decide)] at p12
    rw [kc (i := 2) (by decide) (by decide)] at p7
    rw [kc (i := 32) (by decide) (by decide)] at p13
    rw [kc (i := 3) (by decide) (by decide)] at p8
    rw [kc (i := 33) (by decide) (by decide)] at p14
    rw [kc (i := 4) (by decide) (by decide)] at p9
    rw [kc (i := 34) (by decide) (by decide)] at p15
    rw [kc (i := 5) (by decide) (by decide)] at p10
    rw [kc (i := 35) (by decide) (by decide)] at p16
    rw [ck_lk_v (by decide)] at p17 p18
    have h9 : ∀ i : Int, 0 ≤ i → i < 48 → ck_loc (E 69) (48 * 5 + i) = ck_loc (E 69) (48 * 0 + i) := cb_ge p17 (by omega)
    have h2 : ∀ i : Int, 0 ≤ i → i < 24 → ck_loc (E 72) (24 * 5 + i) = ck_loc (E 72) (24 * 0 + i) := cb_ge p18 (by omega)
    refine ⟨⟨by decide, ?_⟩, trivial⟩
    rw [k108 (c := 5) (by decide)]
    refine (cb_t ?_).trans rfl
    refine vf_wx_mono (a := 0) hgi (by decide) (by decide) (by omega) (fun r r0 r6 => ?_) h9 (show ck_loc (E 70) 11 = ck_loc (E 70) 1 by omega) h2 hw
    have hr : r = 0 ∨ r = 1 ∨ r = 2 ∨ r = 3 ∨ r = 4 ∨ r = 5 := by omega
    rcases hr with rfl | rfl | rfl | rfl | rfl | rfl
    · show ck_loc (E 67) 30 = ck_loc (E 67) 0
      omega
    · show ck_loc (E 67) 31 = ck_loc (E 67) 1
      omega
    · show ck_loc (E 67) 32 = ck_loc (E 67) 2
      omega
    · show ck_loc (E 67) 33 = ck_loc (E 67) 3
      omega
    · show ck_loc (E 67) 34 = ck_loc (E 67) 4
      omega
    · show ck_loc (E 67) 35 = ck_loc (E 67) 5
      omega
  obtain ⟨k0, -⟩ := key
  exact ⟨_, (List.mem_of_getElem? (i := 0) rfl), σ, ck_ag_rf, (fun _ h => absurd h List.not_mem_nil), (fun _ h => absurd h List.not_mem_nil), trivial, (List.forall_mem_cons.mpr ⟨⟨⟨ck_wb_ok rfl, ck_wb_ok rfl⟩, k0⟩, (fun _ h => absurd h List.not_mem_nil)⟩), (fun _ h => absurd h List.not_mem_nil)⟩
theorem ccWC_0_5 {l : Launch} {D : va_G} {kp : Nat → ClassId} : ck_con l D kp ck_NN ceWC_0_5 := ck_con_g rfl rpWC_0_5
theorem rpC14_5_0 : ck_gcon ceC14_5_0 := by
  intro σ E hgi hF hP hΦ
  have key : (((0 : Int) ≤ 50000 + 0 ∧ ck_lk E 114 (50000 + 0) = 1 + 0) ∧ True) := by
    refine ⟨⟨by decide, ?_⟩, trivial⟩
    rw [ck_lk_v (by decide)]
    refine (cb_t ?_).trans rfl
    intro i i0 i1
    have i1 : i < (50000 + 0 : Int) % 1000 := i1
    omega
  obtain ⟨k0, -⟩ := key
  exact ⟨_, (List.mem_of_getElem? (i := 0) rfl), σ, ck_ag_rf, (fun _ h => absurd h List.not_mem_nil), (fun _ h => absurd h List.not_mem_nil), trivial, (List.forall_mem_cons.mpr ⟨⟨⟨ck_wb_ok rfl, ck_wb_ok rfl⟩, k0⟩, (fun _ h => absurd h List.not_mem_nil)⟩), (fun _ h => absurd h List.not_mem_nil)⟩
theorem ccC14_5_0 {l : Launch} {D : va_G} {kp : Nat → ClassId} : ck_con l D kp ck_NN ceC14_5_0 := ck_con_g rfl rpC14_5_0
theorem rpC15_5_0 : ck_gcon ceC15_5_0 := by
  intro σ E hgi hF hP hΦ
  have key : (((0 : Int) ≤ 50000 + 0 ∧ ck_lk E 115 (50000 + 0) = 1 + 0) ∧ True) := by
    refine ⟨⟨by decide, ?_⟩, trivial⟩
    rw [ck_lk_v (by decide)]
    refine (cb_t ?_).trans rfl
    intro i i0 i1
    have i1 : i < (50000 + 0 : Int) % 1000 := i1
    omega
  obtain ⟨k0, -⟩ := key
  exact ⟨_, (List.mem_of_getElem? (i := 0) rfl), σ, ck_ag_rf, (fun _ h => absurd h List.not_mem_nil), (fun _ h => absurd h List.not_mem_nil), trivial, (List.forall_mem_cons.mpr ⟨⟨⟨ck_wb_ok rfl, ck_wb_ok rfl⟩, k0⟩, (fun _ h => absurd h List.not_mem_nil)⟩), (fun _ h => absurd h List.not_mem_nil)⟩
theorem ccC15_5_0 {l : Launch} {D : va_G} {kp : Nat → ClassId} : ck_con l D kp ck_NN ceC15_5_0 := ck_con_g rfl rpC15_5_0
theorem rpCW9_5_0 : ck_scon ceCW9_5_0 69 := by
  intro σ E e' idx v hargs hgi hF hP hΦ hgi2 h0 l1 l2
  cases hargs
  have h0 : (0 : Int) ≤ 0 + (1 * σ 0 + 0) := h0
  have l1 : ck_loc e' (0 + (1 * σ 0 + 0)) = 0 + (1 * σ 6 + 0) := l1
  have l2 : ∀ j, 0 ≤ j → ¬ j = 0 + (1 * σ 0 + 0) → ck_loc e' j = ck_loc (E 69) j := l2
  have f0 : (0 : Int) ≤ 0 + (1 * σ 0 + 0) := hF _ (List.mem_of_getElem? (i := 0) rfl)
  have f1 : (0 : Int) ≤ 47 + ((-1) * σ 0 + 0) := hF _ (List.mem_of_getElem? (i := 1) rfl)
  have f2 : (0 : Int) ≤ (-1) + (1 * σ 7 + 0) := hF _ (List.mem_of_getElem? (i := 2) rfl)
  have p0 : ck_lk E 108 (1 + 0) = 0 + (1 * σ 1 + 0) := (hP _ (List.mem_of_getElem? (i := 0) rfl)).2.2
  have q0 : (0 : Int) ≤ 1 + 0 := (hP _ (List.mem_of_getElem? (i := 0) rfl)).2.1
  have p1 : ck_lk E 108 (2 + 0) = 0 + (1 * σ 2 + 0) := (hP _ (List.mem_of_getElem? (i := 1) rfl)).2.2
  have q1 : (0 : Int) ≤ 2 + 0 := (hP _ (List.mem_of_getElem? (i := 1) rfl)).2.1
  have p2 : ck_lk E 108 (3 + 0) = 0 + (1 * σ 3 + 0) := (hP _ (List.mem_of_getElem? (i := 2) rfl)).2.2
  have q2 : (0 : Int) ≤ 3 + 0 := (hP _ (List.mem_of_getElem? (i := 2) rfl)).2.1
  have p3 : ck_lk E 108 (4 + 0) = 0 + (1 * σ 4 + 0) := (hP _ (List.mem_of_getElem? (i := 3) rfl)).2.2
  have q3 : (0 : Int) ≤ 4 + 0 := (hP _ (List.mem_of_getElem? (i := 3) rfl)).2.1
  have p4 : ck_lk E 108 (5 + 0) = 0 + (1 * σ 5 + 0) := (hP _ (List.mem_of_getElem? (i := 4) rfl)).2.2
  have q4 : (0 : Int) ≤ 5 + 0 := (hP _ (List.mem_of_getElem? (i := 4) rfl)).2.1
  have p5 : ck_lk E 69 (240 + (1 * σ 0 + 0)) = 0 + (1 * σ 6 + 0) := (hP _ (List.mem_of_getElem? (i := 5) rfl)).2.2
  have q5 : (0 : Int) ≤ 240 + (1 * σ 0 + 0) := (hP _ (List.mem_of_getElem? (i := 5) rfl)).2.1
  have p6 : ck_lk E 114 (50000 + (1 * σ 0 + 0)) = 0 + (1 * σ 7 + 0) := (hP _ (List.mem_of_getElem? (i := 6) rfl)).2.2
  have q6 : (0 : Int) ≤ 50000 + (1 * σ 0 + 0) := (hP _ (List.mem_of_getElem? (i := 6) rfl)).2.1
  have key : (((0 : Int) ≤ 1 + 0 ∧ ck_lk (va_up E 69 e') 108 (1 + 0) = 0 + (1 * σ 1 + 0)) ∧ ((0 : Int) ≤ 2 + 0 ∧ ck_lk (va_up E 69 e') 108 (2 + 0) = 0 + (1 * σ 2 + 0)) ∧ ((0 : Int) ≤ 3 + 0 ∧ ck_lk (va_up E 69 e') 108 (3 + 0) = 0 + (1 * σ 3 + 0)) ∧ ((0 : Int) ≤ 4 + 0 ∧ ck_lk (va_up E 69 e') 108 (4 + 0) = 0 + (1 * σ 4 + 0)) ∧ ((0 : Int) ≤ 5 + 0 ∧ ck_lk (va_up E 69 e') 108 (5 + 0) = 0 + (1 * σ 5 + 0)) ∧ ((0 : Int) ≤ 50001 + (1 * σ 0 + 0) ∧ ck_lk (va_up E 69 e') 114 (50001 + (1 * σ 0 + 0)) = 1 + 0) ∧ True) := by
    rw [kc (i := 240 + σ 0) (by decide) (by omega)] at p5
    rw [ck_lk_v (by decide)] at p6
    have hp := cb_ge p6 (by omega)
    refine ⟨⟨by decide, ?_⟩, ⟨by decide, ?_⟩, ⟨by decide, ?_⟩, ⟨by decide, ?_⟩, ⟨by decide, ?_⟩, ⟨by omega, ?_⟩, trivial⟩
    · rw [k108 (c := 1) (by decide)] at p0
      rw [k108 (c := 1) (by decide), vf_wx_st hgi hgi2 (by decide) (by decide) l2 ⟨fun q => absurd q (by decide), fun q => absurd q (by decide), fun _ => by omega, fun q => absurd q (by decide), fun q => absurd q (by decide)⟩]
      exact p0
    · rw [k108 (c := 2) (by decide)] at p1
      rw [k108 (c := 2) (by decide), vf_wx_st hgi hgi2 (by decide) (by decide) l2 ⟨fun q => absurd q (by decide), fun q => absurd q (by decide), fun _ => by omega, fun q => absurd q (by decide), fun q => absurd q (by decide)⟩]
      exact p1
    · rw [k108 (c := 3) (by decide)] at p2
      rw [k108 (c := 3) (by decide), vf_wx_st hgi hgi2 (by decide) (by decide) l2 ⟨fun q => absurd q (by decide), fun q => absurd q (by decide), fun _ => by omega, fun q => absurd q (by decide), fun q => absurd q (by decide)⟩]
      exact p2
    · rw [k108 (c := 4) (by decide)] at p3
      rw [k108 (c := 4) (by decide), vf_wx_st hgi hgi2 (by decide) (by decide) l2 ⟨fun q => absurd q (by decide), fun q => absurd q (by decide), fun _ => by omega, fun q => absurd q (by decide), fun q => absurd q (by decide)⟩]
      exact p3
    · rw [k108 (c := 5) (by decide)] at p4
      rw [k108 (c := 5) (by decide), vf_wx_st hgi hgi2 (by decide) (by decide) l2 ⟨fun q => absurd q (by decide), fun q => absurd q (by decide), fun _ => by omega, fun q => absurd q (by decide), fun q => absurd q (by decide)⟩]
      exact p4
    · rw [ck_lk_v (by decide)]
      refine (cb_t ?_).trans rfl
      intro i i0 i1
      have i1 : i < (50001 + (1 * σ 0 + 0)) % 1000 := i1
      show ck_loc (va_up E 69 e' 69) (48 * ((50001 + (1 * σ 0 + 0)) / 1000 % 10) + i) = ck_loc (va_up E 69 e' 69) (48 * ((50001 + (1 * σ 0 + 0)) / 10000) + i)
      rw [va_up_self, show (50001 + (1 * σ 0 + 0)) / 1000 % 10 = 0 by omega, show (50001 + (1 * σ 0 + 0)) / 10000 = 5 by omega]
      have hp : ∀ i : Int, 0 ≤ i → i < (50000 + (1 * σ 0 + 0)) % 1000 → ck_loc (E 69) (48 * ((50000 + (1 * σ 0 + 0)) / 1000 % 10) + i) = ck_loc (E 69) (48 * ((50000 + (1 * σ 0 + 0)) / 10000) + i) := hp
      rw [show (50000 + (1 * σ 0 + 0)) / 1000 % 10 = 0 by omega, show (50000 + (1 * σ 0 + 0)) / 10000 = 5 by omega] at hp
      rw [l2 (48 * 5 + i) (by omega) (by omega)]
      by_cases hi : i = σ 0
      · rw [hi, show (48 * 0 + σ 0 : Int) = 0 + (1 * σ 0 + 0) by omega, l1, show (48 * 5 + σ 0 : Int) = 240 + σ 0 by omega, p5]
      · rw [l2 (48 * 0 + i) (by omega) (by omega)]
        exact hp i i0 (by omega)
  obtain ⟨k0, k1, k2, k3, k4, k5, -⟩ := key
  exact ⟨_, (List.mem_of_getElem? (i := 0) rfl), σ, ck_ag_rf, (fun _ h => absurd h List.not_mem_nil), (fun _ h => absurd h List.not_mem_nil), trivial, (List.forall_mem_cons.mpr ⟨⟨⟨ck_wb_ok rfl, ck_wb_ok rfl⟩, k0⟩, (List.forall_mem_cons.mpr ⟨⟨⟨ck_wb_ok rfl, ck_wb_ok rfl⟩, k1⟩, (List.forall_mem_cons.mpr ⟨⟨⟨ck_wb_ok rfl, ck_wb_ok rfl⟩, k2⟩, (List.forall_mem_cons.mpr ⟨⟨⟨ck_wb_ok rfl, ck_wb_ok rfl⟩, k3⟩, (List.forall_mem_cons.mpr ⟨⟨⟨ck_wb_ok rfl, ck_wb_ok rfl⟩, k4⟩, (List.forall_mem_cons.mpr ⟨⟨⟨ck_wb_ok rfl, ck_wb_ok rfl⟩, k5⟩, (fun _ h => absurd h List.not_mem_nil)⟩)⟩)⟩)⟩)⟩)⟩), (fun _ h => absurd h List.not_mem_nil)⟩
theorem ccCW9_5_0 {l : Launch} {D : va_G} {kp : Nat → ClassId} : ck_con l D kp ck_NN ceCW9_5_0 := ck_con_s (k := 69) rfl rpCW9_5_0
theorem rpCW2_5_0 : ck_scon ceCW2_5_0 72 := by
  intro σ E e' idx v hargs hgi hF hP hΦ hgi2 h0 l1 l2
  cases hargs
  have h0 : (0 : Int) ≤ 0 + (1 * σ 0 + 0) := h0
  have l1 : ck_loc e' (0 + (1 * σ 0 + 0)) = 0 + (1 * σ 6 + 0) := l1
  have l2 : ∀ j, 0 ≤ j → ¬ j = 0 + (1 * σ 0 + 0) → ck_loc e' j = ck_loc (E 72) j := l2
  have f0 : (0 : Int) ≤ 0 + (1 * σ 0 + 0) := hF _ (List.mem_of_getElem? (i := 0) rfl)
  have f1 : (0 : Int) ≤ 23 + ((-1) * σ 0 + 0) := hF _ (List.mem_of_getElem? (i := 1) rfl)
  have f2 : (0 : Int) ≤ (-1) + (1 * σ 7 + 0) := hF _ (List.mem_of_getElem? (i := 2) rfl)
  have p0 : ck_lk E 108 (1 + 0) = 0 + (1 * σ 1 + 0) := (hP _ (List.mem_of_getElem? (i := 0) rfl)).2.2
  have q0 : (0 : Int) ≤ 1 + 0 := (hP _ (List.mem_of_getElem? (i := 0) rfl)).2.1
  have p1 : ck_lk E 108 (2 + 0) = 0 + (1 * σ 2 + 0) := (hP _ (List.mem_of_getElem? (i := 1) rfl)).2.2
  have q1 : (0 : Int) ≤ 2 + 0 := (hP _ (List.mem_of_getElem? (i := 1) rfl)).2.1
  have p2 : ck_lk E 108 (3 + 0) = 0 + (1 * σ 3 + 0) := (hP _ (List.mem_of_getElem? (i := 2) rfl)).2.2
  have q2 : (0 : Int) ≤ 3 + 0 := (hP _ (List.mem_of_getElem? (i := 2) rfl)).2.1
  have p3 : ck_lk E 108 (4 + 0) = 0 + (1 * σ 4 + 0) := (hP _ (List.mem_of_getElem? (i := 3) rfl)).2.2
  have q3 : (0 : Int) ≤ 4 + 0 := (hP _ (List.mem_of_getElem? (i := 3) rfl)).2.1
  have p4 : ck_lk E 108 (5 + 0) = 0 + (1 * σ 5 + 0) := (hP _ (List.mem_of_getElem? (i := 4) rfl)).2.2
  have q4 : (0 : Int) ≤ 5 + 0 := (hP _ (List.mem_of_getElem? (i := 4) rfl)).2.1
  have p5 : ck_lk E 72 (120 + (1 * σ 0 + 0)) = 0 + (1 * σ 6 + 0) := (hP _ (List.mem_of_getElem? (i := 5) rfl)).2.2
  have q5 : (0 : Int) ≤ 120 + (1 * σ 0 + 0) := (hP _ (List.mem_of_getElem? (i := 5) rfl)).2.1
  have p6 : ck_lk E 115 (50000 + (1 * σ 0 + 0)) = 0 + (1 * σ 7 + 0) := (hP _ (List.mem_of_getElem? (i := 6) rfl)).2.2
  have q6 : (0 : Int) ≤ 50000 + (1 * σ 0 + 0) := (hP _ (List.mem_of_getElem? (i := 6) rfl)).2.1
  have key : (((0 : Int) ≤ 1 + 0 ∧ ck_lk (va_up E 72 e') 108 (1 + 0) = 0 + (1 * σ 1 + 0)) ∧ ((0 : Int) ≤ 2 + 0 ∧ ck_lk (va_up E 72 e') 108 (2 + 0) = 0 + (1 * σ 2 + 0)) ∧ ((0 : Int) ≤ 3 + 0 ∧ ck_lk (va_up E 72 e') 108 (3 + 0) = 0 + (1 * σ 3 + 0)) ∧ ((0 : Int) ≤ 4 + 0 ∧ ck_lk (va_up E 72 e') 108 (4 + 0) = 0 + (1 * σ 4 + 0)) ∧ ((0 : Int) ≤ 5 + 0 ∧ ck_lk (va_up E 72 e') 108 (5 + 0) = 0 + (1 * σ 5 + 0)) ∧ ((0 : Int) ≤ 50001 + (1 * σ 0 + 0) ∧ ck_lk (va_up E 72 e') 115 (50001 + (1 * σ 0 + 0)) = 1 + 0) ∧ True) := by
    rw [kc (i := 120 + σ 0) (by decide) (by omega)] at p5
    rw [ck_lk_v (by decide)] at p6
    have hp := cb_ge p6 (by omega)
    refine ⟨⟨by decide, ?_⟩, ⟨by decide, ?_⟩, ⟨by decide, ?_⟩, ⟨by decide, ?_⟩, ⟨by decide, ?_⟩, ⟨by omega, ?_⟩, trivial⟩
    · rw [k108 (c := 1) (by decide)] at p0
      rw [k108 (c := 1) (by decide), vf_wx_st hgi hgi2 (by decide) (by decide) l2 ⟨fun q => absurd q (by decide), fun q => absurd q (by decide), fun q => absurd q (by decide), fun q => absurd q (by decide), fun _ => by omega⟩]
      exact p0
    · rw [k108 (c := 2) (by decide)] at p1
      rw [k108 (c := 2) (by decide), vf_wx_st hgi hgi2 (by decide) (by decide) l2 ⟨fun q => absurd q (by decide), fun q => absurd q (by decide), fun q => absurd q (by decide), fun q => absurd q (by decide), fun _ => by omega⟩]
      exact p1
    · rw [k108 (c := 3) (by decide)] at p2
      rw [k108 (c := 3) (by decide), vf_wx_st hgi hgi2 (by decide) (by decide) l2 ⟨fun q => absurd q (by decide), fun q => absurd q (by decide), fun q => absurd q (by decide), fun q => absurd q (by decide), fun _ => by omega⟩]
      exact p2
    · rw [k108 (c := 4) (by decide)] at p3
      rw [k108 (c := 4) (by decide), vf_wx_st hgi hgi2 (by decide) (by decide) l2 ⟨fun q => absurd q (by decide), fun q => absurd q (by decide), fun q => absurd q (by decide), fun q => absurd q (by decide), fun _ => by omega⟩]
      exact p3
    · rw [k108 (c := 5) (by decide)] at p4
      rw [k108 (c := 5) (by decide), vf_wx_st hgi hgi2 (by decide) (by decide) l2 ⟨fun q => absurd q (by decide), fun q => absurd q (by decide), fun q => absurd q (by decide), fun q => absurd q (by decide), fun _ => by omega⟩]
      exact p4
    · rw [ck_lk_v (by decide)]
      refine (cb_t ?_).trans rfl
      intro i i0 i1
      have i1 : i < (50001 + (1 * σ 0 + 0)) % 1000 := i1
      show ck_loc (va_up E 72 e' 72) (24 * ((50001 + (1 * σ 0 + 0)) / 1000 % 10) + i) = ck_loc (va_up E 72 e' 72) (24 * ((50001 + (1 * σ 0 + 0)) / 10000) + i)
      rw [va_up_self, show (50001 + (1 * σ 0 + 0)) / 1000 % 10 = 0 by omega, show (50001 + (1 * σ 0 + 0)) / 10000 = 5 by omega]
      have hp : ∀ i : Int, 0 ≤ i → i < (50000 + (1 * σ 0 + 0)) % 1000 → ck_loc (E 72) (24 * ((50000 + (1 * σ 0 + 0)) / 1000 % 10) + i) = ck_loc (E 72) (24 * ((50000 + (1 * σ 0 + 0)) / 10000) + i) := hp
      rw [show (50000 + (1 * σ 0 + 0)) / 1000 % 10 = 0 by omega, show (50000 + (1 * σ 0 + 0)) / 10000 = 5 by omega] at hp
      rw [l2 (24 * 5 + i) (by omega) (by omega)]
      by_cases hi : i = σ 0
      · rw [hi, show (24 * 0 + σ 0 : Int) = 0 + (1 * σ 0 + 0) by omega, l1, show (24 * 5 + σ 0 : Int) = 120 + σ 0 by omega, p5]
      · rw [l2 (24 * 0 + i) (by omega) (by omega)]
        exact hp i i0 (by omega)
  obtain ⟨k0, k1, k2, k3, k4, k5, -⟩ := key
  exact ⟨_, (List.mem_of_getElem? (i := 0) rfl), σ, ck_ag_rf, (fun _ h => absurd h List.not_mem_nil), (fun _ h => absurd h List.not_mem_nil), trivial, (List.forall_mem_cons.mpr ⟨⟨⟨ck_wb_ok rfl, ck_wb_ok rfl⟩, k0⟩, (List.forall_mem_cons.mpr ⟨⟨⟨ck_wb_ok rfl, ck_wb_ok rfl⟩, k1⟩, (List.forall_mem_cons.mpr ⟨⟨⟨ck_wb_ok rfl, ck_wb_ok rfl⟩, k2⟩, (List.forall_mem_cons.mpr ⟨⟨⟨ck_wb_ok rfl, ck_wb_ok rfl⟩, k3⟩, (List.forall_mem_cons.mpr ⟨⟨⟨ck_wb_ok rfl, ck_wb_ok rfl⟩, k4⟩, (List.forall_mem_cons.mpr ⟨⟨⟨ck_wb_ok rfl, ck_wb_ok rfl⟩, k5⟩, (fun _ h => absurd h List.not_mem_nil)⟩)⟩)⟩)⟩)⟩)⟩), (fun _ h => absurd h List.not_mem_nil)⟩
theorem ccCW2_5_0 {l : Launch} {D : va_G} {kp : Nat → ClassId} : ck_con l D kp ck_NN ceCW2_5_0 := ck_con_s (k := 72) rfl rpCW2_5_0
theorem rpWC_5_0 : ck_gcon ceWC_5_0 := by
  intro σ E hgi hF hP hΦ
  have f0 : (0 : Int) ≤ (-1) + (1 * σ 0 + 0) := hF _ (List.mem_of_getElem? (i := 0) rfl)
  have f1 : (0 : Int) ≤ (-1) + (1 * σ 17 + 0) := hF _ (List.mem_of_getElem? (i := 1) rfl)
  have f2 : (0 : Int) ≤ (-1) + (1 * σ 18 + 0) := hF _ (List.mem_of_getElem? (i := 2) rfl)
  have f3 : (0 : Int) ≤ 0 + (1 * σ 1 + ((-1) * σ 2 + 0)) := hF _ (List.mem_of_getElem? (i := 3) rfl)
  have f4 : (0 : Int) ≤ 0 + ((-1) * σ 1 + (1 * σ 2 + 0)) := hF _ (List.mem_of_getElem? (i := 4) rfl)
  have f5 : (0 : Int) ≤ 0 + (1 * σ 3 + ((-1) * σ 4 + 0)) := hF _ (List.mem_of_getElem? (i := 5) rfl)
  have f6 : (0 : Int) ≤ 0 + ((-1) * σ 3 + (1 * σ 4 + 0)) := hF _ (List.mem_of_getElem? (i := 6) rfl)
  have f7 : (0 : Int) ≤ 0 + (1 * σ 5 + ((-1) * σ 11 + 0)) := hF _ (List.mem_of_getElem? (i := 7) rfl)
  have f8 : (0 : Int) ≤ 0 + ((-1) * σ 5 + (1 * σ 11 + 0)) := hF _ (List.mem_of_getElem? (i := 8) rfl)
  have f9 : (0 : Int) ≤ 0 + (1 * σ 6 + ((-1) * σ 12 + 0)) := hF _ (List.mem_of_getElem? (i := 9) rfl)
  have f10 : (0 : Int) ≤ 0 + ((-1) * σ 6 + (1 * σ 12 + 0)) := hF _ (List.mem_of_getElem? (i := 10) rfl)
  have f11 : (0 : Int) ≤ 0 + (1 * σ 7 + ((-1) * σ 13 + 0)) := hF _ (List.mem_of_getElem? (i := 11) rfl)
  have f12 : (0 : Int) ≤ 0 + ((-1) * σ 7 + (1 * σ 13 + 0)) := hF _ (List.mem_of_getElem? (i := 12) rfl)
  have f13 : (0 : Int) ≤ 0 + (1 * σ 8 + ((-1) * σ 14 + 0)) := hF _ (List.mem_of_getElem? (i := 13) rfl)
  have f14 : (0 : Int) ≤ 0 + ((-1) * σ 8 + (1 * σ 14 + 0)) := hF _ (List.mem_of_getElem? (i := 14) rfl)
  have f15 : (0 : Int) ≤ 0 + (1 * σ 9 + ((-1) * σ 15 + 0)) := hF _ (List.mem_of_getElem? (i := 15) rfl)
  have f16 : (0 : Int) ≤ 0 + ((-1) * σ 9 + (1 * σ 15 + 0)) := hF _ (List.mem_of_getElem? (i := 16) rfl)
  have f17 : (0 : Int) ≤ 0 + (1 * σ 10 + ((-1) * σ 16 + 0)) := hF _ (List.mem_of_getElem? (i := 17) rfl)
  have f18 : (0 : Int) ≤ 0 + ((-1) * σ 10 + (1 * σ 16 + 0)) := hF _ (List.mem_of_getElem? (i := 18) rfl)
  have p0 : ck_lk E 108 (5 + 0) = 0 + (1 * σ 0 + 0) := (hP _ (List.mem_of_getElem? (i := 0) rfl)).2.2
  have q0 : (0 : Int) ≤ 5 + 0 := (hP _ (List.mem_of_getElem? (i := 0) rfl)).2.1
  have p1 : ck_lk E 65 (5 + 0) = 0 + (1 * σ 1 + 0) := (hP _ (List.mem_of_getElem? (i := 1) rfl)).2.2
  have q1 : (0 : Int) ≤ 5 + 0 := (hP _ (List.mem_of_getElem? (i := 1) rfl)).2.1
  have p2 : ck_lk E 65 (0 + 0) = 0 + (1 * σ 2 + 0) := (hP _ (List.mem_of_getElem? (i := 2) rfl)).2.2
  have q2 : (0 : Int) ≤ 0 + 0 := (hP _ (List.mem_of_getElem? (i := 2) rfl)).2.1
  have p3 : ck_lk E 70 (11 + 0) = 0 + (1 * σ 3 + 0) := (hP _ (List.mem_of_getElem? (i := 3) rfl)).2.2
  have q3 : (0 : Int) ≤ 11 + 0 := (hP _ (List.mem_of_getElem? (i := 3) rfl)).2.1
  have p4 : ck_lk E 70 (1 + 0) = 0 + (1 * σ 4 + 0) := (hP _ (List.mem_of_getElem? (i := 4) rfl)).2.2
  have q4 : (0 : Int) ≤ 1 + 0 := (hP _ (List.mem_of_getElem? (i := 4) rfl)).2.1
  have p5 : ck_lk E 67 (30 + 0) = 0 + (1 * σ 5 + 0) := (hP _ (List.mem_of_getElem? (i := 5) rfl)).2.2
  have q5 : (0 : Int) ≤ 30 + 0 := (hP _ (List.mem_of_getElem? (i := 5) rfl)).2.1
  have p6 : ck_lk E 67 (31 + 0) = 0 + (1 * σ 6 + 0) := (hP _ (List.mem_of_getElem? (i := 6) rfl)).2.2
  have q6 : (0 : Int) ≤ 31 + 0 := (hP _ (List.mem_of_getElem? (i := 6) rfl)).2.1
  have p7 : ck_lk E 67 (32 + 0) = 0 + (1 * σ 7 + 0) := (hP _ (List.mem_of_getElem? (i := 7) rfl)).2.2
  have q7 : (0 : Int) ≤ 32 + 0 := (hP _ (List.mem_of_getElem? (i := 7) rfl)).2.1
  have p8 : ck_lk E 67 (33 + 0) = 0 + (1 * σ 8 + 0) := (hP _ (List.mem_of_getElem? (i := 8) rfl)).2.2
  have q8 : (0 : Int) ≤ 33 + 0 := (hP _ (List.mem_of_getElem? (i := 8) rfl)).2.1
  have p9 : ck_lk E 67 (34 + 0) = 0 + (1 * σ 9 + 0) := (hP _ (List.mem_of_getElem? (i := 9) rfl)).2.2
  have q9 : (0 : Int) ≤ 34 + 0 := (hP _ (List.mem_of_getElem? (i := 9) rfl)).2.1
  have p10 : ck_lk E 67 (35 + 0) = 0 + (1 * σ 10 + 0) := (hP _ (List.mem_of_getElem? (i := 10) rfl)).2.2
  have q10 : (0 : Int) ≤ 35 + 0 := (hP _ (List.mem_of_getElem? (i := 10) rfl)).2.1
  have p11 : ck_lk E 67 (0 + 0) = 0 + (1 * σ 11 + 0) := (hP _ (List.mem_of_getElem? (i := 11) rfl)).2.2
  have q11 : (0 : Int) ≤ 0 + 0 := (hP _ (List.mem_of_getElem? (i := 11) rfl)).2.1
  have p12 : ck_lk E 67 (1 + 0) = 0 + (1 * σ 12 + 0) := (hP _ (List.mem_of_getElem? (i := 12) rfl)).2.2
  have q12 : (0 : Int) ≤ 1 + 0 := (hP _ (List.mem_of_getElem? (i := 12) rfl)).2.1
  have p13 : ck_lk E 67 (2 + 0) = 0 + (1 * σ 13 + 0) := (hP _ (List.mem_of_getElem? (i := 13) rfl)).2.2
  have q13 : (0 : Int) ≤ 2 + 0 := (hP _ (List.mem_of_getElem? (i := 13) rfl)).2.1
  have p14 : ck_lk E 67 (3 + 0) = 0 + (1 * σ 14 + 0) := (hP _ (List.mem_of_getElem? (i := 14) rfl)).2.2
  have q14 : (0 : Int) ≤ 3 + 0 := (hP _ (List.mem_of_getElem? (i := 14) rfl)).2.1
  have p15 : ck_lk E 67 (4 + 0) = 0 + (1 * σ 15 + 0) := (hP _ (List.mem_of_getElem? (i := 15) rfl)).2.2
  have q15 : (0 : Int) ≤ 4 + 0 := (hP _ (List.mem_of_getElem? (i := 15) rfl)).2.1
  have p16 : ck_lk E 67 (5 + 0) = 0 + (1 * σ 16 + 0) := (hP _ (List.mem_of_getElem? (i := 16) rfl)).2.2
  have q16 : (0 : Int) ≤ 5 + 0 := (hP _ (List.mem_of_getElem? (i := 16) rfl)).2.1
  have p17 : ck_lk E 114 (50048 + 0) = 0 + (1 * σ 17 + 0) := (hP _ (List.mem_of_getElem? (i := 17) rfl)).2.2
  have q17 : (0 : Int) ≤ 50048 + 0 := (hP _ (List.mem_of_getElem? (i := 17) rfl)).2.1
  have p18 : ck_lk E 115 (50024 + 0) = 0 + (1 * σ 18 + 0) := (hP _ (List.mem_of_getElem? (i := 18) rfl)).2.2
  have q18 : (0 : Int) ≤ 50024 + 0 := (hP _ (List.mem_of_getElem? (i := 18) rfl)).2.1
  have key : (((0 : Int) ≤ 0 + 0 ∧ ck_lk E 108 (0 + 0) = 1 + 0) ∧ True) := by
    rw [k108 (c := 5) (by decide)] at p0
    have hw := cb_ge p0 (by omega)
    rw [kc (i := 5) (by decide) (by decide)] at p1
    rw [kc (i := 0) (by decide) (by decide)] at p2
    rw [kc (i := 11) (by decide) (by decide)] at p3
    rw [kc (i := 1) (by decide) (by decide)] at p4
    rw [kc (i := 30) (by decide) (by decide)] at p5
    rw [kc (i := 0) (by decide) (by decide)] at p11
    rw [kc (i := 31) (by decide) (by decide)] at p6
    rw [kc (i := 1) (by decide) (by decide)] at p12
    rw [kc (i := 32) (by decide) (by decide)] at p7
    rw [kc (i := 2) (by decide) (by decide)] at p13
    rw [kc (i := 33) (by decide) (by decide)] at p8
    rw [kc (i := 3) (by decide) (by decide)] at p14
    rw [kc (i := 34) (by decide) (by decide)] at p9
    rw [kc (i := 4) (by decide) (by decide)] at p15
    rw [kc (i := 35) (by decide) (by decide)] at p10
    rw [kc (i := 5) (by decide) (by decide)] at p16
    rw [ck_lk_v (by decide)] at p17 p18
    have h9 : ∀ i : Int, 0 ≤ i → i < 48 → ck_loc (E 69) (48 * 0 + i) = ck_loc (E 69) (48 * 5 + i) := cb_ge p17 (by omega)
    have h2 : ∀ i : Int, 0 ≤ i → i < 24 → ck_loc (E 72) (24 * 0 + i) = ck_loc (E 72) (24 * 5 + i) := cb_ge p18 (by omega)
    refine ⟨⟨by decide, ?_⟩, trivial⟩
    rw [k108 (c := 0) (by decide)]
    refine (cb_t ?_).trans rfl
    refine vf_wx_mono (a := 5) hgi (by decide) (by decide) (by omega) (fun r r0 r6 => ?_) h9 (show ck_loc (E 70) 1 = ck_loc (E 70) 11 by omega) h2 hw
    have hr : r = 0 ∨ r = 1 ∨ r = 2 ∨ r = 3 ∨ r = 4 ∨ r = 5 := by omega
    rcases hr with rfl | rfl | rfl | rfl | rfl | rfl
    · show ck_loc (E 67) 0 = ck_loc (E 67) 30
      omega
    · show ck_loc (E 67) 1 = ck_loc (E 67) 31
      omega
    · show ck_loc (E 67) 2 = ck_loc (E 67) 32
      omega
    · show ck_loc (E 67) 3 = ck_loc (E 67) 33
      omega
    · show ck_loc (E 67) 4 = ck_loc (E 67) 34
      omega
    · show ck_loc (E 67) 5 = ck_loc (E 67) 35
      omega
  obtain ⟨k0, -⟩ := key
  exact ⟨_, (List.mem_of_getElem? (i := 0) rfl), σ, ck_ag_rf, (fun _ h => absurd h List.not_mem_nil), (fun _ h => absurd h List.not_mem_nil), trivial, (List.forall_mem_cons.mpr ⟨⟨⟨ck_wb_ok rfl, ck_wb_ok rfl⟩, k0⟩, (fun _ h => absurd h List.not_mem_nil)⟩), (fun _ h => absurd h List.not_mem_nil)⟩
theorem ccWC_5_0 {l : Launch} {D : va_G} {kp : Nat → ClassId} : ck_con l D kp ck_NN ceWC_5_0 := ck_con_g rfl rpWC_5_0
theorem rpC14_0_1 : ck_gcon ceC14_0_1 := by
  intro σ E hgi hF hP hΦ
  have key : (((0 : Int) ≤ 1000 + 0 ∧ ck_lk E 114 (1000 + 0) = 1 + 0) ∧ True) := by
    refine ⟨⟨by decide, ?_⟩, trivial⟩
    rw [ck_lk_v (by decide)]
    refine (cb_t ?_).trans rfl
    intro i i0 i1
    have i1 : i < (1000 + 0 : Int) % 1000 := i1
    omega
  obtain ⟨k0, -⟩ := key
  exact ⟨_, (List.mem_of_getElem? (i := 0) rfl), σ, ck_ag_rf, (fun _ h => absurd h List.not_mem_nil), (fun _ h => absurd h List.not_mem_nil), trivial, (List.forall_mem_cons.mpr ⟨⟨⟨ck_wb_ok rfl, ck_wb_ok rfl⟩, k0⟩, (fun _ h => absurd h List.not_mem_nil)⟩), (fun _ h => absurd h List.not_mem_nil)⟩
theorem ccC14_0_1 {l : Launch} {D : va_G} {kp : Nat → ClassId} : ck_con l D kp ck_NN ceC14_0_1 := ck_con_g rfl rpC14_0_1
theorem rpC15_0_1 : ck_gcon ceC15_0_1 := by
  intro σ E hgi hF hP hΦ
  have key : (((0 : Int) ≤ 1000 + 0 ∧ ck_lk E 115 (1000 + 0) = 1 + 0) ∧ True) := by
    refine ⟨⟨by decide, ?_⟩, trivial⟩
    rw [ck_lk_v (by decide)]
    refine (cb_t ?_).trans rfl
    intro i i0 i1
    have i1 : i < (1000 + 0 : Int) % 1000 := i1
    omega
  obtain ⟨k0, -⟩ := key
  exact ⟨_, (List.mem_of_getElem? (i := 0) rfl), σ, ck_ag_rf, (fun _ h => absurd h List.not_mem_nil), (fun _ h => absurd h List.not_mem_nil), trivial, (List.forall_mem_cons.mpr ⟨⟨⟨ck_wb_ok rfl, ck_wb_ok rfl⟩, k0⟩, (fun _ h => absurd h List.not_mem_nil)⟩), (fun _ h => absurd h List.not_mem_nil)⟩
theorem ccC15_0_1 {l : Launch} {D : va_G} {kp : Nat → ClassId} : ck_con l D kp ck_NN ceC15_0_1 := ck_con_g rfl rpC15_0_1
theorem rpCW9_0_1 : ck_scon ceCW9_0_1 69 := by
  intro σ E e' idx v hargs hgi hF hP hΦ hgi2 h0 l1 l2
  cases hargs
  have h0 : (0 : Int) ≤ 48 + (1 * σ 0 + 0) := h0
  have l1 : ck_loc e' (48 + (1 * σ 0 + 0)) = 0 + (1 * σ 6 + 0) := l1
  have l2 : ∀ j, 0 ≤ j → ¬ j = 48 + (1 * σ 0 + 0) → ck_loc e' j = ck_loc (E 69) j := l2
  have f0 : (0 : Int) ≤ 0 + (1 * σ 0 + 0) := hF _ (List.mem_of_getElem? (i := 0) rfl)
  have f1 : (0 : Int) ≤ 47 + ((-1) * σ 0 + 0) := hF _ (List.mem_of_getElem? (i := 1) rfl)
  have f2 : (0 : Int) ≤ (-1) + (1 * σ 7 + 0) := hF _ (List.mem_of_getElem? (i := 2) rfl)
  have p0 : ck_lk E 108 (0 + 0) = 0 + (1 * σ 1 + 0) := (hP _ (List.mem_of_getElem? (i := 0) rfl)).2.2
  have q0 : (0 : Int) ≤ 0 + 0 := (hP _ (List.mem_of_getElem? (i := 0) rfl)).2.1
  have p1 : ck_lk E 108 (2 + 0) = 0 + (1 * σ 2 + 0) := (hP _ (List.mem_of_getElem? (i := 1) rfl)).2.2
  have q1 : (0 : Int) ≤ 2 + 0 := (hP _ (List.mem_of_getElem? (i := 1) rfl)).2.1
  have p2 : ck_lk E 108 (3 + 0) = 0 + (1 * σ 3 + 0) := (hP _ (List.mem_of_getElem? (i := 2) rfl)).2.2
  have q2 : (0 : Int) ≤ 3 + 0 := (hP _ (List.mem_of_getElem? (i := 2) rfl)).2.1
  have p3 : ck_lk E 108 (4 + 0) = 0 + (1 * σ 4 + 0) := (hP _ (List.mem_of_getElem? (i := 3) rfl)).2.2
  have q3 : (0 : Int) ≤ 4 + 0 := (hP _ (List.mem_of_getElem? (i := 3) rfl)).2.1
  have p4 : ck_lk E 108 (5 + 0) = 0 + (1 * σ 5 + 0) := (hP _ (List.mem_of_getElem? (i := 4) rfl)).2.2
  have q4 : (0 : Int) ≤ 5 + 0 := (hP _ (List.mem_of_getElem? (i := 4) rfl)).2.1
  have p5 : ck_lk E 69 (0 + (1 * σ 0 + 0)) = 0 + (1 * σ 6 + 0) := (hP _ (List.mem_of_getElem? (i := 5) rfl)).2.2
  have q5 : (0 : Int) ≤ 0 + (1 * σ 0 + 0) := (hP _ (List.mem_of_getElem? (i := 5) rfl)).2.1
  have p6 : ck_lk E 114 (1000 + (1 * σ 0 + 0)) = 0 + (1 * σ 7 + 0) := (hP _ (List.mem_of_getElem? (i := 6) rfl)).2.2
  have q6 : (0 : Int) ≤ 1000 + (1 * σ 0 + 0) := (hP _ (List.mem_of_getElem? (i := 6) rfl)).2.1
  have key : (((0 : Int) ≤ 0 + 0 ∧ ck_lk (va_up E 69 e') 108 (0 + 0) = 0 + (1 * σ 1 + 0)) ∧ ((0 : Int) ≤ 2 + 0 ∧ ck_lk (va_up E 69 e') 108 (2 + 0) = 0 + (1 * σ 2 + 0)) ∧ ((0 : Int) ≤ 3 + 0 ∧ ck_lk (va_up E 69 e') 108 (3 + 0) = 0 + (1 * σ 3 + 0)) ∧ ((0 : Int) ≤ 4 + 0 ∧ ck_lk (va_up E 69 e') 108 (4 + 0) = 0 + (1 * σ 4 + 0)) ∧ ((0 : Int) ≤ 5 + 0 ∧ ck_lk (va_up E 69 e') 108 (5 + 0) = 0 + (1 * σ 5 + 0)) ∧ ((0 : Int) ≤ 1001 + (1 * σ 0 + 0) ∧ ck_lk (va_up E 69 e') 114 (1001 + (1 * σ 0 + 0)) = 1 + 0) ∧ True) := by
    rw [kc (i := 0 + σ 0) (by decide) (by omega)] at p5
    rw [ck_lk_v (by decide)] at p6
    have hp := cb_ge p6 (by omega)
    refine ⟨⟨by decide, ?_⟩, ⟨by decide, ?_⟩, ⟨by decide, ?_⟩, ⟨by decide, ?_⟩, ⟨by decide, ?_⟩, ⟨by omega, ?_⟩, trivial⟩
    · rw [k108 (c := 0) (by decide)] at p0
      rw [k108 (c := 0) (by decide), vf_wx_st hgi hgi2 (by decide) (by decide) l2 ⟨fun q => absurd q (by decide), fun q => absurd q (by decide), fun _ => by omega, fun q => absurd q (by decide), fun q => absurd q (by decide)⟩]
      exact p0
    · rw [k108 (c := 2) (by decide)] at p1
      rw [k108 (c := 2) (by decide), vf_wx_st hgi hgi2 (by decide) (by decide) l2 ⟨fun q => absurd q (by decide), fun q => absurd q (by decide), fun _ => by omega, fun q => absurd q (by decide), fun q => absurd q (by decide)⟩]
      exact p1
    · rw [k108 (c := 3) (by decide)] at p2
      rw [k108 (c := 3) (by decide), vf_wx_st hgi hgi2 (by decide) (by decide) l2 ⟨fun q => absurd q (by decide), fun q => absurd q (by decide), fun _ => by omega, fun q => absurd q (by decide), fun q => absurd q (by decide)⟩]
      exact p2
    · rw [k108 (c := 4) (by decide)] at p3
      rw [k108 (c := 4) (by decide), vf_wx_st hgi hgi2 (by decide) (by decide) l2 ⟨fun q => absurd q (by decide), fun q => absurd q (by decide), fun _ => by omega, fun q => absurd q (by decide), fun q => absurd q (by decide)⟩]
      exact p3
    · rw [k108 (c := 5) (by decide)] at p4
      rw [k108 (c := 5) (by decide), vf_wx_st hgi hgi2 (by decide) (by decide) l2 ⟨fun q => absurd q (by decide), fun q => absurd q (by decide), fun _ => by omega, fun q => absurd q (by decide), fun q => absurd q (by decide)⟩]
      exact p4
    · rw [ck_lk_v (by decide)]
      refine (cb_t ?_).trans rfl
      intro i i0 i1
      have i1 : i < (1001 + (1 * σ 0 + 0)) % 1000 := i1
      show ck_loc (va_up E 69 e' 69) (48 * ((1001 + (1 * σ 0 + 0)) / 1000 % 10) + i) = ck_loc (va_up E 69 e' 69) (48 * ((1001 + (1 * σ 0 + 0)) / 10000) + i)
      rw [va_up_self, show (1001 + (1 * σ 0 + 0)) / 1000 % 10 = 1 by omega, show (1001 + (1 * σ 0 + 0)) / 10000 = 0 by omega]
      have hp : ∀ i : Int, 0 ≤ i → i < (1000 + (1 * σ 0 + 0)) % 1000 → ck_loc (E 69) (48 * ((1000 + (1 * σ 0 + 0)) / 1000 % 10) + i) = ck_loc (E 69) (48 * ((1000 + (1 * σ 0 + 0)) / 10000) + i) := hp
      rw [show (1000 + (1 * σ 0 + 0)) / 1000 % 10 = 1 by omega, show (1000 + (1 * σ 0 + 0)) / 10000 = 0 by omega] at hp
      rw [l2 (48 * 0 + i) (by omega) (by omega)]
      by_cases hi : i = σ 0
      · rw [hi, show (48 * 1 + σ 0 : Int) = 48 + (1 * σ 0 + 0) by omega, l1, show (48 * 0 + σ 0 : Int) = 0 + σ 0 by omega, p5]
      · rw [l2 (48 * 1 + i) (by omega) (by omega)]
        exact hp i i0 (by omega)
  obtain ⟨k0, k1, k2, k3, k4, k5, -⟩ := key
  exact ⟨_, (List.mem_of_getElem? (i := 0) rfl), σ, ck_ag_rf, (fun _ h => absurd h List.not_mem_nil), (fun _ h => absurd h List.not_mem_nil), trivial, (List.forall_mem_cons.mpr ⟨⟨⟨ck_wb_ok rfl, ck_wb_ok rfl⟩, k0⟩, (List.forall_mem_cons.mpr ⟨⟨⟨ck_wb_ok rfl, ck_wb_ok rfl⟩, k1⟩, (List.forall_mem_cons.mpr ⟨⟨⟨ck_wb_ok rfl, ck_wb_ok rfl⟩, k2⟩, (List.forall_mem_cons.mpr ⟨⟨⟨ck_wb_ok rfl, ck_wb_ok rfl⟩, k3⟩, (List.forall_mem_cons.mpr ⟨⟨⟨ck_wb_ok rfl, ck_wb_ok rfl⟩, k4⟩, (List.forall_mem_cons.mpr ⟨⟨⟨ck_wb_ok rfl, ck_wb_ok rfl⟩, k5⟩, (fun _ h => absurd h List.not_mem_nil)⟩)⟩)⟩)⟩)⟩)⟩), (fun _ h => absurd h List.not_mem_nil)⟩
theorem ccCW9_0_1 {l : Launch} {D : va_G} {kp : Nat → ClassId} : ck_con l D kp ck_NN ceCW9_0_1 := ck_con_s (k := 69) rfl rpCW9_0_1
theorem rpCW2_0_1 : ck_scon ceCW2_0_1 72 := by
  intro σ E e' idx v hargs hgi hF hP hΦ hgi2 h0 l1 l2
  cases hargs
  have h0 : (0 : Int) ≤ 24 + (1 * σ 0 + 0) := h0
  have l1 : ck_loc e' (24 + (1 * σ 0 + 0)) = 0 + (1 * σ 6 + 0) := l1
  have l2 : ∀ j, 0 ≤ j → ¬ j = 24 + (1 * σ 0 + 0) → ck_loc e' j = ck_loc (E 72) j := l2
  have f0 : (0 : Int) ≤ 0 + (1 * σ 0 + 0) := hF _ (List.mem_of_getElem? (i := 0) rfl)
  have f1 : (0 : Int) ≤ 23 + ((-1) * σ 0 + 0) := hF _ (List.mem_of_getElem? (i := 1) rfl)
  have f2 : (0 : Int) ≤ (-1) + (1 * σ 7 + 0) := hF _ (List.mem_of_getElem? (i := 2) rfl)
  have p0 : ck_lk E 108 (0 + 0) = 0 + (1 * σ 1 + 0) := (hP _ (List.mem_of_getElem? (i := 0) rfl)).2.2
  have q0 : (0 : Int) ≤ 0 + 0 := (hP _ (List.mem_of_getElem? (i := 0) rfl)).2.1
  have p1 : ck_lk E 108 (2 + 0) = 0 + (1 * σ 2 + 0) := (hP _ (List.mem_of_getElem? (i := 1) rfl)).2.2
  have q1 : (0 : Int) ≤ 2 + 0 := (hP _ (List.mem_of_getElem? (i := 1) rfl)).2.1
  have p2 : ck_lk E 108 (3 + 0) = 0 + (1 * σ 3 + 0) := (hP _ (List.mem_of_getElem? (i := 2) rfl)).2.2
  have q2 : (0 : Int) ≤ 3 + 0 := (hP _ (List.mem_of_getElem? (i := 2) rfl)).2.1
  have p3 : ck_lk E 108 (4 + 0) = 0 + (1 * σ 4 + 0) := (hP _ (List.mem_of_getElem? (i := 3) rfl)).2.2
  have q3 : (0 : Int) ≤ 4 + 0 := (hP _ (List.mem_of_getElem? (i := 3) rfl)).2.1
  have p4 : ck_lk E 108 (5 + 0) = 0 + (1 * σ 5 + 0) := (hP _ (List.mem_of_getElem? (i := 4) rfl)).2.2
  have q4 : (0 : Int) ≤ 5 + 0 := (hP _ (List.mem_of_getElem? (i := 4) rfl)).2.1
  have p5 : ck_lk E 72 (0 + (1 * σ 0 + 0)) = 0 + (1 * σ 6 + 0) := (hP _ (List.mem_of_getElem? (i := 5) rfl)).2.2
  have q5 : (0 : Int) ≤ 0 + (1 * σ 0 + 0) := (hP _ (List.mem_of_getElem? (i := 5) rfl)).2.1
  have p6 : ck_lk E 115 (1000 + (1 * σ 0 + 0)) = 0 + (1 * σ 7 + 0) := (hP _ (List.mem_of_getElem? (i := 6) rfl)).2.2
  have q6 : (0 : Int) ≤ 1000 + (1 * σ 0 + 0) := (hP _ (List.mem_of_getElem? (i := 6) rfl)).2.1
  have key : (((0 : Int) ≤ 0 + 0 ∧ ck_lk (va_up E 72 e') 108 (0 + 0) = 0 + (1 * σ 1 + 0)) ∧ ((0 : Int) ≤ 2 + 0 ∧ ck_lk (va_up E 72 e') 108 (2 + 0) = 0 + (1 * σ 2 + 0)) ∧ ((0 : Int) ≤ 3 + 0 ∧ ck_lk (va_up E 72 e') 108 (3 + 0) = 0 + (1 * σ 3 + 0)) ∧ ((0 : Int) ≤ 4 + 0 ∧ ck_lk (va_up E 72 e') 108 (4 + 0) = 0 + (1 * σ 4 + 0)) ∧ ((0 : Int) ≤ 5 + 0 ∧ ck_lk (va_up E 72 e') 108 (5 + 0) = 0 + (1 * σ 5 + 0)) ∧ ((0 : Int) ≤ 1001 + (1 * σ 0 + 0) ∧ ck_lk (va_up E 72 e') 115 (1001 + (1 * σ 0 + 0)) = 1 + 0) ∧ True) := by
    rw [kc (i := 0 + σ 0) (by decide) (by omega)] at p5
    rw [ck_lk_v (by decide)] at p6
    have hp := cb_ge p6 (by omega)
    refine ⟨⟨by decide, ?_⟩, ⟨by decide, ?_⟩, ⟨by decide, ?_⟩, ⟨by decide, ?_⟩, ⟨by decide, ?_⟩, ⟨by omega, ?_⟩, trivial⟩
    · rw [k108 (c := 0) (by decide)] at p0
      rw [k108 (c := 0) (by decide), vf_wx_st hgi hgi2 (by decide) (by decide) l2 ⟨fun q => absurd q (by decide), fun q => absurd q (by decide), fun q => absurd q (by decide), fun q => absurd q (by decide), fun _ => by omega⟩]
      exact p0
    · rw [k108 (c := 2) (by decide)] at p1
      rw [k108 (c := 2) (by decide), vf_wx_st hgi hgi2 (by decide) (by decide) l2 ⟨fun q => absurd q (by decide), fun q => absurd q (by decide), fun q => absurd q (by decide), fun q => absurd q (by decide), fun _ => by omega⟩]
      exact p1
    · rw [k108 (c := 3) (by decide)] at p2
      rw [k108 (c := 3) (by decide), vf_wx_st hgi hgi2 (by decide) (by decide) l2 ⟨fun q => absurd q (by decide), fun q => absurd q (by decide), fun q => absurd q (by decide), fun q => absurd q (by decide), fun _ => by omega⟩]
      exact p2
    · rw [k108 (c := 4) (by decide)] at p3
      rw [k108 (c := 4) (by decide), vf_wx_st hgi hgi2 (by decide) (by decide) l2 ⟨fun q => absurd q (by decide), fun q => absurd q (by decide), fun q => absurd q (by decide), fun q => absurd q (by decide), fun _ => by omega⟩]
      exact p3
    · rw [k108 (c := 5) (by decide)] at p4
      rw [k108 (c := 5) (by decide), vf_wx_st hgi hgi2 (by decide) (by decide) l2 ⟨fun q => absurd q (by decide), fun q => absurd q (by decide), fun q => absurd q (by decide), fun q => absurd q (by decide), fun _ => by omega⟩]
      exact p4
    · rw [ck_lk_v (by decide)]
      refine (cb_t ?_).trans rfl
      intro i i0 i1
      have i1 : i < (1001 + (1 * σ 0 + 0)) % 1000 := i1
      show ck_loc (va_up E 72 e' 72) (24 * ((1001 + (1 * σ 0 + 0)) / 1000 % 10) + i) = ck_loc (va_up E 72 e' 72) (24 * ((1001 + (1 * σ 0 + 0)) / 10000) + i)
      rw [va_up_self, show (1001 + (1 * σ 0 + 0)) / 1000 % 10 = 1 by omega, show (1001 + (1 * σ 0 + 0)) / 10000 = 0 by omega]
      have hp : ∀ i : Int, 0 ≤ i → i < (1000 + (1 * σ 0 + 0)) % 1000 → ck_loc (E 72) (24 * ((1000 + (1 * σ 0 + 0)) / 1000 % 10) + i) = ck_loc (E 72) (24 * ((1000 + (1 * σ 0 + 0)) / 10000) + i) := hp
      rw [show (1000 + (1 * σ 0 + 0)) / 1000 % 10 = 1 by omega, show (1000 + (1 * σ 0 + 0)) / 10000 = 0 by omega] at hp
      rw [l2 (24 * 0 + i) (by omega) (by omega)]
      by_cases hi : i = σ 0
      · rw [hi, show (24 * 1 + σ 0 : Int) = 24 + (1 * σ 0 + 0) by omega, l1, show (24 * 0 + σ 0 : Int) = 0 + σ 0 by omega, p5]
      · rw [l2 (24 * 1 + i) (by omega) (by omega)]
        exact hp i i0 (by omega)
  obtain ⟨k0, k1, k2, k3, k4, k5, -⟩ := key
  exact ⟨_, (List.mem_of_getElem? (i := 0) rfl), σ, ck_ag_rf, (fun _ h => absurd h List.not_mem_nil), (fun _ h => absurd h List.not_mem_nil), trivial, (List.forall_mem_cons.mpr ⟨⟨⟨ck_wb_ok rfl, ck_wb_ok rfl⟩, k0⟩, (List.forall_mem_cons.mpr ⟨⟨⟨ck_wb_ok rfl, ck_wb_ok rfl⟩, k1⟩, (List.forall_mem_cons.mpr ⟨⟨⟨ck_wb_ok rfl, ck_wb_ok rfl⟩, k2⟩, (List.forall_mem_cons.mpr ⟨⟨⟨ck_wb_ok rfl, ck_wb_ok rfl⟩, k3⟩, (List.forall_mem_cons.mpr ⟨⟨⟨ck_wb_ok rfl, ck_wb_ok rfl⟩, k4⟩, (List.forall_mem_cons.mpr ⟨⟨⟨ck_wb_ok rfl, ck_wb_ok rfl⟩, k5⟩, (fun _ h => absurd h List.not_mem_nil)⟩)⟩)⟩)⟩)⟩)⟩), (fun _ h => absurd h List.not_mem_nil)⟩
theorem ccCW2_0_1 {l : Launch} {D : va_G} {kp : Nat → ClassId} : ck_con l D kp ck_NN ceCW2_0_1 := ck_con_s (k := 72) rfl rpCW2_0_1
theorem rpWC_0_1 : ck_gcon ceWC_0_1 := by
  intro σ E hgi hF hP hΦ
  have f0 : (0 : Int) ≤ (-1) + (1 * σ 0 + 0) := hF _ (List.mem_of_getElem? (i := 0) rfl)
  have f1 : (0 : Int) ≤ (-1) + (1 * σ 17 + 0) := hF _ (List.mem_of_getElem? (i := 1) rfl)
  have f2 : (0 : Int) ≤ (-1) + (1 * σ 18 + 0) := hF _ (List.mem_of_getElem? (i := 2) rfl)
  have f3 : (0 : Int) ≤ 0 + (1 * σ 1 + ((-1) * σ 2 + 0)) := hF _ (List.mem_of_getElem? (i := 3) rfl)
  have f4 : (0 : Int) ≤ 0 + ((-1) * σ 1 + (1 * σ 2 + 0)) := hF _ (List.mem_of_getElem? (i := 4) rfl)
  have f5 : (0 : Int) ≤ 0 + (1 * σ 3 + ((-1) * σ 4 + 0)) := hF _ (List.mem_of_getElem? (i := 5) rfl)
  have f6 : (0 : Int) ≤ 0 + ((-1) * σ 3 + (1 * σ 4 + 0)) := hF _ (List.mem_of_getElem? (i := 6) rfl)
  have f7 : (0 : Int) ≤ 0 + (1 * σ 5 + ((-1) * σ 11 + 0)) := hF _ (List.mem_of_getElem? (i := 7) rfl)
  have f8 : (0 : Int) ≤ 0 + ((-1) * σ 5 + (1 * σ 11 + 0)) := hF _ (List.mem_of_getElem? (i := 8) rfl)
  have f9 : (0 : Int) ≤ 0 + (1 * σ 6 + ((-1) * σ 12 + 0)) := hF _ (List.mem_of_getElem? (i := 9) rfl)
  have f10 : (0 : Int) ≤ 0 + ((-1) * σ 6 + (1 * σ 12 + 0)) := hF _ (List.mem_of_getElem? (i := 10) rfl)
  have f11 : (0 : Int) ≤ 0 + (1 * σ 7 + ((-1) * σ 13 + 0)) := hF _ (List.mem_of_getElem? (i := 11) rfl)
  have f12 : (0 : Int) ≤ 0 + ((-1) * σ 7 + (1 * σ 13 + 0)) := hF _ (List.mem_of_getElem? (i := 12) rfl)
  have f13 : (0 : Int) ≤ 0 + (1 * σ 8 + ((-1) * σ 14 + 0)) := hF _ (List.mem_of_getElem? (i := 13) rfl)
  have f14 : (0 : Int) ≤ 0 + ((-1) * σ 8 + (1 * σ 14 + 0)) := hF _ (List.mem_of_getElem? (i := 14) rfl)
  have f15 : (0 : Int) ≤ 0 + (1 * σ 9 + ((-1) * σ 15 + 0)) := hF _ (List.mem_of_getElem? (i := 15) rfl)
  have f16 : (0 : Int) ≤ 0 + ((-1) * σ 9 + (1 * σ 15 + 0)) := hF _ (List.mem_of_getElem? (i := 16) rfl)
  have f17 : (0 : Int) ≤ 0 + (1 * σ 10 + ((-1) * σ 16 + 0)) := hF _ (List.mem_of_getElem? (i := 17) rfl)
  have f18 : (0 : Int) ≤ 0 + ((-1) * σ 10 + (1 * σ 16 + 0)) := hF _ (List.mem_of_getElem? (i := 18) rfl)
  have p0 : ck_lk E 108 (0 + 0) = 0 + (1 * σ 0 + 0) := (hP _ (List.mem_of_getElem? (i := 0) rfl)).2.2
  have q0 : (0 : Int) ≤ 0 + 0 := (hP _ (List.mem_of_getElem? (i := 0) rfl)).2.1
  have p1 : ck_lk E 65 (0 + 0) = 0 + (1 * σ 1 + 0) := (hP _ (List.mem_of_getElem? (i := 1) rfl)).2.2
  have q1 : (0 : Int) ≤ 0 + 0 := (hP _ (List.mem_of_getElem? (i := 1) rfl)).2.1
  have p2 : ck_lk E 65 (1 + 0) = 0 + (1 * σ 2 + 0) := (hP _ (List.mem_of_getElem? (i := 2) rfl)).2.2
  have q2 : (0 : Int) ≤ 1 + 0 := (hP _ (List.mem_of_getElem? (i := 2) rfl)).2.1
  have p3 : ck_lk E 70 (1 + 0) = 0 + (1 * σ 3 + 0) := (hP _ (List.mem_of_getElem? (i := 3) rfl)).2.2
  have q3 : (0 : Int) ≤ 1 + 0 := (hP _ (List.mem_of_getElem? (i := 3) rfl)).2.1
  have p4 : ck_lk E 70 (3 + 0) = 0 + (1 * σ 4 + 0) := (hP _ (List.mem_of_getElem? (i := 4) rfl)).2.2
  have q4 : (0 : Int) ≤ 3 + 0 := (hP _ (List.mem_of_getElem? (i := 4) rfl)).2.1
  have p5 : ck_lk E 67 (0 + 0) = 0 + (1 * σ 5 + 0) := (hP _ (List.mem_of_getElem? (i := 5) rfl)).2.2
  have q5 : (0 : Int) ≤ 0 + 0 := (hP _ (List.mem_of_getElem? (i := 5) rfl)).2.1
  have p6 : ck_lk E 67 (1 + 0) = 0 + (1 * σ 6 + 0) := (hP _ (List.mem_of_getElem? (i := 6) rfl)).2.2
  have q6 : (0 : Int) ≤ 1 + 0 := (hP _ (List.mem_of_getElem? (i := 6) rfl)).2.1
  have p7 : ck_lk E 67 (2 + 0) = 0 + (1 * σ 7 + 0) := (hP _ (List.mem_of_getElem? (i := 7) rfl)).2.2
  have q7 : (0 : Int) ≤ 2 + 0 := (hP _ (List.mem_of_getElem? (i := 7) rfl)).2.1
  have p8 : ck_lk E 67 (3 + 0) = 0 + (1 * σ 8 + 0) := (hP _ (List.mem_of_getElem? (i := 8) rfl)).2.2
  have q8 : (0 : Int) ≤ 3 + 0 := (hP _ (List.mem_of_getElem? (i := 8) rfl)).2.1
  have p9 : ck_lk E 67 (4 + 0) = 0 + (1 * σ 9 + 0) := (hP _ (List.mem_of_getElem? (i := 9) rfl)).2.2
  have q9 : (0 : Int) ≤ 4 + 0 := (hP _ (List.mem_of_getElem? (i := 9) rfl)).2.1
  have p10 : ck_lk E 67 (5 + 0) = 0 + (1 * σ 10 + 0) := (hP _ (List.mem_of_getElem? (i := 10) rfl)).2.2
  have q10 : (0 : Int) ≤ 5 + 0 := (hP _ (List.mem_of_getElem? (i := 10) rfl)).2.1
  have p11 : ck_lk E 67 (6 + 0) = 0 + (1 * σ 11 + 0) := (hP _ (List.mem_of_getElem? (i := 11) rfl)).2.2
  have q11 : (0 : Int) ≤ 6 + 0 := (hP _ (List.mem_of_getElem? (i := 11) rfl)).2.1
  have p12 : ck_lk E 67 (7 + 0) = 0 + (1 * σ 12 + 0) := (hP _ (List.mem_of_getElem? (i := 12) rfl)).2.2
  have q12 : (0 : Int) ≤ 7 + 0 := (hP _ (List.mem_of_getElem? (i := 12) rfl)).2.1
  have p13 : ck_lk E 67 (8 + 0) = 0 + (1 * σ 13 + 0) := (hP _ (List.mem_of_getElem? (i := 13) rfl)).2.2
  have q13 : (0 : Int) ≤ 8 + 0 := (hP _ (List.mem_of_getElem? (i := 13) rfl)).2.1
  have p14 : ck_lk E 67 (9 + 0) = 0 + (1 * σ 14 + 0) := (hP _ (List.mem_of_getElem? (i := 14) rfl)).2.2
  have q14 : (0 : Int) ≤ 9 + 0 := (hP _ (List.mem_of_getElem? (i := 14) rfl)).2.1
  have p15 : ck_lk E 67 (10 + 0) = 0 + (1 * σ 15 + 0) := (hP _ (List.mem_of_getElem? (i := 15) rfl)).2.2
  have q15 : (0 : Int) ≤ 10 + 0 := (hP _ (List.mem_of_getElem? (i := 15) rfl)).2.1
  have p16 : ck_lk E 67 (11 + 0) = 0 + (1 * σ 16 + 0) := (hP _ (List.mem_of_getElem? (i := 16) rfl)).2.2
  have q16 : (0 : Int) ≤ 11 + 0 := (hP _ (List.mem_of_getElem? (i := 16) rfl)).2.1
  have p17 : ck_lk E 114 (1048 + 0) = 0 + (1 * σ 17 + 0) := (hP _ (List.mem_of_getElem? (i := 17) rfl)).2.2
  have q17 : (0 : Int) ≤ 1048 + 0 := (hP _ (List.mem_of_getElem? (i := 17) rfl)).2.1
  have p18 : ck_lk E 115 (1024 + 0) = 0 + (1 * σ 18 + 0) := (hP _ (List.mem_of_getElem? (i := 18) rfl)).2.2
  have q18 : (0 : Int) ≤ 1024 + 0 := (hP _ (List.mem_of_getElem? (i := 18) rfl)).2.1
  have key : (((0 : Int) ≤ 1 + 0 ∧ ck_lk E 108 (1 + 0) = 1 + 0) ∧ True) := by
    rw [k108 (c := 0) (by decide)] at p0
    have hw := cb_ge p0 (by omega)
    rw [kc (i := 0) (by decide) (by decide)] at p1
    rw [kc (i := 1) (by decide) (by decide)] at p2
    rw [kc (i := 1) (by decide) (by decide)] at p3
    rw [kc (i := 3) (by decide) (by decide)] at p4
    rw [kc (i := 0) (by decide) (by decide)] at p5
    rw [kc (i := 6) (by decide) (by decide)] at p11
    rw [kc (i := 1) (by decide) (by decide)] at p6
    rw [kc (i := 7) (by decide) (by decide)] at p12
    rw [kc (i := 2) (by decide) (by decide)] at p7
    rw [kc (i := 8) (by decide) (by decide)] at p13
    rw [kc (i := 3) (by decide) (by decide)] at p8
    rw [kc (i := 9) (by decide) (by decide)] at p14
    rw [kc (i := 4) (by decide) (by decide)] at p9
    rw [kc (i := 10) (by decide) (by decide)] at p15
    rw [kc (i := 5) (by decide) (by decide)] at p10
    rw [kc (i := 11) (by decide) (by decide)] at p16
    rw [ck_lk_v (by decide)] at p17 p18
    have h9 : ∀ i : Int, 0 ≤ i → i < 48 → ck_loc (E 69) (48 * 1 + i) = ck_loc (E 69) (48 * 0 + i) := cb_ge p17 (by omega)
    have h2 : ∀ i : Int, 0 ≤ i → i < 24 → ck_loc (E 72) (24 * 1 + i) = ck_loc (E 72) (24 * 0 + i) := cb_ge p18 (by omega)
    refine ⟨⟨by decide, ?_⟩, trivial⟩
    rw [k108 (c := 1) (by decide)]
    refine (cb_t ?_).trans rfl
    refine vf_wx_mono (a := 0) hgi (by decide) (by decide) (by omega) (fun r r0 r6 => ?_) h9 (show ck_loc (E 70) 3 = ck_loc (E 70) 1 by omega) h2 hw
    have hr : r = 0 ∨ r = 1 ∨ r = 2 ∨ r = 3 ∨ r = 4 ∨ r = 5 := by omega
    rcases hr with rfl | rfl | rfl | rfl | rfl | rfl
    · show ck_loc (E 67) 6 = ck_loc (E 67) 0
      omega
    · show ck_loc (E 67) 7 = ck_loc (E 67) 1
      omega
    · show ck_loc (E 67) 8 = ck_loc (E 67) 2
      omega
    · show ck_loc (E 67) 9 = ck_loc (E 67) 3
      omega
    · show ck_loc (E 67) 10 = ck_loc (E 67) 4
      omega
    · show ck_loc (E 67) 11 = ck_loc (E 67) 5
      omega
  obtain ⟨k0, -⟩ := key
  exact ⟨_, (List.mem_of_getElem? (i := 0) rfl), σ, ck_ag_rf, (fun _ h => absurd h List.not_mem_nil), (fun _ h => absurd h List.not_mem_nil), trivial, (List.forall_mem_cons.mpr ⟨⟨⟨ck_wb_ok rfl, ck_wb_ok rfl⟩, k0⟩, (fun _ h => absurd h List.not_mem_nil)⟩), (fun _ h => absurd h List.not_mem_nil)⟩
theorem ccWC_0_1 {l : Launch} {D : va_G} {kp : Nat → ClassId} : ck_con l D kp ck_NN ceWC_0_1 := ck_con_g rfl rpWC_0_1
theorem rpC14_0_2 : ck_gcon ceC14_0_2 := by
  intro σ E hgi hF hP hΦ
  have key : (((0 : Int) ≤ 2000 + 0 ∧ ck_lk E 114 (2000 + 0) = 1 + 0) ∧ True) := by
    refine ⟨⟨by decide, ?_⟩, trivial⟩
    rw [ck_lk_v (by decide)]
    refine (cb_t ?_).trans rfl
    intro i i0 i1
    have i1 : i < (2000 + 0 : Int) % 1000 := i1
    omega
  obtain ⟨k0, -⟩ := key
  exact ⟨_, (List.mem_of_getElem? (i := 0) rfl), σ, ck_ag_rf, (fun _ h => absurd h List.not_mem_nil), (fun _ h => absurd h List.not_mem_nil), trivial, (List.forall_mem_cons.mpr ⟨⟨⟨ck_wb_ok rfl, ck_wb_ok rfl⟩, k0⟩, (fun _ h => absurd h List.not_mem_nil)⟩), (fun _ h => absurd h List.not_mem_nil)⟩
theorem ccC14_0_2 {l : Launch} {D : va_G} {kp : Nat → ClassId} : ck_con l D kp ck_NN ceC14_0_2 := ck_con_g rfl rpC14_0_2
theorem rpC15_0_2 : ck_gcon ceC15_0_2 := by
  intro σ E hgi hF hP hΦ
  have key : (((0 : Int) ≤ 2000 + 0 ∧ ck_lk E 115 (2000 + 0) = 1 + 0) ∧ True) := by
    refine ⟨⟨by decide, ?_⟩, trivial⟩
    rw [ck_lk_v (by decide)]
    refine (cb_t ?_).trans rfl
    intro i i0 i1
    have i1 : i < (2000 + 0 : Int) % 1000 := i1
    omega
  obtain ⟨k0, -⟩ := key
  exact ⟨_, (List.mem_of_getElem? (i := 0) rfl), σ, ck_ag_rf, (fun _ h => absurd h List.not_mem_nil), (fun _ h => absurd h List.not_mem_nil), trivial, (List.forall_mem_cons.mpr ⟨⟨⟨ck_wb_ok rfl, ck_wb_ok rfl⟩, k0⟩, (fun _ h => absurd h List.not_mem_nil)⟩), (fun _ h => absurd h List.not_mem_nil)⟩
theorem ccC15_0_2 {l : Launch} {D : va_G} {kp : Nat → ClassId} : ck_con l D kp ck_NN ceC15_0_2 := ck_con_g rfl rpC15_0_2
theorem rpCW9_0_2 : ck_scon ceCW9_0_2 69 := by
  intro σ E e' idx v hargs hgi hF hP hΦ hgi2 h0 l1 l2
  cases hargs
  have h0 : (0 : Int) ≤ 96 + (1 * σ 0 + 0) := h0
  have l1 : ck_loc e' (96 + (1 * σ 0 + 0)) = 0 + (1 * σ 6 + 0) := l1
  have l2 : ∀ j, 0 ≤ j → ¬ j = 96 + (1 * σ 0 + 0) → ck_loc e' j = ck_loc (E 69) j := l2
  have f0 : (0 : Int) ≤ 0 + (1 * σ 0 + 0) := hF _ (List.mem_of_getElem? (i := 0) rfl)
  have f1 : (0 : Int) ≤ 47 + ((-1) * σ 0 + 0) := hF _ (List.mem_of_getElem? (i := 1) rfl)
  have f2 : (0 : Int) ≤ (-1) + (1 * σ 7 + 0) := hF _ (List.mem_of_getElem? (i := 2) rfl)
  have p0 : ck_lk E 108 (0 + 0) = 0 + (1 * σ 1 + 0) := (hP _ (List.mem_of_getElem? (i := 0) rfl)).2.2
  have q0 : (0 : Int) ≤ 0 + 0 := (hP _ (List.mem_of_getElem? (i := 0) rfl)).2.1
  have p1 : ck_lk E 108 (1 + 0) = 0 + (1 * σ 2 + 0) := (hP _ (List.mem_of_getElem? (i := 1) rfl)).2.2
  have q1 : (0 : Int) ≤ 1 + 0 := (hP _ (List.mem_of_getElem? (i := 1) rfl)).2.1
  have p2 : ck_lk E 108 (3 + 0) = 0 + (1 * σ 3 + 0) := (hP _ (List.mem_of_getElem? (i := 2) rfl)).2.2
  have q2 : (0 : Int) ≤ 3 + 0 := (hP _ (List.mem_of_getElem? (i := 2) rfl)).2.1
  have p3 : ck_lk E 108 (4 + 0) = 0 + (1 * σ 4 + 0) := (hP _ (List.mem_of_getElem? (i := 3) rfl)).2.2
  have q3 : (0 : Int) ≤ 4 + 0 := (hP _ (List.mem_of_getElem? (i := 3) rfl)).2.1
  have p4 : ck_lk E 108 (5 + 0) = 0 + (1 * σ 5 + 0) := (hP _ (List.mem_of_getElem? (i := 4) rfl)).2.2
  have q4 : (0 : Int) ≤ 5 + 0 := (hP _ (List.mem_of_getElem? (i := 4) rfl)).2.1
  have p5 : ck_lk E 69 (0 + (1 * σ 0 + 0)) = 0 + (1 * σ 6 + 0) := (hP _ (List.mem_of_getElem? (i := 5) rfl)).2.2
  have q5 : (0 : Int) ≤ 0 + (1 * σ 0 + 0) := (hP _ (List.mem_of_getElem? (i := 5) rfl)).2.1
  have p6 : ck_lk E 114 (2000 + (1 * σ 0 + 0)) = 0 + (1 * σ 7 + 0) := (hP _ (List.mem_of_getElem? (i := 6) rfl)).2.2
  have q6 : (0 : Int) ≤ 2000 + (1 * σ 0 + 0) := (hP _ (List.mem_of_getElem? (i := 6) rfl)).2.1
  have key : (((0 : Int) ≤ 0 + 0 ∧ ck_lk (va_up E 69 e') 108 (0 + 0) = 0 + (1 * σ 1 + 0)) ∧ ((0 : Int) ≤ 1 + 0 ∧ ck_lk (va_up E 69 e') 108 (1 + 0) = 0 + (1 * σ 2 + 0)) ∧ ((0 : Int) ≤ 3 + 0 ∧ ck_lk (va_up E 69 e') 108 (3 + 0) = 0 + (1 * σ 3 + 0)) ∧ ((0 : Int) ≤ 4 + 0 ∧ ck_lk (va_up E 69 e') 108 (4 + 0) = 0 + (1 * σ 4 + 0)) ∧ ((0 : Int) ≤ 5 + 0 ∧ ck_lk (va_up E 69 e') 108 (5 + 0) = 0 + (1 * σ 5 + 0)) ∧ ((0 : Int) ≤ 2001 + (1 * σ 0 + 0) ∧ ck_lk (va_up E 69 e') 114 (2001 + (1 * σ 0 + 0)) = 1 + 0) ∧ True) := by
    rw [kc (i := 0 + σ 0) (by decide) (by omega)] at p5
    rw [ck_lk_v (by decide)] at p6
    have hp := cb_ge p6 (by omega)
    refine ⟨⟨by decide, ?_⟩, ⟨by decide, ?_⟩, ⟨by decide, ?_⟩, ⟨by decide, ?_⟩, ⟨by decide, ?_⟩, ⟨by omega, ?_⟩, trivial⟩
    · rw [k108 (c := 0) (by decide)] at p0
      rw [k108 (c := 0) (by decide), vf_wx_st hgi hgi2 (by decide) (by decide) l2 ⟨fun q => absurd q (by decide), fun q => absurd q (by decide), fun _ => by omega, fun q => absurd q (by decide), fun q => absurd q (by decide)⟩]
      exact p0
    · rw [k108 (c := 1) (by decide)] at p1
      rw [k108 (c := 1) (by decide), vf_wx_st hgi hgi2 (by decide) (by decide) l2 ⟨fun q => absurd q (by decide), fun q => absurd q (by decide), fun _ => by omega, fun q => absurd q (by decide), fun q => absurd q (by decide)⟩]
      exact p1
    · rw [k108 (c := 3) (by decide)] at p2
      rw [k108 (c := 3) (by decide), vf_wx_st hgi hgi2 (by decide) (by decide) l2 ⟨fun q => absurd q (by decide), fun q => absurd q (by decide), fun _ => by omega, fun q => absurd q (by decide), fun q => absurd q (by decide)⟩]
      exact p2
    · rw [k108 (c := 4) (by decide)] at p3
      rw [k108 (c := 4) (by decide), vf_wx_st hgi hgi2 (by decide) (by decide) l2 ⟨fun q => absurd q (by decide), fun q => absurd q (by decide), fun _ => by omega, fun q => absurd q (by decide), fun q => absurd q (by decide)⟩]
      exact p3
    · rw [k108 (c := 5) (by decide)] at p4
      rw [k108 (c := 5) (by decide), vf_wx_st hgi hgi2 (by decide) (by decide) l2 ⟨fun q => absurd q (by decide), fun q => absurd q (by decide), fun _ => by omega, fun q => absurd q (by decide), fun q => absurd q (by decide)⟩]
      exact p4
    · rw [ck_lk_v (by decide)]
      refine (cb_t ?_).trans rfl
      intro i i0 i1
      have i1 : i < (2001 + (1 * σ 0 + 0)) % 1000 := i1
      show ck_loc (va_up E 69 e' 69) (48 * ((2001 + (1 * σ 0 + 0)) / 1000 % 10) + i) = ck_loc (va_up E 69 e' 69) (48 * ((2001 + (1 * σ 0 + 0)) / 10000) + i)
      rw [va_up_self, show (2001 + (1 * σ 0 + 0)) / 1000 % 10 = 2 by omega, show (2001 + (1 * σ 0 + 0)) / 10000 = 0 by omega]
      have hp : ∀ i : Int, 0 ≤ i → i < (2000 + (1 * σ 0 + 0)) % 1000 → ck_loc (E 69) (48 * ((2000 + (1 * σ 0 + 0)) / 1000 % 10) + i) = ck_loc (E 69) (48 * ((2000 + (1 * σ 0 + 0)) / 10000) + i) := hp
      rw [show (2000 + (1 * σ 0 + 0)) / 1000 % 10 = 2 by omega, show (2000 + (1 * σ 0 + 0)) / 10000 = 0 by omega] at hp
      rw [l2 (48 * 0 + i) (by omega) (by omega)]
      by_cases hi : i = σ 0
      · rw [hi, show (48 * 2 + σ 0 : Int) = 96 + (1 * σ 0 + 0) by omega, l1, show (48 * 0 + σ 0 : Int) = 0 + σ 0 by omega, p5]
      · rw [l2 (48 * 2 + i) (by omega) (by omega)]
        exact hp i i0 (by omega)
  obtain ⟨k0, k1, k2, k3, k4, k5, -⟩ := key
  exact ⟨_, (List.mem_of_getElem? (i := 0) rfl), σ, ck_ag_rf, (fun _ h => absurd h List.not_mem_nil), (fun _ h => absurd h List.not_mem_nil), trivial, (List.forall_mem_cons.mpr ⟨⟨⟨ck_wb_ok rfl, ck_wb_ok rfl⟩, k0⟩, (List.forall_mem_cons.mpr ⟨⟨⟨ck_wb_ok rfl, ck_wb_ok rfl⟩, k1⟩, (List.forall_mem_cons.mpr ⟨⟨⟨ck_wb_ok rfl, ck_wb_ok rfl⟩, k2⟩, (List.forall_mem_cons.mpr ⟨⟨⟨ck_wb_ok rfl, ck_wb_ok rfl⟩, k3⟩, (List.forall_mem_cons.mpr ⟨⟨⟨ck_wb_ok rfl, ck_wb_ok rfl⟩, k4⟩, (List.forall_mem_cons.mpr ⟨⟨⟨ck_wb_ok rfl, ck_wb_ok rfl⟩, k5⟩, (fun _ h => absurd h List.not_mem_nil)⟩)⟩)⟩)⟩)⟩)⟩), (fun _ h => absurd h List.not_mem_nil)⟩
theorem ccCW9_0_2 {l : Launch} {D : va_G} {kp : Nat → ClassId} : ck_con l D kp ck_NN ceCW9_0_2 := ck_con_s (k := 69) rfl rpCW9_0_2
theorem rpCW2_0_2 : ck_scon ceCW2_0_2 72 := by
  intro σ E e' idx v hargs hgi hF hP hΦ hgi2 h0 l1 l2
  cases hargs
  have h0 : (0 : Int) ≤ 48 + (1 * σ 0 + 0) := h0
  have l1 : ck_loc e' (48 + (1 * σ 0 + 0)) = 0 + (1 * σ 6 + 0) := l1
  have l2 : ∀ j, 0 ≤ j → ¬ j = 48 + (1 * σ 0 + 0) → ck_loc e' j = ck_loc (E 72) j := l2
  have f0 : (0 : Int) ≤ 0 + (1 * σ 0 + 0) := hF _ (List.mem_of_getElem? (i := 0) rfl)
  have f1 : (0 : Int) ≤ 23 + ((-1) * σ 0 + 0) := hF _ (List.mem_of_getElem? (i := 1) rfl)
  have f2 : (0 : Int) ≤ (-1) + (1 * σ 7 + 0) := hF _ (List.mem_of_getElem? (i := 2) rfl)
  have p0 : ck_lk E 108 (0 + 0) = 0 + (1 * σ 1 + 0) := (hP _ (List.mem_of_getElem? (i := 0) rfl)).2.2
  have q0 : (0 : Int) ≤ 0 + 0 := (hP _ (List.mem_of_getElem? (i := 0) rfl)).2.1
  have p1 : ck_lk E 108 (1 + 0) = 0 + (1 * σ 2 + 0) := (hP _ (List.mem_of_getElem? (i := 1) rfl)).2.2
  have q1 : (0 : Int) ≤ 1 + 0 := (hP _ (List.mem_of_getElem? (i := 1) rfl)).2.1
  have p2 : ck_lk E 108 (3 + 0) = 0 + (1 * σ 3 + 0) := (hP _ (List.mem_of_getElem? (i := 2) rfl)).2.2
  have q2 : (0 : Int) ≤ 3 + 0 := (hP _ (List.mem_of_getElem? (i := 2) rfl)).2.1
  have p3 : ck_lk E 108 (4 + 0) = 0 + (1 * σ 4 + 0) := (hP _ (List.mem_of_getElem? (i := 3) rfl)).2.2
  have q3 : (0 : Int) ≤ 4 + 0 := (hP _ (List.mem_of_getElem? (i := 3) rfl)).2.1
  have p4 : ck_lk E 108 (5 + 0) = 0 + (1 * σ 5 + 0) := (hP _ (List.mem_of_getElem? (i := 4) rfl)).2.2
  have q4 : (0 : Int) ≤ 5 + 0 := (hP _ (List.mem_of_getElem? (i := 4) rfl)).2.1
  have p5 : ck_lk E 72 (0 + (1 * σ 0 + 0)) = 0 + (1 * σ 6 + 0) := (hP _ (List.mem_of_getElem? (i := 5) rfl)).2.2
  have q5 : (0 : Int) ≤ 0 + (1 * σ 0 + 0) := (hP _ (List.mem_of_getElem? (i := 5) rfl)).2.1
  have p6 : ck_lk E 115 (2000 + (1 * σ 0 + 0)) = 0 + (1 * σ 7 + 0) := (hP _ (List.mem_of_getElem? (i := 6) rfl)).2.2
  have q6 : (0 : Int) ≤ 2000 + (1 * σ 0 + 0) := (hP _ (List.mem_of_getElem? (i := 6) rfl)).2.1
  have key : (((0 : Int) ≤ 0 + 0 ∧ ck_lk (va_up E 72 e') 108 (0 + 0) = 0 + (1 * σ 1 + 0)) ∧ ((0 : Int) ≤ 1 + 0 ∧ ck_lk (va_up E 72 e') 108 (1 + 0) = 0 + (1 * σ 2 + 0)) ∧ ((0 : Int) ≤ 3 + 0 ∧ ck_lk (va_up E 72 e') 108 (3 + 0) = 0 + (1 * σ 3 + 0)) ∧ ((0 : Int) ≤ 4 + 0 ∧ ck_lk (va_up E 72 e') 108 (4 + 0) = 0 + (1 * σ 4 + 0)) ∧ ((0 : Int) ≤ 5 + 0 ∧ ck_lk (va_up E 72 e') 108 (5 + 0) = 0 + (1 * σ 5 + 0)) ∧ ((0 : Int) ≤ 2001 + (1 * σ 0 + 0) ∧ ck_lk (va_up E 72 e') 115 (2001 + (1 * σ 0 + 0)) = 1 + 0) ∧ True) := by
    rw [kc (i := 0 + σ 0) (by decide) (by omega)] at p5
    rw [ck_lk_v (by decide)] at p6
    have hp := cb_ge p6 (by omega)
    refine ⟨⟨by decide, ?_⟩, ⟨by decide, ?_⟩, ⟨by decide, ?_⟩, ⟨by decide, ?_⟩, ⟨by decide, ?_⟩, ⟨by omega, ?_⟩, trivial⟩
    · rw [k108 (c := 0) (by decide)] at p0
      rw [k108 (c := 0) (by decide), vf_wx_st hgi hgi2 (by decide) (by decide) l2 ⟨fun q => absurd q (by decide), fun q => absurd q (by decide), fun q => absurd q (by decide), fun q => absurd q (by decide), fun _ => by omega⟩]
      exact p0
    · rw [k108 (c := 1) (by decide)] at p1
      rw [k108 (c := 1) (by decide), vf_wx_st hgi hgi2 (by decide) (by decide) l2 ⟨fun q => absurd q (by decide), fun q => absurd q (by decide), fun q => absurd q (by decide), fun q => absurd q (by decide), fun _ => by omega⟩]
      exact p1
    · rw [k108 (c := 3) (by decide)] at p2
      rw [k108 (c := 3) (by decide), vf_wx_st hgi hgi2 (by decide) (by decide) l2 ⟨fun q => absurd q (by decide), fun q => absurd q (by decide), fun q => absurd q (by decide), fun q => absurd q (by decide), fun _ => by omega⟩]
      exact p2
    · rw [k108 (c := 4) (by decide)] at p3
      rw [k108 (c := 4) (by decide), vf_wx_st hgi hgi2 (by decide) (by decide) l2 ⟨fun q => absurd q (by decide), fun q => absurd q (by decide), fun q => absurd q (by decide), fun q => absurd q (by decide), fun _ => by omega⟩]
      exact p3
    · rw [k108 (c := 5) (by decide)] at p4
      rw [k108 (c := 5) (by decide), vf_wx_st hgi hgi2 (by decide) (by decide) l2 ⟨fun q => absurd q (by decide), fun q => absurd q (by decide), fun q => absurd q (by decide), fun q => absurd q (by decide), fun _ => by omega⟩]
      exact p4
    · rw [ck_lk_v (by decide)]
      refine (cb_t ?_).trans rfl
      intro i i0 i1
      have i1 : i < (2001 + (1 * σ 0 + 0)) % 1000 := i1
      show ck_loc (va_up E 72 e' 72) (24 * ((2001 + (1 * σ 0 + 0)) / 1000 % 10) + i) = ck_loc (va_up E 72 e' 72) (24 * ((2001 + (1 * σ 0 + 0)) / 10000) + i)
      rw [va_up_self, show (2001 + (1 * σ 0 + 0)) / 1000 % 10 = 2 by omega, show (2001 + (1 * σ 0 + 0)) / 10000 = 0 by omega]
      have hp : ∀ i : Int, 0 ≤ i → i < (2000 + (1 * σ 0 + 0)) % 1000 → ck_loc (E 72) (24 * ((2000 + (1 * σ 0 + 0)) / 1000 % 10) + i) = ck_loc (E 72) (24 * ((2000 + (1 * σ 0 + 0)) / 10000) + i) := hp
      rw [show (2000 + (1 * σ 0 + 0)) / 1000 % 10 = 2 by omega, show (2000 + (1 * σ 0 + 0)) / 10000 = 0 by omega] at hp
      rw [l2 (24 * 0 + i) (by omega) (by omega)]
      by_cases hi : i = σ 0
      · rw [hi, show (24 * 2 + σ 0 : Int) = 48 + (1 * σ 0 + 0) by omega, l1, show (24 * 0 + σ 0 : Int) = 0 + σ 0 by omega, p5]
      · rw [l2 (24 * 2 + i) (by omega) (by omega)]
        exact hp i i0 (by omega)
  obtain ⟨k0, k1, k2, k3, k4, k5, -⟩ := key
  exact ⟨_, (List.mem_of_getElem? (i := 0) rfl), σ, ck_ag_rf, (fun _ h => absurd h List.not_mem_nil), (fun _ h => absurd h List.not_mem_nil), trivial, (List.forall_mem_cons.mpr ⟨⟨⟨ck_wb_ok rfl, ck_wb_ok rfl⟩, k0⟩, (List.forall_mem_cons.mpr ⟨⟨⟨ck_wb_ok rfl, ck_wb_ok rfl⟩, k1⟩, (List.forall_mem_cons.mpr ⟨⟨⟨ck_wb_ok rfl, ck_wb_ok rfl⟩, k2⟩, (List.forall_mem_cons.mpr ⟨⟨⟨ck_wb_ok rfl, ck_wb_ok rfl⟩, k3⟩, (List.forall_mem_cons.mpr ⟨⟨⟨ck_wb_ok rfl, ck_wb_ok rfl⟩, k4⟩, (List.forall_mem_cons.mpr ⟨⟨⟨ck_wb_ok rfl, ck_wb_ok rfl⟩, k5⟩, (fun _ h => absurd h List.not_mem_nil)⟩)⟩)⟩)⟩)⟩)⟩), (fun _ h => absurd h List.not_mem_nil)⟩
theorem ccCW2_0_2 {l : Launch} {D : va_G} {kp : Nat → ClassId} : ck_con l D kp ck_NN ceCW2_0_2 := ck_con_s (k := 72) rfl rpCW2_0_2
theorem rpWC_0_2 : ck_gcon ceWC_0_2 := by
  intro σ E hgi hF hP hΦ
  have f0 : (0 : Int) ≤ (-1) + (1 * σ 0 + 0) := hF _ (List.mem_of_getElem? (i := 0) rfl)
  have f1 : (0 : Int) ≤ (-1) + (1 * σ 17 + 0) := hF _ (List.mem_of_getElem? (i := 1) rfl)
  have f2 : (0 : Int) ≤ (-1) + (1 * σ 18 + 0) := hF _ (List.mem_of_getElem? (i := 2) rfl)
  have f3 : (0 : Int) ≤ 0 + (1 * σ 1 + ((-1) * σ 2 + 0)) := hF _ (List.mem_of_getElem? (i := 3) rfl)
  have f4 : (0 : Int) ≤ 0 + ((-1) * σ 1 + (1 * σ 2 + 0)) := hF _ (List.mem_of_getElem? (i := 4) rfl)
  have f5 : (0 : Int) ≤ 0 + (1 * σ 3 + ((-1) * σ 4 + 0)) := hF _ (List.mem_of_getElem? (i := 5) rfl)
  have f6 : (0 : Int) ≤ 0 + ((-1) * σ 3 + (1 * σ 4 + 0)) := hF _ (List.mem_of_getElem? (i := 6) rfl)
  have f7 : (0 : Int) ≤ 0 + (1 * σ 5 + ((-1) * σ 11 + 0)) := hF _ (List.mem_of_getElem? (i := 7) rfl)
  have f8 : (0 : Int) ≤ 0 + ((-1) * σ 5 + (1 * σ 11 + 0)) := hF _ (List.mem_of_getElem? (i := 8) rfl)
  have f9 : (0 : Int) ≤ 0 + (1 * σ 6 + ((-1) * σ 12 + 0)) := hF _ (List.mem_of_getElem? (i := 9) rfl)
  have f10 : (0 : Int) ≤ 0 + ((-1) * σ 6 + (1 * σ 12 + 0)) := hF _ (List.mem_of_getElem? (i := 10) rfl)
  have f11 : (0 : Int) ≤ 0 + (1 * σ 7 + ((-1) * σ 13 + 0)) := hF _ (List.mem_of_getElem? (i := 11) rfl)
  have f12 : (0 : Int) ≤ 0 + ((-1) * σ 7 + (1 * σ 13 + 0)) := hF _ (List.mem_of_getElem? (i := 12) rfl)
  have f13 : (0 : Int) ≤ 0 + (1 * σ 8 + ((-1) * σ 14 + 0)) := hF _ (List.mem_of_getElem? (i := 13) rfl)
  have f14 : (0 : Int) ≤ 0 + ((-1) * σ 8 + (1 * σ 14 + 0)) := hF _ (List.mem_of_getElem? (i := 14) rfl)
  have f15 : (0 : Int) ≤ 0 + (1 * σ 9 + ((-1) * σ 15 + 0)) := hF _ (List.mem_of_getElem? (i := 15) rfl)
  have f16 : (0 : Int) ≤ 0 + ((-1) * σ 9 + (1 * σ 15 + 0)) := hF _ (List.mem_of_getElem? (i := 16) rfl)
  have f17 : (0 : Int) ≤ 0 + (1 * σ 10 + ((-1) * σ 16 + 0)) := hF _ (List.mem_of_getElem? (i := 17) rfl)
  have f18 : (0 : Int) ≤ 0 + ((-1) * σ 10 + (1 * σ 16 + 0)) := hF _ (List.mem_of_getElem? (i := 18) rfl)
  have p0 : ck_lk E 108 (0 + 0) = 0 + (1 * σ 0 + 0) := (hP _ (List.mem_of_getElem? (i := 0) rfl)).2.2
  have q0 : (0 : Int) ≤ 0 + 0 := (hP _ (List.mem_of_getElem? (i := 0) rfl)).2.1
  have p1 : ck_lk E 65 (0 + 0) = 0 + (1 * σ 1 + 0) := (hP _ (List.mem_of_getElem? (i := 1) rfl)).2.2
  have q1 : (0 : Int) ≤ 0 + 0 := (hP _ (List.mem_of_getElem? (i := 1) rfl)).2.1
  have p2 : ck_lk E 65 (2 + 0) = 0 + (1 * σ 2 + 0) := (hP _ (List.mem_of_getElem? (i := 2) rfl)).2.2
  have q2 : (0 : Int) ≤ 2 + 0 := (hP _ (List.mem_of_getElem? (i := 2) rfl)).2.1
  have p3 : ck_lk E 70 (1 + 0) = 0 + (1 * σ 3 + 0) := (hP _ (List.mem_of_getElem? (i := 3) rfl)).2.2
  have q3 : (0 : Int) ≤ 1 + 0 := (hP _ (List.mem_of_getElem? (i := 3) rfl)).2.1
  have p4 : ck_lk E 70 (5 + 0) = 0 + (1 * σ 4 + 0) := (hP _ (List.mem_of_getElem? (i := 4) rfl)).2.2
  have q4 : (0 : Int) ≤ 5 + 0 := (hP _ (List.mem_of_getElem? (i := 4) rfl)).2.1
  have p5 : ck_lk E 67 (0 + 0) = 0 + (1 * σ 5 + 0) := (hP _ (List.mem_of_getElem? (i := 5) rfl)).2.2
  have q5 : (0 : Int) ≤ 0 + 0 := (hP _ (List.mem_of_getElem? (i := 5) rfl)).2.1
  have p6 : ck_lk E 67 (1 + 0) = 0 + (1 * σ 6 + 0) := (hP _ (List.mem_of_getElem? (i := 6) rfl)).2.2
  have q6 : (0 : Int) ≤ 1 + 0 := (hP _ (List.mem_of_getElem? (i := 6) rfl)).2.1
  have p7 : ck_lk E 67 (2 + 0) = 0 + (1 * σ 7 + 0) := (hP _ (List.mem_of_getElem? (i := 7) rfl)).2.2
  have q7 : (0 : Int) ≤ 2 + 0 := (hP _ (List.mem_of_getElem? (i := 7) rfl)).2.1
  have p8 : ck_lk E 67 (3 + 0) = 0 + (1 * σ 8 + 0) := (hP _ (List.mem_of_getElem? (i := 8) rfl)).2.2
  have q8 : (0 : Int) ≤ 3 + 0 := (hP _ (List.mem_of_getElem? (i := 8) rfl)).2.1
  have p9 : ck_lk E 67 (4 + 0) = 0 + (1 * σ 9 + 0) := (hP _ (List.mem_of_getElem? (i := 9) rfl)).2.2
  have q9 : (0 : Int) ≤ 4 + 0 := (hP _ (List.mem_of_getElem? (i := 9) rfl)).2.1
  have p10 : ck_lk E 67 (5 + 0) = 0 + (1 * σ 10 + 0) := (hP _ (List.mem_of_getElem? (i := 10) rfl)).2.2
  have q10 : (0 : Int) ≤ 5 + 0 := (hP _ (List.mem_of_getElem? (i := 10) rfl)).2.1
  have p11 : ck_lk E 67 (12 + 0) = 0 + (1 * σ 11 + 0) := (hP _ (List.mem_of_getElem? (i := 11) rfl)).2.2
  have q11 : (0 : Int) ≤ 12 + 0 := (hP _ (List.mem_of_getElem? (i := 11) rfl)).2.1
  have p12 : ck_lk E 67 (13 + 0) = 0 + (1 * σ 12 + 0) := (hP _ (List.mem_of_getElem? (i := 12) rfl)).2.2
  have q12 : (0 : Int) ≤ 13 + 0 := (hP _ (List.mem_of_getElem? (i := 12) rfl)).2.1
  have p13 : ck_lk E 67 (14 + 0) = 0 + (1 * σ 13 + 0) := (hP _ (List.mem_of_getElem? (i := 13) rfl)).2.2
  have q13 : (0 : Int) ≤ 14 + 0 := (hP _ (List.mem_of_getElem? (i := 13) rfl)).2.1
  have p14 : ck_lk E 67 (15 + 0) = 0 + (1 * σ 14 + 0) := (hP _ (List.mem_of_getElem? (i := 14) rfl)).2.2
  have q14 : (0 : Int) ≤ 15 + 0 := (hP _ (List.mem_of_getElem? (i := 14) rfl)).2.1
  have p15 : ck_lk E 67 (16 + 0) = 0 + (1 * σ 15 + 0) := (hP _ (List.mem_of_getElem? (i := 15) rfl)).2.2
  have q15 : (0 : Int) ≤ 16 + 0 := (hP _ (List.mem_of_getElem? (i := 15) rfl)).2.1
  have p16 : ck_lk E 67 (17 + 0) = 0 + (1 * σ 16 + 0) := (hP _ (List.mem_of_getElem? (i := 16) rfl)).2.2
  have q16 : (0 : Int) ≤ 17 + 0 := (hP _ (List.mem_of_getElem? (i := 16) rfl)).2.1
  have p17 : ck_lk E 114 (2048 + 0) = 0 + (1 * σ 17 + 0) := (hP _ (List.mem_of_getElem? (i := 17) rfl)).2.2
  have q17 : (0 : Int) ≤ 2048 + 0 := (hP _ (List.mem_of_getElem? (i := 17) rfl)).2.1
  have p18 : ck_lk E 115 (2024 + 0) = 0 + (1 * σ 18 + 0) := (hP _ (List.mem_of_getElem? (i := 18) rfl)).2.2
  have q18 : (0 : Int) ≤ 2024 + 0 := (hP _ (List.mem_of_getElem? (i := 18) rfl)).2.1
  have key : (((0 : Int) ≤ 2 + 0 ∧ ck_lk E 108 (2 + 0) = 1 + 0) ∧ True) := by
    rw [k108 (c := 0) (by decide)] at p0
    have hw := cb_ge p0 (by omega)
    rw [kc (i := 0) (by decide) (by decide)] at p1
    rw [kc (i := 2) (by decide) (by decide)] at p2
    rw [kc (i := 1) (by decide) (by decide)] at p3
    rw [kc (i := 5) (by decide) (by decide)] at p4
    rw [kc (i := 0) (by decide) (by decide)] at p5
    rw [kc (i := 12) (by decide) (by decide)] at p11
    rw [kc (i := 1) (by decide) (by decide)] at p6
    rw [kc (i := 13) (by decide) (by decide)] at p12
    rw [kc (i := 2) (by decide) (by decide)] at p7
    rw [kc (i := 14) (by decide) (by decide)] at p13
    rw [kc (i := 3) (by decide) (by decide)] at p8
    rw [kc (i := 15) (by decide) (by decide)] at p14
    rw [kc (i := 4) (by decide) (by decide)] at p9
    rw [kc (i := 16) (by decide) (by decide)] at p15
    rw [kc (i := 5) (by decide) (by decide)] at p10
    rw [kc (i := 17) (by decide) (by decide)] at p16
    rw [ck_lk_v (by decide)] at p17 p18
    have h9 : ∀ i : Int, 0 ≤ i → i < 48 → ck_loc (E 69) (48 * 2 + i) = ck_loc (E 69) (48 * 0 + i) := cb_ge p17 (by omega)
    have h2 : ∀ i : Int, 0 ≤ i → i < 24 → ck_loc (E 72) (24 * 2 + i) = ck_loc (E 72) (24 * 0 + i) := cb_ge p18 (by omega)
    refine ⟨⟨by decide, ?_⟩, trivial⟩
    rw [k108 (c := 2) (by decide)]
    refine (cb_t ?_).trans rfl
    refine vf_wx_mono (a := 0) hgi (by decide) (by decide) (by omega) (fun r r0 r6 => ?_) h9 (show ck_loc (E 70) 5 = ck_loc (E 70) 1 by omega) h2 hw
    have hr : r = 0 ∨ r = 1 ∨ r = 2 ∨ r = 3 ∨ r = 4 ∨ r = 5 := by omega
    rcases hr with rfl | rfl | rfl | rfl | rfl | rfl
    · show ck_loc (E 67) 12 = ck_loc (E 67) 0
      omega
    · show ck_loc (E 67) 13 = ck_loc (E 67) 1
      omega
    · show ck_loc (E 67) 14 = ck_loc (E 67) 2
      omega
    · show ck_loc (E 67) 15 = ck_loc (E 67) 3
      omega
    · show ck_loc (E 67) 16 = ck_loc (E 67) 4
      omega
    · show ck_loc (E 67) 17 = ck_loc (E 67) 5
      omega
  obtain ⟨k0, -⟩ := key
  exact ⟨_, (List.mem_of_getElem? (i := 0) rfl), σ, ck_ag_rf, (fun _ h => absurd h List.not_mem_nil), (fun _ h => absurd h List.not_mem_nil), trivial, (List.forall_mem_cons.mpr ⟨⟨⟨ck_wb_ok rfl, ck_wb_ok rfl⟩, k0⟩, (fun _ h => absurd h List.not_mem_nil)⟩), (fun _ h => absurd h List.not_mem_nil)⟩
theorem ccWC_0_2 {l : Launch} {D : va_G} {kp : Nat → ClassId} : ck_con l D kp ck_NN ceWC_0_2 := ck_con_g rfl rpWC_0_2
theorem rpC14_0_3 : ck_gcon ceC14_0_3 := by
  intro σ E hgi hF hP hΦ
  have key : (((0 : Int) ≤ 3000 + 0 ∧ ck_lk E 114 (3000 + 0) = 1 + 0) ∧ True) := by
    refine ⟨⟨by decide, ?_⟩, trivial⟩
    rw [ck_lk_v (by decide)]
    refine (cb_t ?_).trans rfl
    intro i i0 i1
    have i1 : i < (3000 + 0 : Int) % 1000 := i1
    omega
  obtain ⟨k0, -⟩ := key
  exact ⟨_, (List.mem_of_getElem? (i := 0) rfl), σ, ck_ag_rf, (fun _ h => absurd h List.not_mem_nil), (fun _ h => absurd h List.not_mem_nil), trivial, (List.forall_mem_cons.mpr ⟨⟨⟨ck_wb_ok rfl, ck_wb_ok rfl⟩, k0⟩, (fun _ h => absurd h List.not_mem_nil)⟩), (fun _ h => absurd h List.not_mem_nil)⟩
theorem ccC14_0_3 {l : Launch} {D : va_G} {kp : Nat → ClassId} : ck_con l D kp ck_NN ceC14_0_3 := ck_con_g rfl rpC14_0_3
theorem rpC15_0_3 : ck_gcon ceC15_0_3 := by
  intro σ E hgi hF hP hΦ
  have key : (((0 : Int) ≤ 3000 + 0 ∧ ck_lk E 115 (3000 + 0) = 1 + 0) ∧ True) := by
    refine ⟨⟨by decide, ?_⟩, trivial⟩
    rw [ck_lk_v (by decide)]
    refine (cb_t ?_).trans rfl
    intro i i0 i1
    have i1 : i < (3000 + 0 : Int) % 1000 := i1
    omega
  obtain ⟨k0, -⟩ := key
  exact ⟨_, (List.mem_of_getElem? (i := 0) rfl), σ, ck_ag_rf, (fun _ h => absurd h List.not_mem_nil), (fun _ h => absurd h List.not_mem_nil), trivial, (List.forall_mem_cons.mpr ⟨⟨⟨ck_wb_ok rfl, ck_wb_ok rfl⟩, k0⟩, (fun _ h => absurd h List.not_mem_nil)⟩), (fun _ h => absurd h List.not_mem_nil)⟩
theorem ccC15_0_3 {l : Launch} {D : va_G} {kp : Nat → ClassId} : ck_con l D kp ck_NN ceC15_0_3 := ck_con_g rfl rpC15_0_3
theorem rpCW9_0_3 : ck_scon ceCW9_0_3 69 := by
  intro σ E e' idx v hargs hgi hF hP hΦ hgi2 h0 l1 l2
  cases hargs
  have h0 : (0 : Int) ≤ 144 + (1 * σ 0 + 0) := h0
  have l1 : ck_loc e' (144 + (1 * σ 0 + 0)) = 0 + (1 * σ 6 + 0) := l1
  have l2 : ∀ j, 0 ≤ j → ¬ j = 144 + (1 * σ 0 + 0) → ck_loc e' j = ck_loc (E 69) j := l2
  have f0 : (0 : Int) ≤ 0 + (1 * σ 0 + 0) := hF _ (List.mem_of_getElem? (i := 0) rfl)
  have f1 : (0 : Int) ≤ 47 + ((-1) * σ 0 + 0) := hF _ (List.mem_of_getElem? (i := 1) rfl)
  have f2 : (0 : Int) ≤ (-1) + (1 * σ 7 + 0) := hF _ (List.mem_of_getElem? (i := 2) rfl)
  have p0 : ck_lk E 108 (0 + 0) = 0 + (1 * σ 1 + 0) := (hP _ (List.mem_of_getElem? (i := 0) rfl)).2.2
  have q0 : (0 : Int) ≤ 0 + 0 := (hP _ (List.mem_of_getElem? (i := 0) rfl)).2.1
  have p1 : ck_lk E 108 (1 + 0) = 0 + (1 * σ 2 + 0) := (hP _ (List.mem_of_getElem? (i := 1) rfl)).2.2
  have q1 : (0 : Int) ≤ 1 + 0 := (hP _ (List.mem_of_getElem? (i := 1) rfl)).2.1
  have p2 : ck_lk E 108 (2 + 0) = 0 + (1 * σ 3 + 0) := (hP _ (List.mem_of_getElem? (i := 2) rfl)).2.2
  have q2 : (0 : Int) ≤ 2 + 0 := (hP _ (List.mem_of_getElem? (i := 2) rfl)).2.1
  have p3 : ck_lk E 108 (4 + 0) = 0 + (1 * σ 4 + 0) := (hP _ (List.mem_of_getElem? (i := 3) rfl)).2.2
  have q3 : (0 : Int) ≤ 4 + 0 := (hP _ (List.mem_of_getElem? (i := 3) rfl)).2.1
  have p4 : ck_lk E 108 (5 + 0) = 0 + (1 * σ 5 + 0) := (hP _ (List.mem_of_getElem? (i := 4) rfl)).2.2
  have q4 : (0 : Int) ≤ 5 + 0 := (hP _ (List.mem_of_getElem? (i := 4) rfl)).2.1
  have p5 : ck_lk E 69 (0 + (1 * σ 0 + 0)) = 0 + (1 * σ 6 + 0) := (hP _ (List.mem_of_getElem? (i := 5) rfl)).2.2
  have q5 : (0 : Int) ≤ 0 + (1 * σ 0 + 0) := (hP _ (List.mem_of_getElem? (i := 5) rfl)).2.1
  have p6 : ck_lk E 114 (3000 + (1 * σ 0 + 0)) = 0 + (1 * σ 7 + 0) := (hP _ (List.mem_of_getElem? (i := 6) rfl)).2.2
  have q6 : (0 : Int) ≤ 3000 + (1 * σ 0 + 0) := (hP _ (List.mem_of_getElem? (i := 6) rfl)).2.1
  have key : (((0 : Int) ≤ 0 + 0 ∧ ck_lk (va_up E 69 e') 108 (0 + 0) = 0 + (1 * σ 1 + 0)) ∧ ((0 : Int) ≤ 1 + 0 ∧ ck_lk (va_up E 69 e') 108 (1 + 0) = 0 + (1 * σ 2 + 0)) ∧ ((0 : Int) ≤ 2 + 0 ∧ ck_lk (va_up E 69 e') 108 (2 + 0) = 0 + (1 * σ 3 + 0)) ∧ ((0 : Int) ≤ 4 + 0 ∧ ck_lk (va_up E 69 e') 108 (4 + 0) = 0 + (1 * σ 4 + 0)) ∧ ((0 : Int) ≤ 5 + 0 ∧ ck_lk (va_up E 69 e') 108 (5 + 0) = 0 + (1 * σ 5 + 0)) ∧ ((0 : Int) ≤ 3001 + (1 * σ 0 + 0) ∧ ck_lk (va_up E 69 e') 114 (3001 + (1 * σ 0 + 0)) = 1 + 0) ∧ True) := by
    rw [kc (i := 0 + σ 0) (by decide) (by omega)] at p5
    rw [ck_lk_v (by decide)] at p6
    have hp := cb_ge p6 (by omega)
    refine ⟨⟨by decide, ?_⟩, ⟨by decide, ?_⟩, ⟨by decide, ?_⟩, ⟨by decide, ?_⟩, ⟨by decide, ?_⟩, ⟨by omega, ?_⟩, trivial⟩
    · rw [k108 (c := 0) (by decide)] at p0
      rw [k108 (c := 0) (by decide), vf_wx_st hgi hgi2 (by decide) (by decide) l2 ⟨fun q => absurd q (by decide), fun q => absurd q (by decide), fun _ => by omega, fun q => absurd q (by decide), fun q => absurd q (by decide)⟩]
      exact p0
    · rw [k108 (c := 1) (by decide)] at p1
      rw [k108 (c := 1) (by decide), vf_wx_st hgi hgi2 (by decide) (by decide) l2 ⟨fun q => absurd q (by decide), fun q => absurd q (by decide), fun _ => by omega, fun q => absurd q (by decide), fun q => absurd q (by decide)⟩]
      exact p1
    · rw [k108 (c := 2) (by decide)] at p2
      rw [k108 (c := 2) (by decide), vf_wx_st hgi hgi2 (by decide) (by decide) l2 ⟨fun q => absurd q (by decide), fun q => absurd q (by decide), fun _ => by omega, fun q => absurd q (by decide), fun q => absurd q (by decide)⟩]
      exact p2
    · rw [k108 (c := 4) (by decide)] at p3
      rw [k108 (c := 4) (by decide), vf_wx_st hgi hgi2 (by decide) (by decide) l2 ⟨fun q => absurd q (by decide), fun q => absurd q (by decide), fun _ => by omega, fun q => absurd q (by decide), fun q => absurd q (by decide)⟩]
      exact p3
    · rw [k108 (c := 5) (by decide)] at p4
      rw [k108 (c := 5) (by decide), vf_wx_st hgi hgi2 (by decide) (by decide) l2 ⟨fun q => absurd q (by decide), fun q => absurd q (by decide), fun _ => by omega, fun q => absurd q (by decide), fun q => absurd q (by decide)⟩]
      exact p4
    · rw [ck_lk_v (by decide)]
      refine (cb_t ?_).trans rfl
      intro i i0 i1
      have i1 : i < (3001 + (1 * σ 0 + 0)) % 1000 := i1
      show ck_loc (va_up E 69 e' 69) (48 * ((3001 + (1 * σ 0 + 0)) / 1000 % 10) + i) = ck_loc (va_up E 69 e' 69) (48 * ((3001 + (1 * σ 0 + 0)) / 10000) + i)
      rw [va_up_self, show (3001 + (1 * σ 0 + 0)) / 1000 % 10 = 3 by omega, show (3001 + (1 * σ 0 + 0)) / 10000 = 0 by omega]
      have hp : ∀ i : Int, 0 ≤ i → i < (3000 + (1 * σ 0 + 0)) % 1000 → ck_loc (E 69) (48 * ((3000 + (1 * σ 0 + 0)) / 1000 % 10) + i) = ck_loc (E 69) (48 * ((3000 + (1 * σ 0 + 0)) / 10000) + i) := hp
      rw [show (3000 + (1 * σ 0 + 0)) / 1000 % 10 = 3 by omega, show (3000 + (1 * σ 0 + 0)) / 10000 = 0 by omega] at hp
      rw [l2 (48 * 0 + i) (by omega) (by omega)]
      by_cases hi : i = σ 0
      · rw [hi, show (48 * 3 + σ 0 : Int) = 144 + (1 * σ 0 + 0) by omega, l1, show (48 * 0 + σ 0 : Int) = 0 + σ 0 by omega, p5]
      · rw [l2 (48 * 3 + i) (by omega) (by omega)]
        exact hp i i0 (by omega)
  obtain ⟨k0, k1, k2, k3, k4, k5, -⟩ := key
  exact ⟨_, (List.mem_of_getElem? (i := 0) rfl), σ, ck_ag_rf, (fun _ h => absurd h List.not_mem_nil), (fun _ h => absurd h List.not_mem_nil), trivial, (List.forall_mem_cons.mpr ⟨⟨⟨ck_wb_ok rfl, ck_wb_ok rfl⟩, k0⟩, (List.forall_mem_cons.mpr ⟨⟨⟨ck_wb_ok rfl, ck_wb_ok rfl⟩, k1⟩, (List.forall_mem_cons.mpr ⟨⟨⟨ck_wb_ok rfl, ck_wb_ok rfl⟩, k2⟩, (List.forall_mem_cons.mpr ⟨⟨⟨ck_wb_ok rfl, ck_wb_ok rfl⟩, k3⟩, (List.forall_mem_cons.mpr ⟨⟨⟨ck_wb_ok rfl, ck_wb_ok rfl⟩, k4⟩, (List.forall_mem_cons.mpr ⟨⟨⟨ck_wb_ok rfl, ck_wb_ok rfl⟩, k5⟩, (fun _ h => absurd h List.not_mem_nil)⟩)⟩)⟩)⟩)⟩)⟩), (fun _ h => absurd h List.not_mem_nil)⟩
theorem ccCW9_0_3 {l : Launch} {D : va_G} {kp : Nat → ClassId} : ck_con l D kp ck_NN ceCW9_0_3 := ck_con_s (k := 69) rfl rpCW9_0_3
theorem rpCW2_0_3 : ck_scon ceCW2_0_3 72 := by
  intro σ E e' idx v hargs hgi hF hP hΦ hgi2 h0 l1 l2
  cases hargs
  have h0 : (0 : Int) ≤ 72 + (1 * σ 0 + 0) := h0
  have l1 : ck_loc e' (72 + (1 * σ 0 + 0)) = 0 + (1 * σ 6 + 0) := l1
  have l2 : ∀ j, 0 ≤ j → ¬ j = 72 + (1 * σ 0 + 0) → ck_loc e' j = ck_loc (E 72) j := l2
  have f0 : (0 : Int) ≤ 0 + (1 * σ 0 + 0) := hF _ (List.mem_of_getElem? (i := 0) rfl)
  have f1 : (0 : Int) ≤ 23 + ((-1) * σ 0 + 0) := hF _ (List.mem_of_getElem? (i := 1) rfl)
  have f2 : (0 : Int) ≤ (-1) + (1 * σ 7 + 0) := hF _ (List.mem_of_getElem? (i := 2) rfl)
  have p0 : ck_lk E 108 (0 + 0) = 0 + (1 * σ 1 + 0) := (hP _ (List.mem_of_getElem? (i := 0) rfl)).2.2
  have q0 : (0 : Int) ≤ 0 + 0 := (hP _ (List.mem_of_getElem? (i := 0) rfl)).2.1
  have p1 : ck_lk E 108 (1 + 0) = 0 + (1 * σ 2 + 0) := (hP _ (List.mem_of_getElem? (i := 1) rfl)).2.2
  have q1 : (0 : Int) ≤ 1 + 0 := (hP _ (List.mem_of_getElem? (i := 1) rfl)).2.1
  have p2 : ck_lk E 108 (2 + 0) = 0 + (1 * σ 3 + 0) := (hP _ (List.mem_of_getElem? (i := 2) rfl)).2.2
  have q2 : (0 : Int) ≤ 2 + 0 := (hP _ (List.mem_of_getElem? (i := 2) rfl)).2.1
  have p3 : ck_lk E 108 (4 + 0) = 0 + (1 * σ 4 + 0) := (hP _ (List.mem_of_getElem? (i := 3) rfl)).2.2
  have q3 : (0 : Int) ≤ 4 + 0 := (hP _ (List.mem_of_getElem? (i := 3) rfl)).2.1
  have p4 : ck_lk E 108 (5 + 0) = 0 + (1 * σ 5 + 0) := (hP _ (List.mem_of_getElem? (i := 4) rfl)).2.2
  have q4 : (0 : Int) ≤ 5 + 0 := (hP _ (List.mem_of_getElem? (i := 4) rfl)).2.1
  have p5 : ck_lk E 72 (0 + (1 * σ 0 + 0)) = 0 + (1 * σ 6 + 0) := (hP _ (List.mem_of_getElem? (i := 5) rfl)).2.2
  have q5 : (0 : Int) ≤ 0 + (1 * σ 0 + 0) := (hP _ (List.mem_of_getElem? (i := 5) rfl)).2.1
  have p6 : ck_lk E 115 (3000 + (1 * σ 0 + 0)) = 0 + (1 * σ 7 + 0) := (hP _ (List.mem_of_getElem? (i := 6) rfl)).2.2
  have q6 : (0 : Int) ≤ 3000 + (1 * σ 0 + 0) := (hP _ (List.mem_of_getElem? (i := 6) rfl)).2.1
  have key : (((0 : Int) ≤ 0 + 0 ∧ ck_lk (va_up E 72 e') 108 (0 + 0) = 0 + (1 * σ 1 + 0)) ∧ ((0 : Int) ≤ 1 + 0 ∧ ck_lk (va_up E 72 e') 108 (1 + 0) = 0 + (1 * σ 2 + 0)) ∧ ((0 : Int) ≤ 2 + 0 ∧ ck_lk (va_up E 72 e') 108 (2 + 0) = 0 + (1 * σ 3 + 0)) ∧ ((0 : Int) ≤ 4 + 0 ∧ ck_lk (va_up E 72 e') 108 (4 + 0) = 0 + (1 * σ 4 + 0)) ∧ ((0 : Int) ≤ 5 + 0 ∧ ck_lk (va_up E 72 e') 108 (5 + 0) = 0 + (1 * σ 5 + 0)) ∧ ((0 : Int) ≤ 3001 + (1 * σ 0 + 0) ∧ ck_lk (va_up E 72 e') 115 (3001 + (1 * σ 0 + 0)) = 1 + 0) ∧ True) := by
    rw [kc (i := 0 + σ 0) (by decide) (by omega)] at p5
    rw [ck_lk_v (by decide)] at p6
    have hp := cb_ge p6 (by omega)
    refine ⟨⟨by decide, ?_⟩, ⟨by decide, ?_⟩, ⟨by decide, ?_⟩, ⟨by decide, ?_⟩, ⟨by decide, ?_⟩, ⟨by omega, ?_⟩, trivial⟩
    · rw [k108 (c := 0) (by decide)] at p0
      rw [k108 (c := 0) (by decide), vf_wx_st hgi hgi2 (by decide) (by decide) l2 ⟨fun q => absurd q (by decide), fun q => absurd q (by decide), fun q => absurd q (by decide), fun q => absurd q (by decide), fun _ => by omega⟩]
      exact p0
    · rw [k108 (c := 1) (by decide)] at p1
      rw [k108 (c := 1) (by decide), vf_wx_st hgi hgi2 (by decide) (by decide) l2 ⟨fun q => absurd q (by decide), fun q => absurd q (by decide), fun q => absurd q (by decide), fun q => absurd q (by decide), fun _ => by omega⟩]
      exact p1
    · rw [k108 (c := 2) (by decide)] at p2
      rw [k108 (c := 2) (by decide), vf_wx_st hgi hgi2 (by decide) (by decide) l2 ⟨fun q => absurd q (by decide), fun q => absurd q (by decide), fun q => absurd q (by decide), fun q => absurd q (by decide), fun _ => by omega⟩]
      exact p2
    · rw [k108 (c := 4) (by decide)] at p3
      rw [k108 (c := 4) (by decide), vf_wx_st hgi hgi2 (by decide) (by decide) l2 ⟨fun q => absurd q (by decide), fun q => absurd q (by decide), fun q => absurd q (by decide), fun q => absurd q (by decide), fun _ => by omega⟩]
      exact p3
    · rw [k108 (c := 5) (by decide)] at p4
      rw [k108 (c := 5) (by decide), vf_wx_st hgi hgi2 (by decide) (by decide) l2 ⟨fun q => absurd q (by decide), fun q => absurd q (by decide), fun q => absurd q (by decide), fun q => absurd q (by decide), fun _ => by omega⟩]
      exact p4
    · rw [ck_lk_v (by decide)]
      refine (cb_t ?_).trans rfl
      intro i i0 i1
      have i1 : i < (3001 + (1 * σ 0 + 0)) % 1000 := i1
      show ck_loc (va_up E 72 e' 72) (24 * ((3001 + (1 * σ 0 + 0)) / 1000 % 10) + i) = ck_loc (va_up E 72 e' 72) (24 * ((3001 + (1 * σ 0 + 0)) / 10000) + i)
      rw [va_up_self, show (3001 + (1 * σ 0 + 0)) / 1000 % 10 = 3 by omega, show (3001 + (1 * σ 0 + 0)) / 10000 = 0 by omega]
      have hp : ∀ i : Int, 0 ≤ i → i < (3000 + (1 * σ 0 + 0)) % 1000 → ck_loc (E 72) (24 * ((3000 + (1 * σ 0 + 0)) / 1000 % 10) + i) = ck_loc (E 72) (24 * ((3000 + (1 * σ 0 + 0)) / 10000) + i) := hp
      rw [show (3000 + (1 * σ 0 + 0)) / 1000 % 10 = 3 by omega, show (3000 + (1 * σ 0 + 0)) / 10000 = 0 by omega] at hp
      rw [l2 (24 * 0 + i) (by omega) (by omega)]
      by_cases hi : i = σ 0
      · rw [hi, show (24 * 3 + σ 0 : Int) = 72 + (1 * σ 0 + 0) by omega, l1, show (24 * 0 + σ 0 : Int) = 0 + σ 0 by omega, p5]
      · rw [l2 (24 * 3 + i) (by omega) (by omega)]
        exact hp i i0 (by omega)
  obtain ⟨k0, k1, k2, k3, k4, k5, -⟩ := key
  exact ⟨_, (List.mem_of_getElem? (i := 0) rfl), σ, ck_ag_rf, (fun _ h => absurd h List.not_mem_nil), (fun _ h => absurd h List.not_mem_nil), trivial, (List.forall_mem_cons.mpr ⟨⟨⟨ck_wb_ok rfl, ck_wb_ok rfl⟩, k0⟩, (List.forall_mem_cons.mpr ⟨⟨⟨ck_wb_ok rfl, ck_wb_ok rfl⟩, k1⟩, (List.forall_mem_cons.mpr ⟨⟨⟨ck_wb_ok rfl, ck_wb_ok rfl⟩, k2⟩, (List.forall_mem_cons.mpr ⟨⟨⟨ck_wb_ok rfl, ck_wb_ok rfl⟩, k3⟩, (List.forall_mem_cons.mpr ⟨⟨⟨ck_wb_ok rfl, ck_wb_ok rfl⟩, k4⟩, (List.forall_mem_cons.mpr ⟨⟨⟨ck_wb_ok rfl, ck_wb_ok rfl⟩, k5⟩, (fun _ h => absurd h List.not_mem_nil)⟩)⟩)⟩)⟩)⟩)⟩), (fun _ h => absurd h List.not_mem_nil)⟩
theorem ccCW2_0_3 {l : Launch} {D : va_G} {kp : Nat → ClassId} : ck_con l D kp ck_NN ceCW2_0_3 := ck_con_s (k := 72) rfl rpCW2_0_3
theorem rpWC_0_3 : ck_gcon ceWC_0_3 := by
  intro σ E hgi hF hP hΦ
  have f0 : (0 : Int) ≤ (-1) + (1 * σ 0 + 0) := hF _ (List.mem_of_getElem? (i := 0) rfl)
  have f1 : (0 : Int) ≤ (-1) + (1 * σ 17 + 0) := hF _ (List.mem_of_getElem? (i := 1) rfl)
  have f2 : (0 : Int) ≤ (-1) + (1 * σ 18 + 0) := hF _ (List.mem_of_getElem? (i := 2) rfl)
  have f3 : (0 : Int) ≤ 0 + (1 * σ 1 + ((-1) * σ 2 + 0)) := hF _ (List.mem_of_getElem? (i := 3) rfl)
  have f4 : (0 : Int) ≤ 0 + ((-1) * σ 1 + (1 * σ 2 + 0)) := hF _ (List.mem_of_getElem? (i := 4) rfl)
  have f5 : (0 : Int) ≤ 0 + (1 * σ 3 + ((-1) * σ 4 + 0)) := hF _ (List.mem_of_getElem? (i := 5) rfl)
  have f6 : (0 : Int) ≤ 0 + ((-1) * σ 3 + (1 * σ 4 + 0)) := hF _ (List.mem_of_getElem? (i := 6) rfl)
  have f7 : (0 : Int) ≤ 0 + (1 * σ 5 + ((-1) * σ 11 + 0)) := hF _ (List.mem_of_getElem? (i := 7) rfl)
  have f8 : (0 : Int) ≤ 0 + ((-1) * σ 5 + (1 * σ 11 + 0)) := hF _ (List.mem_of_getElem? (i := 8) rfl)
  have f9 : (0 : Int) ≤ 0 + (1 * σ 6 + ((-1) * σ 12 + 0)) := hF _ (List.mem_of_getElem? (i := 9) rfl)
  have f10 : (0 : Int) ≤ 0 + ((-1) * σ 6 + (1 * σ 12 + 0)) := hF _ (List.mem_of_getElem? (i := 10) rfl)
  have f11 : (0 : Int) ≤ 0 + (1 * σ 7 + ((-1) * σ 13 + 0)) := hF _ (List.mem_of_getElem? (i := 11) rfl)
  have f12 : (0 : Int) ≤ 0 + ((-1) * σ 7 + (1 * σ 13 + 0)) := hF _ (List.mem_of_getElem? (i := 12) rfl)
  have f13 : (0 : Int) ≤ 0 + (1 * σ 8 + ((-1) * σ 14 + 0)) := hF _ (List.mem_of_getElem? (i := 13) rfl)
  have f14 : (0 : Int) ≤ 0 + ((-1) * σ 8 + (1 * σ 14 + 0)) := hF _ (List.mem_of_getElem? (i := 14) rfl)
  have f15 : (0 : Int) ≤ 0 + (1 * σ 9 + ((-1) * σ 15 + 0)) := hF _ (List.mem_of_getElem? (i := 15) rfl)
  have f16 : (0 : Int) ≤ 0 + ((-1) * σ 9 + (1 * σ 15 + 0)) := hF _ (List.mem_of_getElem? (i := 16) rfl)
  have f17 : (0 : Int) ≤ 0 + (1 * σ 10 + ((-1) * σ 16 + 0)) := hF _ (List.mem_of_getElem? (i := 17) rfl)
  have f18 : (0 : Int) ≤ 0 + ((-1) * σ 10 + (1 * σ 16 + 0)) := hF _ (List.mem_of_getElem? (i := 18) rfl)
  have p0 : ck_lk E 108 (0 + 0) = 0 + (1 * σ 0 + 0) := (hP _ (List.mem_of_getElem? (i := 0) rfl)).2.2
  have q0 : (0 : Int) ≤ 0 + 0 := (hP _ (List.mem_of_getElem? (i := 0) rfl)).2.1
  have p1 : ck_lk E 65 (0 + 0) = 0 + (1 * σ 1 + 0) := (hP _ (List.mem_of_getElem? (i := 1) rfl)).2.2
  have q1 : (0 : Int) ≤ 0 + 0 := (hP _ (List.mem_of_getElem? (i := 1) rfl)).2.1
  have p2 : ck_lk E 65 (3 + 0) = 0 + (1 * σ 2 + 0) := (hP _ (List.mem_of_getElem? (i := 2) rfl)).2.2
  have q2 : (0 : Int) ≤ 3 + 0 := (hP _ (List.mem_of_getElem? (i := 2) rfl)).2.1
  have p3 : ck_lk E 70 (1 + 0) = 0 + (1 * σ 3 + 0) := (hP _ (List.mem_of_getElem? (i := 3) rfl)).2.2
  have q3 : (0 : Int) ≤ 1 + 0 := (hP _ (List.mem_of_getElem? (i := 3) rfl)).2.1
  have p4 : ck_lk E 70 (7 + 0) = 0 + (1 * σ 4 + 0) := (hP _ (List.mem_of_getElem? (i := 4) rfl)).2.2
  have q4 : (0 : Int) ≤ 7 + 0 := (hP _ (List.mem_of_getElem? (i := 4) rfl)).2.1
  have p5 : ck_lk E 67 (0 + 0) = 0 + (1 * σ 5 + 0) := (hP _ (List.mem_of_getElem? (i := 5) rfl)).2.2
  have q5 : (0 : Int) ≤ 0 + 0 := (hP _ (List.mem_of_getElem? (i := 5) rfl)).2.1
  have p6 : ck_lk E 67 (1 + 0) = 0 + (1 * σ 6 + 0) := (hP _ (List.mem_of_getElem? (i := 6) rfl)).2.2
  have q6 : (0 : Int) ≤ 1 + 0 := (hP _ (List.mem_of_getElem? (i := 6) rfl)).2.1
  have p7 : ck_lk E 67 (2 + 0) = 0 + (1 * σ 7 + 0) := (hP _ (List.mem_of_getElem? (i := 7) rfl)).2.2
  have q7 : (0 : Int) ≤ 2 + 0 := (hP _ (List.mem_of_getElem? (i := 7) rfl)).2.1
  have p8 : ck_lk E 67 (3 + 0) = 0 + (1 * σ 8 + 0) := (hP _ (List.mem_of_getElem? (i := 8) rfl)).2.2
  have q8 : (0 : Int) ≤ 3 + 0 := (hP _ (List.mem_of_getElem? (i := 8) rfl)).2.1
  have p9 : ck_lk E 67 (4 + 0) = 0 + (1 * σ 9 + 0) := (hP _ (List.mem_of_getElem? (i := 9) rfl)).2.2
  have q9 : (0 : Int) ≤ 4 + 0 := (hP _ (List.mem_of_getElem? (i := 9) rfl)).2.1
  have p10 : ck_lk E 67 (5 + 0) = 0 + (1 * σ 10 + 0) := (hP _ (List.mem_of_getElem? (i := 10) rfl)).2.2
  have q10 : (0 : Int) ≤ 5 + 0 := (hP _ (List.mem_of_getElem? (i := 10) rfl)).2.1
  have p11 : ck_lk E 67 (18 + 0) = 0 + (1 * σ 11 + 0) := (hP _ (List.mem_of_getElem? (i := 11) rfl)).2.2
  have q11 : (0 : Int) ≤ 18 + 0 := (hP _ (List.mem_of_getElem? (i := 11) rfl)).2.1
  have p12 : ck_lk E 67 (19 + 0) = 0 + (1 * σ 12 + 0) := (hP _ (List.mem_of_getElem? (i := 12) rfl)).2.2
  have q12 : (0 : Int) ≤ 19 + 0 := (hP _ (List.mem_of_getElem? (i := 12) rfl)).2.1
  have p13 : ck_lk E 67 (20 + 0) = 0 + (1 * σ 13 + 0) := (hP _ (List.mem_of_getElem? (i := 13) rfl)).2.2
  have q13 : (0 : Int) ≤ 20 + 0 := (hP _ (List.mem_of_getElem? (i := 13) rfl)).2.1
  have p14 : ck_lk E 67 (21 + 0) = 0 + (1 * σ 14 + 0) := (hP _ (List.mem_of_getElem? (i := 14) rfl)).2.2
  have q14 : (0 : Int) ≤ 21 + 0 := (hP _ (List.mem_of_getElem? (i := 14) rfl)).2.1
  have p15 : ck_lk E 67 (22 + 0) = 0 + (1 * σ 15 + 0) := (hP _ (List.mem_of_getElem? (i := 15) rfl)).2.2
  have q15 : (0 : Int) ≤ 22 + 0 := (hP _ (List.mem_of_getElem? (i := 15) rfl)).2.1
  have p16 : ck_lk E 67 (23 + 0) = 0 + (1 * σ 16 + 0) := (hP _ (List.mem_of_getElem? (i := 16) rfl)).2.2
  have q16 : (0 : Int) ≤ 23 + 0 := (hP _ (List.mem_of_getElem? (i := 16) rfl)).2.1
  have p17 : ck_lk E 114 (3048 + 0) = 0 + (1 * σ 17 + 0) := (hP _ (List.mem_of_getElem? (i := 17) rfl)).2.2
  have q17 : (0 : Int) ≤ 3048 + 0 := (hP _ (List.mem_of_getElem? (i := 17) rfl)).2.1
  have p18 : ck_lk E 115 (3024 + 0) = 0 + (1 * σ 18 + 0) := (hP _ (List.mem_of_getElem? (i := 18) rfl)).2.2
  have q18 : (0 : Int) ≤ 3024 + 0 := (hP _ (List.mem_of_getElem? (i := 18) rfl)).2.1
  have key : (((0 : Int) ≤ 3 + 0 ∧ ck_lk E 108 (3 + 0) = 1 + 0) ∧ True) := by
    rw [k108 (c := 0) (by decide)] at p0
    have hw := cb_ge p0 (by omega)
    rw [kc (i := 0) (by decide) (by decide)] at p1
    rw [kc (i := 3) (by decide) (by decide)] at p2
    rw [kc (i := 1) (by decide) (by decide)] at p3
    rw [kc (i := 7) (by decide) (by decide)] at p4
    rw [kc (i := 0) (by decide) (by decide)] at p5
    rw [kc (i := 18) (by decide) (by decide)] at p11
    rw [kc (i := 1) (by decide) (by decide)] at p6
    rw [kc (i := 19) (by decide) (by decide)] at p12
    rw [kc (i := 2) (by decide) (by decide)] at p7
    rw [kc (i := 20) (by decide) (by decide)] at p13
    rw [kc (i := 3) (by decide) (by decide)] at p8
    rw [kc (i := 21) (by decide) (by decide)] at p14
    rw [kc (i := 4) (by decide) (by decide)] at p9
    rw [kc (i := 22) (by decide) (by decide)] at p15
    rw [kc (i := 5) (by decide) (by decide)] at p10
    rw [kc (i := 23) (by decide) (by decide)] at p16
    rw [ck_lk_v (by decide)] at p17 p18
    have h9 : ∀ i : Int, 0 ≤ i → i < 48 → ck_loc (E 69) (48 * 3 + i) = ck_loc (E 69) (48 * 0 + i) := cb_ge p17 (by omega)
    have h2 : ∀ i : Int, 0 ≤ i → i < 24 → ck_loc (E 72) (24 * 3 + i) = ck_loc (E 72) (24 * 0 + i) := cb_ge p18 (by omega)
    refine ⟨⟨by decide, ?_⟩, trivial⟩
    rw [k108 (c := 3) (by decide)]
    refine (cb_t ?_).trans rfl
    refine vf_wx_mono (a := 0) hgi (by decide) (by decide) (by omega) (fun r r0 r6 => ?_) h9 (show ck_loc (E 70) 7 = ck_loc (E 70) 1 by omega) h2 hw
    have hr : r = 0 ∨ r = 1 ∨ r = 2 ∨ r = 3 ∨ r = 4 ∨ r = 5 := by omega
    rcases hr with rfl | rfl | rfl | rfl | rfl | rfl
    · show ck_loc (E 67) 18 = ck_loc (E 67) 0
      omega
    · show ck_loc (E 67) 19 = ck_loc (E 67) 1
      omega
    · show ck_loc (E 67) 20 = ck_loc (E 67) 2
      omega
    · show ck_loc (E 67) 21 = ck_loc (E 67) 3
      omega
    · show ck_loc (E 67) 22 = ck_loc (E 67) 4
      omega
    · show ck_loc (E 67) 23 = ck_loc (E 67) 5
      omega
  obtain ⟨k0, -⟩ := key
  exact ⟨_, (List.mem_of_getElem? (i := 0) rfl), σ, ck_ag_rf, (fun _ h => absurd h List.not_mem_nil), (fun _ h => absurd h List.not_mem_nil), trivial, (List.forall_mem_cons.mpr ⟨⟨⟨ck_wb_ok rfl, ck_wb_ok rfl⟩, k0⟩, (fun _ h => absurd h List.not_mem_nil)⟩), (fun _ h => absurd h List.not_mem_nil)⟩
theorem ccWC_0_3 {l : Launch} {D : va_G} {kp : Nat → ClassId} : ck_con l D kp ck_NN ceWC_0_3 := ck_con_g rfl rpWC_0_3
theorem rpC14_1_0 : ck_gcon ceC14_1_0 := by
  intro σ E hgi hF hP hΦ
  have key : (((0 : Int) ≤ 10000 + 0 ∧ ck_lk E 114 (10000 + 0) = 1 + 0) ∧ True) := by
    refine ⟨⟨by decide, ?_⟩, trivial⟩
    rw [ck_lk_v (by decide)]
    refine (cb_t ?_).trans rfl
    intro i i0 i1
    have i1 : i < (10000 + 0 : Int) % 1000 := i1
    omega
  obtain ⟨k0, -⟩ := key
  exact ⟨_, (List.mem_of_getElem? (i := 0) rfl), σ, ck_ag_rf, (fun _ h => absurd h List.not_mem_nil), (fun _ h => absurd h List.not_mem_nil), trivial, (List.forall_mem_cons.mpr ⟨⟨⟨ck_wb_ok rfl, ck_wb_ok rfl⟩, k0⟩, (fun _ h => absurd h List.not_mem_nil)⟩), (fun _ h => absurd h List.not_mem_nil)⟩
theorem ccC14_1_0 {l : Launch} {D : va_G} {kp : Nat → ClassId} : ck_con l D kp ck_NN ceC14_1_0 := ck_con_g rfl rpC14_1_0
theorem rpC15_1_0 : ck_gcon ceC15_1_0 := by
  intro σ E hgi hF hP hΦ
  have key : (((0 : Int) ≤ 10000 + 0 ∧ ck_lk E 115 (10000 + 0) = 1 + 0) ∧ True) := by
    refine ⟨⟨by decide, ?_⟩, trivial⟩
    rw [ck_lk_v (by decide)]
    refine (cb_t ?_).trans rfl
    intro i i0 i1
    have i1 : i < (10000 + 0 : Int) % 1000 := i1
    omega
  obtain ⟨k0, -⟩ := key
  exact ⟨_, (List.mem_of_getElem? (i := 0) rfl), σ, ck_ag_rf, (fun _ h => absurd h List.not_mem_nil), (fun _ h => absurd h List.not_mem_nil), trivial, (List.forall_mem_cons.mpr ⟨⟨⟨ck_wb_ok rfl, ck_wb_ok rfl⟩, k0⟩, (fun _ h => absurd h List.not_mem_nil)⟩), (fun _ h => absurd h List.not_mem_nil)⟩
theorem ccC15_1_0 {l : Launch} {D : va_G} {kp : Nat → ClassId} : ck_con l D kp ck_NN ceC15_1_0 := ck_con_g rfl rpC15_1_0
theorem rpCW9_1_0 : ck_scon ceCW9_1_0 69 := by
  intro σ E e' idx v hargs hgi hF hP hΦ hgi2 h0 l1 l2
  cases hargs
  have h0 : (0 : Int) ≤ 0 + (1 * σ 0 + 0) := h0
  have l1 : ck_loc e' (0 + (1 * σ 0 + 0)) = 0 + (1 * σ 6 + 0) := l1
  have l2 : ∀ j, 0 ≤ j → ¬ j = 0 + (1 * σ 0 + 0) → ck_loc e' j = ck_loc (E 69) j := l2
  have f0 : (0 : Int) ≤ 0 + (1 * σ 0 + 0) := hF _ (List.mem_of_getElem? (i := 0) rfl)
  have f1 : (0 : Int) ≤ 47 + ((-1) * σ 0 + 0) := hF _ (List.mem_of_getElem? (i := 1) rfl)
  have f2 : (0 : Int) ≤ (-1) + (1 * σ 7 + 0) := hF _ (List.mem_of_getElem? (i := 2) rfl)
  have p0 : ck_lk E 108 (1 + 0) = 0 + (1 * σ 1 + 0) := (hP _ (List.mem_of_getElem? (i := 0) rfl)).2.2
  have q0 : (0 : Int) ≤ 1 + 0 := (hP _ (List.mem_of_getElem? (i := 0) rfl)).2.1
  have p1 : ck_lk E 108 (2 + 0) = 0 + (1 * σ 2 + 0) := (hP _ (List.mem_of_getElem? (i := 1) rfl)).2.2
  have q1 : (0 : Int) ≤ 2 + 0 := (hP _ (List.mem_of_getElem? (i := 1) rfl)).2.1
  have p2 : ck_lk E 108 (3 + 0) = 0 + (1 * σ 3 + 0) := (hP _ (List.mem_of_getElem? (i := 2) rfl)).2.2
  have q2 : (0 : Int) ≤ 3 + 0 := (hP _ (List.mem_of_getElem? (i := 2) rfl)).2.1
  have p3 : ck_lk E 108 (4 + 0) = 0 + (1 * σ 4 + 0) := (hP _ (List.mem_of_getElem? (i := 3) rfl)).2.2
  have q3 : (0 : Int) ≤ 4 + 0 := (hP _ (List.mem_of_getElem? (i := 3) rfl)).2.1
  have p4 : ck_lk E 108 (5 + 0) = 0 + (1 * σ 5 + 0) := (hP _ (List.mem_of_getElem? (i := 4) rfl)).2.2
  have q4 : (0 : Int) ≤ 5 + 0 := (hP _ (List.mem_of_getElem? (i := 4) rfl)).2.1
  have p5 : ck_lk E 69 (48 + (1 * σ 0 + 0)) = 0 + (1 * σ 6 + 0) := (hP _ (List.mem_of_getElem? (i := 5) rfl)).2.2
  have q5 : (0 : Int) ≤ 48 + (1 * σ 0 + 0) := (hP _ (List.mem_of_getElem? (i := 5) rfl)).2.1
  have p6 : ck_lk E 114 (10000 + (1 * σ 0 + 0)) = 0 + (1 * σ 7 + 0) := (hP _ (List.mem_of_getElem? (i := 6) rfl)).2.2
  have q6 : (0 : Int) ≤ 10000 + (1 * σ 0 + 0) := (hP _ (List.mem_of_getElem? (i := 6) rfl)).2.1
  have key : (((0 : Int) ≤ 1 + 0 ∧ ck_lk (va_up E 69 e') 108 (1 + 0) = 0 + (1 * σ 1 + 0)) ∧ ((0 : Int) ≤ 2 + 0 ∧ ck_lk (va_up E 69 e') 108 (2 + 0) = 0 + (1 * σ 2 + 0)) ∧ ((0 : Int) ≤ 3 + 0 ∧ ck_lk (va_up E 69 e') 108 (3 + 0) = 0 + (1 * σ 3 + 0)) ∧ ((0 : Int) ≤ 4 + 0 ∧ ck_lk (va_up E 69 e') 108 (4 + 0) = 0 + (1 * σ 4 + 0)) ∧ ((0 : Int) ≤ 5 + 0 ∧ ck_lk (va_up E 69 e') 108 (5 + 0) = 0 + (1 * σ 5 + 0)) ∧ ((0 : Int) ≤ 10001 + (1 * σ 0 + 0) ∧ ck_lk (va_up E 69 e') 114 (10001 + (1 * σ 0 + 0)) = 1 + 0) ∧ True) := by
    rw [kc (i := 48 + σ 0) (by decide) (by omega)] at p5
    rw [ck_lk_v (by decide)] at p6
    have hp := cb_ge p6 (by omega)
    refine ⟨⟨by decide, ?_⟩, ⟨by decide, ?_⟩, ⟨by decide, ?_⟩, ⟨by decide, ?_⟩, ⟨by decide, ?_⟩, ⟨by omega, ?_⟩, trivial⟩
    · rw [k108 (c := 1) (by decide)] at p0
      rw [k108 (c := 1) (by decide), vf_wx_st hgi hgi2 (by decide) (by decide) l2 ⟨fun q => absurd q (by decide), fun q => absurd q (by decide), fun _ => by omega, fun q => absurd q (by decide), fun q => absurd q (by decide)⟩]
      exact p0
    · rw [k108 (c := 2) (by decide)] at p1
      rw [k108 (c := 2) (by decide), vf_wx_st hgi hgi2 (by decide) (by decide) l2 ⟨fun q => absurd q (by decide), fun q => absurd q (by decide), fun _ => by omega, fun q => absurd q (by decide), fun q => absurd q (by decide)⟩]
      exact p1
    · rw [k108 (c := 3) (by decide)] at p2
      rw [k108 (c := 3) (by decide), vf_wx_st hgi hgi2 (by decide) (by decide) l2 ⟨fun q => absurd q (by decide), fun q => absurd q (by decide), fun _ => by omega, fun q => absurd q (by decide), fun q => absurd q (by decide)⟩]
      exact p2
    · rw [k108 (c := 4) (by decide)] at p3
      rw [k108 (c := 4) (by decide), vf_wx_st hgi hgi2 (by decide) (by decide) l2 ⟨fun q => absurd q (by decide), fun q => absurd q (by decide), fun _ => by omega, fun q => absurd q (by decide), fun q => absurd q (by decide)⟩]
      exact p3
    · rw [k108 (c := 5) (by decide)] at p4
      rw [k108 (c := 5) (by decide), vf_wx_st hgi hgi2 (by decide) (by decide) l2 ⟨fun q => absurd q (by decide), fun q => absurd q (by decide), fun _ => by omega, fun q => absurd q (by decide), fun q => absurd q (by decide)⟩]
      exact p4
    · rw [ck_lk_v (by decide)]
      refine (cb_t ?_).trans rfl
      intro i i0 i1
      have i1 : i < (10001 + (1 * σ 0 + 0)) % 1000 := i1
      show ck_loc (va_up E 69 e' 69) (48 * ((10001 + (1 * σ 0 + 0)) / 1000 % 10) + i) = ck_loc (va_up E 69 e' 69) (48 * ((10001 + (1 * σ 0 + 0)) / 10000) + i)
      rw [va_up_self, show (10001 + (1 * σ 0 + 0)) / 1000 % 10 = 0 by omega, show (10001 + (1 * σ 0 + 0)) / 10000 = 1 by omega]
      have hp : ∀ i : Int, 0 ≤ i → i < (10000 + (1 * σ 0 + 0)) % 1000 → ck_loc (E 69) (48 * ((10000 + (1 * σ 0 + 0)) / 1000 % 10) + i) = ck_loc (E 69) (48 * ((10000 + (1 * σ 0 + 0)) / 10000) + i) := hp
      rw [show (10000 + (1 * σ 0 + 0)) / 1000 % 10 = 0 by omega, show (10000 + (1 * σ 0 + 0)) / 10000 = 1 by omega] at hp
      rw [l2 (48 * 1 + i) (by omega) (by omega)]
      by_cases hi : i = σ 0
      · rw [hi, show (48 * 0 + σ 0 : Int) = 0 + (1 * σ 0 + 0) by omega, l1, show (48 * 1 + σ 0 : Int) = 48 + σ 0 by omega, p5]
      · rw [l2 (48 * 0 + i) (by omega) (by omega)]
        exact hp i i0 (by omega)
  obtain ⟨k0, k1, k2, k3, k4, k5, -⟩ := key
  exact ⟨_, (List.mem_of_getElem? (i := 0) rfl), σ, ck_ag_rf, (fun _ h => absurd h List.not_mem_nil), (fun _ h => absurd h List.not_mem_nil), trivial, (List.forall_mem_cons.mpr ⟨⟨⟨ck_wb_ok rfl, ck_wb_ok rfl⟩, k0⟩, (List.forall_mem_cons.mpr ⟨⟨⟨ck_wb_ok rfl, ck_wb_ok rfl⟩, k1⟩, (List.forall_mem_cons.mpr ⟨⟨⟨ck_wb_ok rfl, ck_wb_ok rfl⟩, k2⟩, (List.forall_mem_cons.mpr ⟨⟨⟨ck_wb_ok rfl, ck_wb_ok rfl⟩, k3⟩, (List.forall_mem_cons.mpr ⟨⟨⟨ck_wb_ok rfl, ck_wb_ok rfl⟩, k4⟩, (List.forall_mem_cons.mpr ⟨⟨⟨ck_wb_ok rfl, ck_wb_ok rfl⟩, k5⟩, (fun _ h => absurd h List.not_mem_nil)⟩)⟩)⟩)⟩)⟩)⟩), (fun _ h => absurd h List.not_mem_nil)⟩
theorem ccCW9_1_0 {l : Launch} {D : va_G} {kp : Nat → ClassId} : ck_con l D kp ck_NN ceCW9_1_0 := ck_con_s (k := 69) rfl rpCW9_1_0
theorem rpCW2_1_0 : ck_scon ceCW2_1_0 72 := by
  intro σ E e' idx v hargs hgi hF hP hΦ hgi2 h0 l1 l2
  cases hargs
  have h0 : (0 : Int) ≤ 0 + (1 * σ 0 + 0) := h0
  have l1 : ck_loc e' (0 + (1 * σ 0 + 0)) = 0 + (1 * σ 6 + 0) := l1
  have l2 : ∀ j, 0 ≤ j → ¬ j = 0 + (1 * σ 0 + 0) → ck_loc e' j = ck_loc (E 72) j := l2
  have f0 : (0 : Int) ≤ 0 + (1 * σ 0 + 0) := hF _ (List.mem_of_getElem? (i := 0) rfl)
  have f1 : (0 : Int) ≤ 23 + ((-1) * σ 0 + 0) := hF _ (List.mem_of_getElem? (i := 1) rfl)
  have f2 : (0 : Int) ≤ (-1) + (1 * σ 7 + 0) := hF _ (List.mem_of_getElem? (i := 2) rfl)
  have p0 : ck_lk E 108 (1 + 0) = 0 + (1 * σ 1 + 0) := (hP _ (List.mem_of_getElem? (i := 0) rfl)).2.2
  have q0 : (0 : Int) ≤ 1 + 0 := (hP _ (List.mem_of_getElem? (i := 0) rfl)).2.1
  have p1 : ck_lk E 108 (2 + 0) = 0 + (1 * σ 2 + 0) := (hP _ (List.mem_of_getElem? (i := 1) rfl)).2.2
  have q1 : (0 : Int) ≤ 2 + 0 := (hP _ (List.mem_of_getElem? (i := 1) rfl)).2.1
  have p2 : ck_lk E 108 (3 + 0) = 0 + (1 * σ 3 + 0) := (hP _ (List.mem_of_getElem? (i := 2) rfl)).2.2
  have q2 : (0 : Int) ≤ 3 + 0 := (hP _ (List.mem_of_getElem? (i := 2) rfl)).2.1
  have p3 : ck_lk E 108 (4 + 0) = 0 + (1 * σ 4 + 0) := (hP _ (List.mem_of_getElem? (i := 3) rfl)).2.2
  have q3 : (0 : Int) ≤ 4 + 0 := (hP _ (List.mem_of_getElem? (i := 3) rfl)).2.1
  have p4 : ck_lk E 108 (5 + 0) = 0 + (1 * σ 5 + 0) := (hP _ (List.mem_of_getElem? (i := 4) rfl)).2.2
  have q4 : (0 : Int) ≤ 5 + 0 := (hP _ (List.mem_of_getElem? (i := 4) rfl)).2.1
  have p5 : ck_lk E 72 (24 + (1 * σ 0 + 0)) = 0 + (1 * σ 6 + 0) := (hP _ (List.mem_of_getElem? (i := 5) rfl)).2.2
  have q5 : (0 : Int) ≤ 24 + (1 * σ 0 + 0) := (hP _ (List.mem_of_getElem? (i := 5) rfl)).2.1
  have p6 : ck_lk E 115 (10000 + (1 * σ 0 + 0)) = 0 + (1 * σ 7 + 0) := (hP _ (List.mem_of_getElem? (i := 6) rfl)).2.2
  have q6 : (0 : Int) ≤ 10000 + (1 * σ 0 + 0) := (hP _ (List.mem_of_getElem? (i := 6) rfl)).2.1
  have key : (((0 : Int) ≤ 1 + 0 ∧ ck_lk (va_up E 72 e') 108 (1 + 0) = 0 + (1 * σ 1 + 0)) ∧ ((0 : Int) ≤ 2 + 0 ∧ ck_lk (va_up E 72 e') 108 (2 + 0) = 0 + (1 * σ 2 + 0)) ∧ ((0 : Int) ≤ 3 + 0 ∧ ck_lk (va_up E 72 e') 108 (3 + 0) = 0 + (1 * σ 3 + 0)) ∧ ((0 : Int) ≤ 4 + 0 ∧ ck_lk (va_up E 72 e') 108 (4 + 0) = 0 + (1 * σ 4 + 0)) ∧ ((0 : Int) ≤ 5 + 0 ∧ ck_lk (va_up E 72 e') 108 (5 + 0) = 0 + (1 * σ 5 + 0)) ∧ ((0 : Int) ≤ 10001 + (1 * σ 0 + 0) ∧ ck_lk (va_up E 72 e') 115 (10001 + (1 * σ 0 + 0)) = 1 + 0) ∧ True) := by
    rw [kc (i := 24 + σ 0) (by decide) (by omega)] at p5
    rw [ck_lk_v (by decide)] at p6
    have hp := cb_ge p6 (by omega)
    refine ⟨⟨by decide, ?_⟩, ⟨by decide, ?_⟩, ⟨by decide, ?_⟩, ⟨by decide, ?_⟩, ⟨by decide, ?_⟩, ⟨by omega, ?_⟩, trivial⟩
    · rw [k108 (c := 1) (by decide)] at p0
      rw [k108 (c := 1) (by decide), vf_wx_st hgi hgi2 (by decide) (by decide) l2 ⟨fun q => absurd q (by decide), fun q => absurd q (by decide), fun q => absurd q (by decide), fun q => absurd q (by decide), fun _ => by omega⟩]
      exact p0
    · rw [k108 (c := 2) (by decide)] at p1
      rw [k108 (c := 2) (by decide), vf_wx_st hgi hgi2 (by decide) (by decide) l2 ⟨fun q => absurd q (by decide), fun q => absurd q (by decide), fun q => absurd q (by decide), fun q => absurd q (by decide), fun _ => by omega⟩]
      exact p1
    · rw [k108 (c := 3) (by decide)] at p2
      rw [k108 (c := 3) (by decide), vf_wx_st hgi hgi2 (by decide) (by decide) l2 ⟨fun q => absurd q (by decide), fun q => absurd q (by decide), fun q => absurd q (by decide), fun q => absurd q (by decide), fun _ => by omega⟩]
      exact p2
    · rw [k108 (c := 4) (by decide)] at p3
      rw [k108 (c := 4) (by decide), vf_wx_st hgi hgi2 (by decide) (by decide) l2 ⟨fun q => absurd q (by decide), fun q => absurd q (by decide), fun q => absurd q (by decide), fun q => absurd q (by decide), fun _ => by omega⟩]
      exact p3
    · rw [k108 (c := 5) (by decide)] at p4
      rw [k108 (c := 5) (by decide), vf_wx_st hgi hgi2 (by decide) (by decide) l2 ⟨fun q => absurd q (by decide), fun q => absurd q (by decide), fun q => absurd q (by decide), fun q => absurd q (by decide), fun _ => by omega⟩]
      exact p4
    · rw [ck_lk_v (by decide)]
      refine (cb_t ?_).trans rfl
      intro i i0 i1
      have i1 : i < (10001 + (1 * σ 0 + 0)) % 1000 := i1
      show ck_loc (va_up E 72 e' 72) (24 * ((10001 + (1 * σ 0 + 0)) / 1000 % 10) + i) = ck_loc (va_up E 72 e' 72) (24 * ((10001 + (1 * σ 0 + 0)) / 10000) + i)
      rw [va_up_self, show (10001 + (1 * σ 0 + 0)) / 1000 % 10 = 0 by omega, show (10001 + (1 * σ 0 + 0)) / 10000 = 1 by omega]
      have hp : ∀ i : Int, 0 ≤ i → i < (10000 + (1 * σ 0 + 0)) % 1000 → ck_loc (E 72) (24 * ((10000 + (1 * σ 0 + 0)) / 1000 % 10) + i) = ck_loc (E 72) (24 * ((10000 + (1 * σ 0 + 0)) / 10000) + i) := hp
      rw [show (10000 + (1 * σ 0 + 0)) / 1000 % 10 = 0 by omega, show (10000 + (1 * σ 0 + 0)) / 10000 = 1 by omega] at hp
      rw [l2 (24 * 1 + i) (by omega) (by omega)]
      by_cases hi : i = σ 0
      · rw [hi, show (24 * 0 + σ 0 : Int) = 0 + (1 * σ 0 + 0) by omega, l1, show (24 * 1 + σ 0 : Int) = 24 + σ 0 by omega, p5]
      · rw [l2 (24 * 0 + i) (by omega) (by omega)]
        exact hp i i0 (by omega)
  obtain ⟨k0, k1, k2, k3, k4, k5, -⟩ := key
  exact ⟨_, (List.mem_of_getElem? (i := 0) rfl), σ, ck_ag_rf, (fun _ h => absurd h List.not_mem_nil), (fun _ h => absurd h List.not_mem_nil), trivial, (List.forall_mem_cons.mpr ⟨⟨⟨ck_wb_ok rfl, ck_wb_ok rfl⟩, k0⟩, (List.forall_mem_cons.mpr ⟨⟨⟨ck_wb_ok rfl, ck_wb_ok rfl⟩, k1⟩, (List.forall_mem_cons.mpr ⟨⟨⟨ck_wb_ok rfl, ck_wb_ok rfl⟩, k2⟩, (List.forall_mem_cons.mpr ⟨⟨⟨ck_wb_ok rfl, ck_wb_ok rfl⟩, k3⟩, (List.forall_mem_cons.mpr ⟨⟨⟨ck_wb_ok rfl, ck_wb_ok rfl⟩, k4⟩, (List.forall_mem_cons.mpr ⟨⟨⟨ck_wb_ok rfl, ck_wb_ok rfl⟩, k5⟩, (fun _ h => absurd h List.not_mem_nil)⟩)⟩)⟩)⟩)⟩)⟩), (fun _ h => absurd h List.not_mem_nil)⟩
theorem ccCW2_1_0 {l : Launch} {D : va_G} {kp : Nat → ClassId} : ck_con l D kp ck_NN ceCW2_1_0 := ck_con_s (k := 72) rfl rpCW2_1_0
theorem rpWC_1_0 : ck_gcon ceWC_1_0 := by
  intro σ E hgi hF hP hΦ
  have f0 : (0 : Int) ≤ (-1) + (1 * σ 0 + 0) := hF _ (List.mem_of_getElem? (i := 0) rfl)
  have f1 : (0 : Int) ≤ (-1) + (1 * σ 17 + 0) := hF _ (List.mem_of_getElem? (i := 1) rfl)
  have f2 : (0 : Int) ≤ (-1) + (1 * σ 18 + 0) := hF _ (List.mem_of_getElem? (i := 2) rfl)
  have f3 : (0 : Int) ≤ 0 + (1 * σ 1 + ((-1) * σ 2 + 0)) := hF _ (List.mem_of_getElem? (i := 3) rfl)
  have f4 : (0 : Int) ≤ 0 + ((-1) * σ 1 + (1 * σ 2 + 0)) := hF _ (List.mem_of_getElem? (i := 4) rfl)
  have f5 : (0 : Int) ≤ 0 + (1 * σ 3 + ((-1) * σ 4 + 0)) := hF _ (List.mem_of_getElem? (i := 5) rfl)
  have f6 : (0 : Int) ≤ 0 + ((-1) * σ 3 + (1 * σ 4 + 0)) := hF _ (List.mem_of_getElem? (i := 6) rfl)
  have f7 : (0 : Int) ≤ 0 + (1 * σ 5 + ((-1) * σ 11 + 0)) := hF _ (List.mem_of_getElem? (i := 7) rfl)
  have f8 : (0 : Int) ≤ 0 + ((-1) * σ 5 + (1 * σ 11 + 0)) := hF _ (List.mem_of_getElem? (i := 8) rfl)
  have f9 : (0 : Int) ≤ 0 + (1 * σ 6 + ((-1) * σ 12 + 0)) := hF _ (List.mem_of_getElem? (i := 9) rfl)
  have f10 : (0 : Int) ≤ 0 + ((-1) * σ 6 + (1 * σ 12 + 0)) := hF _ (List.mem_of_getElem? (i := 10) rfl)
  have f11 : (0 : Int) ≤ 0 + (1 * σ 7 + ((-1) * σ 13 + 0)) := hF _ (List.mem_of_getElem? (i := 11) rfl)
  have f12 : (0 : Int) ≤ 0 + ((-1) * σ 7 + (1 * σ 13 + 0)) := hF _ (List.mem_of_getElem? (i := 12) rfl)
  have f13 : (0 : Int) ≤ 0 + (1 * σ 8 + ((-1) * σ 14 + 0)) := hF _ (List.mem_of_getElem? (i := 13) rfl)
  have f14 : (0 : Int) ≤ 0 + ((-1) * σ 8 + (1 * σ 14 + 0)) := hF _ (List.mem_of_getElem? (i := 14) rfl)
  have f15 : (0 : Int) ≤ 0 + (1 * σ 9 + ((-1) * σ 15 + 0)) := hF _ (List.mem_of_getElem? (i := 15) rfl)
  have f16 : (0 : Int) ≤ 0 + ((-1) * σ 9 + (1 * σ 15 + 0)) := hF _ (List.mem_of_getElem? (i := 16) rfl)
  have f17 : (0 : Int) ≤ 0 + (1 * σ 10 + ((-1) * σ 16 + 0)) := hF _ (List.mem_of_getElem? (i := 17) rfl)
  have f18 : (0 : Int) ≤ 0 + ((-1) * σ 10 + (1 * σ 16 + 0)) := hF _ (List.mem_of_getElem? (i := 18) rfl)
  have p0 : ck_lk E 108 (1 + 0) = 0 + (1 * σ 0 + 0) := (hP _ (List.mem_of_getElem? (i := 0) rfl)).2.2
  have q0 : (0 : Int) ≤ 1 + 0 := (hP _ (List.mem_of_getElem? (i := 0) rfl)).2.1
  have p1 : ck_lk E 65 (1 + 0) = 0 + (1 * σ 1 + 0) := (hP _ (List.mem_of_getElem? (i := 1) rfl)).2.2
  have q1 : (0 : Int) ≤ 1 + 0 := (hP _ (List.mem_of_getElem? (i := 1) rfl)).2.1
  have p2 : ck_lk E 65 (0 + 0) = 0 + (1 * σ 2 + 0) := (hP _ (List.mem_of_getElem? (i := 2) rfl)).2.2
  have q2 : (0 : Int) ≤ 0 + 0 := (hP _ (List.mem_of_getElem? (i := 2) rfl)).2.1
  have p3 : ck_lk E 70 (3 + 0) = 0 + (1 * σ 3 + 0) := (hP _ (List.mem_of_getElem? (i := 3) rfl)).2.2
  have q3 : (0 : Int) ≤ 3 + 0 := (hP _ (List.mem_of_getElem? (i := 3) rfl)).2.1
  have p4 : ck_lk E 70 (1 + 0) = 0 + (1 * σ 4 + 0) := (hP _ (List.mem_of_getElem? (i := 4) rfl)).2.2
  have q4 : (0 : Int) ≤ 1 + 0 := (hP _ (List.mem_of_getElem? (i := 4) rfl)).2.1
  have p5 : ck_lk E 67 (6 + 0) = 0 + (1 * σ 5 + 0) := (hP _ (List.mem_of_getElem? (i := 5) rfl)).2.2
  have q5 : (0 : Int) ≤ 6 + 0 := (hP _ (List.mem_of_getElem? (i := 5) rfl)).2.1
  have p6 : ck_lk E 67 (7 + 0) = 0 + (1 * σ 6 + 0) := (hP _ (List.mem_of_getElem? (i := 6) rfl)).2.2
  have q6 : (0 : Int) ≤ 7 + 0 := (hP _ (List.mem_of_getElem? (i := 6) rfl)).2.1
  have p7 : ck_lk E 67 (8 + 0) = 0 + (1 * σ 7 + 0) := (hP _ (List.mem_of_getElem? (i := 7) rfl)).2.2
  have q7 : (0 : Int) ≤ 8 + 0 := (hP _ (List.mem_of_getElem? (i := 7) rfl)).2.1
  have p8 : ck_lk E 67 (9 + 0) = 0 + (1 * σ 8 + 0) := (hP _ (List.mem_of_getElem? (i := 8) rfl)).2.2
  have q8 : (0 : Int) ≤ 9 + 0 := (hP _ (List.mem_of_getElem? (i := 8) rfl)).2.1
  have p9 : ck_lk E 67 (10 + 0) = 0 + (1 * σ 9 + 0) := (hP _ (List.mem_of_getElem? (i := 9) rfl)).2.2
  have q9 : (0 : Int) ≤ 10 + 0 := (hP _ (List.mem_of_getElem? (i := 9) rfl)).2.1
  have p10 : ck_lk E 67 (11 + 0) = 0 + (1 * σ 10 + 0) := (hP _ (List.mem_of_getElem? (i := 10) rfl)).2.2
  have q10 : (0 : Int) ≤ 11 + 0 := (hP _ (List.mem_of_getElem? (i := 10) rfl)).2.1
  have p11 : ck_lk E 67 (0 + 0) = 0 + (1 * σ 11 + 0) := (hP _ (List.mem_of_getElem? (i := 11) rfl)).2.2
  have q11 : (0 : Int) ≤ 0 + 0 := (hP _ (List.mem_of_getElem? (i := 11) rfl)).2.1
  have p12 : ck_lk E 67 (1 + 0) = 0 + (1 * σ 12 + 0) := (hP _ (List.mem_of_getElem? (i := 12) rfl)).2.2
  have q12 : (0 : Int) ≤ 1 + 0 := (hP _ (List.mem_of_getElem? (i := 12) rfl)).2.1
  have p13 : ck_lk E 67 (2 + 0) = 0 + (1 * σ 13 + 0) := (hP _ (List.mem_of_getElem? (i := 13) rfl)).2.2
  have q13 : (0 : Int) ≤ 2 + 0 := (hP _ (List.mem_of_getElem? (i := 13) rfl)).2.1
  have p14 : ck_lk E 67 (3 + 0) = 0 + (1 * σ 14 + 0) := (hP _ (List.mem_of_getElem? (i := 14) rfl)).2.2
  have q14 : (0 : Int) ≤ 3 + 0 := (hP _ (List.mem_of_getElem? (i := 14) rfl)).2.1
  have p15 : ck_lk E 67 (4 + 0) = 0 + (1 * σ 15 + 0) := (hP _ (List.mem_of_getElem? (i := 15) rfl)).2.2
  have q15 : (0 : Int) ≤ 4 + 0 := (hP _ (List.mem_of_getElem? (i := 15) rfl)).2.1
  have p16 : ck_lk E 67 (5 + 0) = 0 + (1 * σ 16 + 0) := (hP _ (List.mem_of_getElem? (i := 16) rfl)).2.2
  have q16 : (0 : Int) ≤ 5 + 0 := (hP _ (List.mem_of_getElem? (i := 16) rfl)).2.1
  have p17 : ck_lk E 114 (10048 + 0) = 0 + (1 * σ 17 + 0) := (hP _ (List.mem_of_getElem? (i := 17) rfl)).2.2
  have q17 : (0 : Int) ≤ 10048 + 0 := (hP _ (List.mem_of_getElem? (i := 17) rfl)).2.1
  have p18 : ck_lk E 115 (10024 + 0) = 0 + (1 * σ 18 + 0) := (hP _ (List.mem_of_getElem? (i := 18) rfl)).2.2
  have q18 : (0 : Int) ≤ 10024 + 0 := (hP _ (List.mem_of_getElem? (i := 18) rfl)).2.1
  have key : (((0 : Int) ≤ 0 + 0 ∧ ck_lk E 108 (0 + 0) = 1 + 0) ∧ True) := by
    rw [k108 (c := 1) (by decide)] at p0
    have hw := cb_ge p0 (by omega)
    rw [kc (i := 1) (by decide) (by decide)] at p1
    rw [kc (i := 0) (by decide) (by decide)] at p2
    rw [kc (i := 3) (by decide) (by decide)] at p3
    rw [kc (i := 1) (by decide) (by decide)] at p4
    rw [kc (i := 6) (by decide) (by decide)] at p5
    rw [kc (i := 0) (by decide) (by decide)] at p11
    rw [kc (i := 7) (by decide) (by decide)] at p6
    rw [kc (i := 1) (by decide) (by decide)] at p12
    rw [kc (i := 8) (by decide) (by decide)] at p7
    rw [kc (i := 2) (by decide) (by decide)] at p13
    rw [kc (i := 9) (by decide) (by decide)] at p8
    rw [kc (i := 3) (by decide) (by decide)] at p14
    rw [kc (i := 10) (by decide) (by decide)] at p9
    rw [kc (i := 4) (by decide) (by decide)] at p15
    rw [kc (i := 11) (by decide) (by decide)] at p10
    rw [kc (i := 5) (by decide) (by decide)] at p16
    rw [ck_lk_v (by decide)] at p17 p18
    have h9 : ∀ i : Int, 0 ≤ i → i < 48 → ck_loc (E 69) (48 * 0 + i) = ck_loc (E 69) (48 * 1 + i) := cb_ge p17 (by omega)
    have h2 : ∀ i : Int, 0 ≤ i → i < 24 → ck_loc (E 72) (24 * 0 + i) = ck_loc (E 72) (24 * 1 + i) := cb_ge p18 (by omega)
    refine ⟨⟨by decide, ?_⟩, trivial⟩
    rw [k108 (c := 0) (by decide)]
    refine (cb_t ?_).trans rfl
    refine vf_wx_mono (a := 1) hgi (by decide) (by decide) (by omega) (fun r r0 r6 => ?_) h9 (show ck_loc (E 70) 1 = ck_loc (E 70) 3 by omega) h2 hw
    have hr : r = 0 ∨ r = 1 ∨ r = 2 ∨ r = 3 ∨ r = 4 ∨ r = 5 := by omega
    rcases hr with rfl | rfl | rfl | rfl | rfl | rfl
    · show ck_loc (E 67) 0 = ck_loc (E 67) 6
      omega
    · show ck_loc (E 67) 1 = ck_loc (E 67) 7
      omega
    · show ck_loc (E 67) 2 = ck_loc (E 67) 8
      omega
    · show ck_loc (E 67) 3 = ck_loc (E 67) 9
      omega
    · show ck_loc (E 67) 4 = ck_loc (E 67) 10
      omega
    · show ck_loc (E 67) 5 = ck_loc (E 67) 11
      omega
  obtain ⟨k0, -⟩ := key
  exact ⟨_, (List.mem_of_getElem? (i := 0) rfl), σ, ck_ag_rf, (fun _ h => absurd h List.not_mem_nil), (fun _ h => absurd h List.not_mem_nil), trivial, (List.forall_mem_cons.mpr ⟨⟨⟨ck_wb_ok rfl, ck_wb_ok rfl⟩, k0⟩, (fun _ h => absurd h List.not_mem_nil)⟩), (fun _ h => absurd h List.not_mem_nil)⟩
theorem ccWC_1_0 {l : Launch} {D : va_G} {kp : Nat → ClassId} : ck_con l D kp ck_NN ceWC_1_0 := ck_con_g rfl rpWC_1_0
theorem rpC14_2_0 : ck_gcon ceC14_2_0 := by
  intro σ E hgi hF hP hΦ
  have key : (((0 : Int) ≤ 20000 + 0 ∧ ck_lk E 114 (20000 + 0) = 1 + 0) ∧ True) := by
    refine ⟨⟨by decide, ?_⟩, trivial⟩
    rw [ck_lk_v (by decide)]
    refine (cb_t ?_).trans rfl
    intro i i0 i1
    have i1 : i < (20000 + 0 : Int) % 1000 := i1
    omega
  obtain ⟨k0, -⟩ := key
  exact ⟨_, (List.mem_of_getElem? (i := 0) rfl), σ, ck_ag_rf, (fun _ h => absurd h List.not_mem_nil), (fun _ h => absurd h List.not_mem_nil), trivial, (List.forall_mem_cons.mpr ⟨⟨⟨ck_wb_ok rfl, ck_wb_ok rfl⟩, k0⟩, (fun _ h => absurd h List.not_mem_nil)⟩), (fun _ h => absurd h List.not_mem_nil)⟩
theorem ccC14_2_0 {l : Launch} {D : va_G} {kp : Nat → ClassId} : ck_con l D kp ck_NN ceC14_2_0 := ck_con_g rfl rpC14_2_0
theorem rpC15_2_0 : ck_gcon ceC15_2_0 := by
  intro σ E hgi hF hP hΦ
  have key : (((0 : Int) ≤ 20000 + 0 ∧ ck_lk E 115 (20000 + 0) = 1 + 0) ∧ True) := by
    refine ⟨⟨by decide, ?_⟩, trivial⟩
    rw [ck_lk_v (by decide)]
    refine (cb_t ?_).trans rfl
    intro i i0 i1
    have i1 : i < (20000 + 0 : Int) % 1000 := i1
    omega
  obtain ⟨k0, -⟩ := key
  exact ⟨_, (List.mem_of_getElem? (i := 0) rfl), σ, ck_ag_rf, (fun _ h => absurd h List.not_mem_nil), (fun _ h => absurd h List.not_mem_nil), trivial, (List.forall_mem_cons.mpr ⟨⟨⟨ck_wb_ok rfl, ck_wb_ok rfl⟩, k0⟩, (fun _ h => absurd h List.not_mem_nil)⟩), (fun _ h => absurd h List.not_mem_nil)⟩
theorem ccC15_2_0 {l : Launch} {D : va_G} {kp : Nat → ClassId} : ck_con l D kp ck_NN ceC15_2_0 := ck_con_g rfl rpC15_2_0
theorem rpCW9_2_0 : ck_scon ceCW9_2_0 69 := by
  intro σ E e' idx v hargs hgi hF hP hΦ hgi2 h0 l1 l2
  cases hargs
  have h0 : (0 : Int) ≤ 0 + (1 * σ 0 + 0) := h0
  have l1 : ck_loc e' (0 + (1 * σ 0 + 0)) = 0 + (1 * σ 6 + 0) := l1
  have l2 : ∀ j, 0 ≤ j → ¬ j = 0 + (1 * σ 0 + 0) → ck_loc e' j = ck_loc (E 69) j := l2
  have f0 : (0 : Int) ≤ 0 + (1 * σ 0 + 0) := hF _ (List.mem_of_getElem? (i := 0) rfl)
  have f1 : (0 : Int) ≤ 47 + ((-1) * σ 0 + 0) := hF _ (List.mem_of_getElem? (i := 1) rfl)
  have f2 : (0 : Int) ≤ (-1) + (1 * σ 7 + 0) := hF _ (List.mem_of_getElem? (i := 2) rfl)
  have p0 : ck_lk E 108 (1 + 0) = 0 + (1 * σ 1 + 0) := (hP _ (List.mem_of_getElem? (i := 0) rfl)).2.2
  have q0 : (0 : Int) ≤ 1 + 0 := (hP _ (List.mem_of_getElem? (i := 0) rfl)).2.1
  have p1 : ck_lk E 108 (2 + 0) = 0 + (1 * σ 2 + 0) := (hP _ (List.mem_of_getElem? (i := 1) rfl)).2.2
  have q1 : (0 : Int) ≤ 2 + 0 := (hP _ (List.mem_of_getElem? (i := 1) rfl)).2.1
  have p2 : ck_lk E 108 (3 + 0) = 0 + (1 * σ 3 + 0) := (hP _ (List.mem_of_getElem? (i := 2) rfl)).2.2
  have q2 : (0 : Int) ≤ 3 + 0 := (hP _ (List.mem_of_getElem? (i := 2) rfl)).2.1
  have p3 : ck_lk E 108 (4 + 0) = 0 + (1 * σ 4 + 0) := (hP _ (List.mem_of_getElem? (i := 3) rfl)).2.2
  have q3 : (0 : Int) ≤ 4 + 0 := (hP _ (List.mem_of_getElem? (i := 3) rfl)).2.1
  have p4 : ck_lk E 108 (5 + 0) = 0 + (1 * σ 5 + 0) := (hP _ (List.mem_of_getElem? (i := 4) rfl)).2.2
  have q4 : (0 : Int) ≤ 5 + 0 := (hP _ (List.mem_of_getElem? (i := 4) rfl)).2.1
  have p5 : ck_lk E 69 (96 + (1 * σ 0 + 0)) = 0 + (1 * σ 6 + 0) := (hP _ (List.mem_of_getElem? (i := 5) rfl)).2.2
  have q5 : (0 : Int) ≤ 96 + (1 * σ 0 + 0) := (hP _ (List.mem_of_getElem? (i := 5) rfl)).2.1
  have p6 : ck_lk E 114 (20000 + (1 * σ 0 + 0)) = 0 + (1 * σ 7 + 0) := (hP _ (List.mem_of_getElem? (i := 6) rfl)).2.2
  have q6 : (0 : Int) ≤ 20000 + (1 * σ 0 + 0) := (hP _ (List.mem_of_getElem? (i := 6) rfl)).2.1
  have key : (((0 : Int) ≤ 1 + 0 ∧ ck_lk (va_up E 69 e') 108 (1 + 0) = 0 + (1 * σ 1 + 0)) ∧ ((0 : Int) ≤ 2 + 0 ∧ ck_lk (va_up E 69 e') 108 (2 + 0) = 0 + (1 * σ 2 + 0)) ∧ ((0 : Int) ≤ 3 + 0 ∧ ck_lk (va_up E 69 e') 108 (3 + 0) = 0 + (1 * σ 3 + 0)) ∧ ((0 : Int) ≤ 4 + 0 ∧ ck_lk (va_up E 69 e') 108 (4 + 0) = 0 + (1 * σ 4 + 0)) ∧ ((0 : Int) ≤ 5 + 0 ∧ ck_lk (va_up E 69 e') 108 (5 + 0) = 0 + (1 * σ 5 + 0)) ∧ ((0 : Int) ≤ 20001 + (1 * σ 0 + 0) ∧ ck_lk (va_up E 69 e') 114 (20001 + (1 * σ 0 + 0)) = 1 + 0) ∧ True) := by
    rw [kc (i := 96 + σ 0) (by decide) (by omega)] at p5
    rw [ck_lk_v (by decide)] at p6
    have hp := cb_ge p6 (by omega)
    refine ⟨⟨by decide, ?_⟩, ⟨by decide, ?_⟩, ⟨by decide, ?_⟩, ⟨by decide, ?_⟩, ⟨by decide, ?_⟩, ⟨by omega, ?_⟩, trivial⟩
    · rw [k108 (c := 1) (by decide)] at p0
      rw [k108 (c := 1) (by decide), vf_wx_st hgi hgi2 (by decide) (by decide) l2 ⟨fun q => absurd q (by decide), fun q => absurd q (by decide), fun _ => by omega, fun q => absurd q (by decide), fun q => absurd q (by decide)⟩]
      exact p0
    · rw [k108 (c := 2) (by decide)] at p1
      rw [k108 (c := 2) (by decide), vf_wx_st hgi hgi2 (by decide) (by decide) l2 ⟨fun q => absurd q (by decide), fun q => absurd q (by decide), fun _ => by omega, fun q => absurd q (by decide), fun q => absurd q (by decide)⟩]
      exact p1
    · rw [k108 (c := 3) (by decide)] at p2
      rw [k108 (c := 3) (by decide), vf_wx_st hgi hgi2 (by decide) (by decide) l2 ⟨fun q => absurd q (by decide), fun q => absurd q (by decide), fun _ => by omega, fun q => absurd q (by decide), fun q => absurd q (by decide)⟩]
      exact p2
    · rw [k108 (c := 4) (by decide)] at p3
      rw [k108 (c := 4) (by decide), vf_wx_st hgi hgi2 (by decide) (by decide) l2 ⟨fun q => absurd q (by decide), fun q => absurd q (by decide), fun _ => by omega, fun q => absurd q (by decide), fun q => absurd q (by decide)⟩]
      exact p3
    · rw [k108 (c := 5) (by decide)] at p4
      rw [k108 (c := 5) (by decide), vf_wx_st hgi hgi2 (by decide) (by decide) l2 ⟨fun q => absurd q (by decide), fun q => absurd q (by decide), fun _ => by omega, fun q => absurd q (by decide), fun q => absurd q (by decide)⟩]
      exact p4
    · rw [ck_lk_v (by decide)]
      refine (cb_t ?_).trans rfl
      intro i i0 i1
      have i1 : i < (20001 + (1 * σ 0 + 0)) % 1000 := i1
      show ck_loc (va_up E 69 e' 69) (48 * ((20001 + (1 * σ 0 + 0)) / 1000 % 10) + i) = ck_loc (va_up E 69 e' 69) (48 * ((20001 + (1 * σ 0 + 0)) / 10000) + i)
      rw [va_up_self, show (20001 + (1 * σ 0 + 0)) / 1000 % 10 = 0 by omega, show (20001 + (1 * σ 0 + 0)) / 10000 = 2 by omega]
      have hp : ∀ i : Int, 0 ≤ i → i < (20000 + (1 * σ 0 + 0)) % 1000 → ck_loc (E 69) (48 * ((20000 + (1 * σ 0 + 0)) / 1000 % 10) + i) = ck_loc (E 69) (48 * ((20000 + (1 * σ 0 + 0)) / 10000) + i) := hp
      rw [show (20000 + (1 * σ 0 + 0)) / 1000 % 10 = 0 by omega, show (20000 + (1 * σ 0 + 0)) / 10000 = 2 by omega] at hp
      rw [l2 (48 * 2 + i) (by omega) (by omega)]
      by_cases hi : i = σ 0
      · rw [hi, show (48 * 0 + σ 0 : Int) = 0 + (1 * σ 0 + 0) by omega, l1, show (48 * 2 + σ 0 : Int) = 96 + σ 0 by omega, p5]
      · rw [l2 (48 * 0 + i) (by omega) (by omega)]
        exact hp i i0 (by omega)
  obtain ⟨k0, k1, k2, k3, k4, k5, -⟩ := key
  exact ⟨_, (List.mem_of_getElem? (i := 0) rfl), σ, ck_ag_rf, (fun _ h => absurd h List.not_mem_nil), (fun _ h => absurd h List.not_mem_nil), trivial, (List.forall_mem_cons.mpr ⟨⟨⟨ck_wb_ok rfl, ck_wb_ok rfl⟩, k0⟩, (List.forall_mem_cons.mpr ⟨⟨⟨ck_wb_ok rfl, ck_wb_ok rfl⟩, k1⟩, (List.forall_mem_cons.mpr ⟨⟨⟨ck_wb_ok rfl, ck_wb_ok rfl⟩, k2⟩, (List.forall_mem_cons.mpr ⟨⟨⟨ck_wb_ok rfl, ck_wb_ok rfl⟩, k3⟩, (List.forall_mem_cons.mpr ⟨⟨⟨ck_wb_ok rfl, ck_wb_ok rfl⟩, k4⟩, (List.forall_mem_cons.mpr ⟨⟨⟨ck_wb_ok rfl, ck_wb_ok rfl⟩, k5⟩, (fun _ h => absurd h List.not_mem_nil)⟩)⟩)⟩)⟩)⟩)⟩), (fun _ h => absurd h List.not_mem_nil)⟩
theorem ccCW9_2_0 {l : Launch} {D : va_G} {kp : Nat → ClassId} : ck_con l D kp ck_NN ceCW9_2_0 := ck_con_s (k := 69) rfl rpCW9_2_0
theorem rpCW2_2_0 : ck_scon ceCW2_2_0 72 := by
  intro σ E e' idx v hargs hgi hF hP hΦ hgi2 h0 l1 l2
  cases hargs
  have h0 : (0 : Int) ≤ 0 + (1 * σ 0 + 0) := h0
  have l1 : ck_loc e' (0 + (1 * σ 0 + 0)) = 0 + (1 * σ 6 + 0) := l1
  have l2 : ∀ j, 0 ≤ j → ¬ j = 0 + (1 * σ 0 + 0) → ck_loc e' j = ck_loc (E 72) j := l2
  have f0 : (0 : Int) ≤ 0 + (1 * σ 0 + 0) := hF _ (List.mem_of_getElem? (i := 0) rfl)
  have f1 : (0 : Int) ≤ 23 + ((-1) * σ 0 + 0) := hF _ (List.mem_of_getElem? (i := 1) rfl)
  have f2 : (0 : Int) ≤ (-1) + (1 * σ 7 + 0) := hF _ (List.mem_of_getElem? (i := 2) rfl)
  have p0 : ck_lk E 108 (1 + 0) = 0 + (1 * σ 1 + 0) := (hP _ (List.mem_of_getElem? (i := 0) rfl)).2.2
  have q0 : (0 : Int) ≤ 1 + 0 := (hP _ (List.mem_of_getElem? (i := 0) rfl)).2.1
  have p1 : ck_lk E 108 (2 + 0) = 0 + (1 * σ 2 + 0) := (hP _ (List.mem_of_getElem? (i := 1) rfl)).2.2
  have q1 : (0 : Int) ≤ 2 + 0 := (hP _ (List.mem_of_getElem? (i := 1) rfl)).2.1
  have p2 : ck_lk E 108 (3 + 0) = 0 + (1 * σ 3 + 0) := (hP _ (List.mem_of_getElem? (i := 2) rfl)).2.2
  have q2 : (0 : Int) ≤ 3 + 0 := (hP _ (List.mem_of_getElem? (i := 2) rfl)).2.1
  have p3 : ck_lk E 108 (4 + 0) = 0 + (1 * σ 4 + 0) := (hP _ (List.mem_of_getElem? (i := 3) rfl)).2.2
  have q3 : (0 : Int) ≤ 4 + 0 := (hP _ (List.mem_of_getElem? (i := 3) rfl)).2.1
  have p4 : ck_lk E 108 (5 + 0) = 0 + (1 * σ 5 + 0) := (hP _ (List.mem_of_getElem? (i := 4) rfl)).2.2
  have q4 : (0 : Int) ≤ 5 + 0 := (hP _ (List.mem_of_getElem? (i := 4) rfl)).2.1
  have p5 : ck_lk E 72 (48 + (1 * σ 0 + 0)) = 0 + (1 * σ 6 + 0) := (hP _ (List.mem_of_getElem? (i := 5) rfl)).2.2
  have q5 : (0 : Int) ≤ 48 + (1 * σ 0 + 0) := (hP _ (List.mem_of_getElem? (i := 5) rfl)).2.1
  have p6 : ck_lk E 115 (20000 + (1 * σ 0 + 0)) = 0 + (1 * σ 7 + 0) := (hP _ (List.mem_of_getElem? (i := 6) rfl)).2.2
  have q6 : (0 : Int) ≤ 20000 + (1 * σ 0 + 0) := (hP _ (List.mem_of_getElem? (i := 6) rfl)).2.1
  have key : (((0 : Int) ≤ 1 + 0 ∧ ck_lk (va_up E 72 e') 108 (1 + 0) = 0 + (1 * σ 1 + 0)) ∧ ((0 : Int) ≤ 2 + 0 ∧ ck_lk (va_up E 72 e') 108 (2 + 0) = 0 + (1 * σ 2 + 0)) ∧ ((0 : Int) ≤ 3 + 0 ∧ ck_lk (va_up E 72 e') 108 (3 + 0) = 0 + (1 * σ 3 + 0)) ∧ ((0 : Int) ≤ 4 + 0 ∧ ck_lk (va_up E 72 e') 108 (4 + 0) = 0 + (1 * σ 4 + 0)) ∧ ((0 : Int) ≤ 5 + 0 ∧ ck_lk (va_up E 72 e') 108 (5 + 0) = 0 + (1 * σ 5 + 0)) ∧ ((0 : Int) ≤ 20001 + (1 * σ 0 + 0) ∧ ck_lk (va_up E 72 e') 115 (20001 + (1 * σ 0 + 0)) = 1 + 0) ∧ True) := by
    rw [kc (i := 48 + σ 0) (by decide) (by omega)] at p5
    rw [ck_lk_v (by decide)] at p6
    have hp := cb_ge p6 (by omega)
    refine ⟨⟨by decide, ?_⟩, ⟨by decide, ?_⟩, ⟨by decide, ?_⟩, ⟨by decide, ?_⟩, ⟨by decide, ?_⟩, ⟨by omega, ?_⟩, trivial⟩
    · rw [k108 (c := 1) (by decide)] at p0
      rw [k108 (c := 1) (by decide), vf_wx_st hgi hgi2 (by decide) (by decide) l2 ⟨fun q => absurd q (by decide), fun q => absurd q (by decide), fun q => absurd q (by decide), fun q => absurd q (by decide), fun _ => by omega⟩]
      exact p0
    · rw [k108 (c := 2) (by decide)] at p1
      rw [k108 (c := 2) (by decide), vf_wx_st hgi hgi2 (by decide) (by decide) l2 ⟨fun q => absurd q (by decide), fun q => absurd q (by decide), fun q => absurd q (by decide), fun q => absurd q (by decide), fun _ => by omega⟩]
      exact p1
    · rw [k108 (c := 3) (by decide)] at p2
      rw [k108 (c := 3) (by decide), vf_wx_st hgi hgi2 (by decide) (by decide) l2 ⟨fun q => absurd q (by decide), fun q => absurd q (by decide), fun q => absurd q (by decide), fun q => absurd q (by decide), fun _ => by omega⟩]
      exact p2
    · rw [k108 (c := 4) (by decide)] at p3
      rw [k108 (c := 4) (by decide), vf_wx_st hgi hgi2 (by decide) (by decide) l2 ⟨fun q => absurd q (by decide), fun q => absurd q (by decide), fun q => absurd q (by decide), fun q => absurd q (by decide), fun _ => by omega⟩]
      exact p3
    · rw [k108 (c := 5) (by decide)] at p4
      rw [k108 (c := 5) (by decide), vf_wx_st hgi hgi2 (by decide) (by decide) l2 ⟨fun q => absurd q (by decide), fun q => absurd q (by decide), fun q => absurd q (by decide), fun q => absurd q (by decide), fun _ => by omega⟩]
      exact p4
    · rw [ck_lk_v (by decide)]
      refine (cb_t ?_).trans rfl
      intro i i0 i1
      have i1 : i < (20001 + (1 * σ 0 + 0)) % 1000 := i1
      show ck_loc (va_up E 72 e' 72) (24 * ((20001 + (1 * σ 0 + 0)) / 1000 % 10) + i) = ck_loc (va_up E 72 e' 72) (24 * ((20001 + (1 * σ 0 + 0)) / 10000) + i)
      rw [va_up_self, show (20001 + (1 * σ 0 + 0)) / 1000 % 10 = 0 by omega, show (20001 + (1 * σ 0 + 0)) / 10000 = 2 by omega]
      have hp : ∀ i : Int, 0 ≤ i → i < (20000 + (1 * σ 0 + 0)) % 1000 → ck_loc (E 72) (24 * ((20000 + (1 * σ 0 + 0)) / 1000 % 10) + i) = ck_loc (E 72) (24 * ((20000 + (1 * σ 0 + 0)) / 10000) + i) := hp
      rw [show (20000 + (1 * σ 0 + 0)) / 1000 % 10 = 0 by omega, show (20000 + (1 * σ 0 + 0)) / 10000 = 2 by omega] at hp
      rw [l2 (24 * 2 + i) (by omega) (by omega)]
      by_cases hi : i = σ 0
      · rw [hi, show (24 * 0 + σ 0 : Int) = 0 + (1 * σ 0 + 0) by omega, l1, show (24 * 2 + σ 0 : Int) = 48 + σ 0 by omega, p5]
      · rw [l2 (24 * 0 + i) (by omega) (by omega)]
        exact hp i i0 (by omega)
  obtain ⟨k0, k1, k2, k3, k4, k5, -⟩ := key
  exact ⟨_, (List.mem_of_getElem? (i := 0) rfl), σ, ck_ag_rf, (fun _ h => absurd h List.not_mem_nil), (fun _ h => absurd h List.not_mem_nil), trivial, (List.forall_mem_cons.mpr ⟨⟨⟨ck_wb_ok rfl, ck_wb_ok rfl⟩, k0⟩, (List.forall_mem_cons.mpr ⟨⟨⟨ck_wb_ok rfl, ck_wb_ok rfl⟩, k1⟩, (List.forall_mem_cons.mpr ⟨⟨⟨ck_wb_ok rfl, ck_wb_ok rfl⟩, k2⟩, (List.forall_mem_cons.mpr ⟨⟨⟨ck_wb_ok rfl, ck_wb_ok rfl⟩, k3⟩, (List.forall_mem_cons.mpr ⟨⟨⟨ck_wb_ok rfl, ck_wb_ok rfl⟩, k4⟩, (List.forall_mem_cons.mpr ⟨⟨⟨ck_wb_ok rfl, ck_wb_ok rfl⟩, k5⟩, (fun _ h => absurd h List.not_mem_nil)⟩)⟩)⟩)⟩)⟩)⟩), (fun _ h => absurd h List.not_mem_nil)⟩
theorem ccCW2_2_0 {l : Launch} {D : va_G} {kp : Nat → ClassId} : ck_con l D kp ck_NN ceCW2_2_0 := ck_con_s (k := 72) rfl rpCW2_2_0
theorem rpWC_2_0 : ck_gcon ceWC_2_0 := by
  intro σ E hgi hF hP hΦ
  have f0 : (0 : Int) ≤ (-1) + (1 * σ 0 + 0) := hF _ (List.mem_of_getElem? (i := 0) rfl)
  have f1 : (0 : Int) ≤ (-1) + (1 * σ 17 + 0) := hF _ (List.mem_of_getElem? (i := 1) rfl)
  have f2 : (0 : Int) ≤ (-1) + (1 * σ 18 + 0) := hF _ (List.mem_of_getElem? (i := 2) rfl)
  have f3 : (0 : Int) ≤ 0 + (1 * σ 1 + ((-1) * σ 2 + 0)) := hF _ (List.mem_of_getElem? (i := 3) rfl)
  have f4 : (0 : Int) ≤ 0 + ((-1) * σ 1 + (1 * σ 2 + 0)) := hF _ (List.mem_of_getElem? (i := 4) rfl)
  have f5 : (0 : Int) ≤ 0 + (1 * σ 3 + ((-1) * σ 4 + 0)) := hF _ (List.mem_of_getElem? (i := 5) rfl)
  have f6 : (0 : Int) ≤ 0 + ((-1) * σ 3 + (1 * σ 4 + 0)) := hF _ (List.mem_of_getElem? (i := 6) rfl)
  have f7 : (0 : Int) ≤ 0 + (1 * σ 5 + ((-1) * σ 11 + 0)) := hF _ (List.mem_of_getElem? (i := 7) rfl)
  have f8 : (0 : Int) ≤ 0 + ((-1) * σ 5 + (1 * σ 11 + 0)) := hF _ (List.mem_of_getElem? (i := 8) rfl)
  have f9 : (0 : Int) ≤ 0 + (1 * σ 6 + ((-1) * σ 12 + 0)) := hF _ (List.mem_of_getElem? (i := 9) rfl)
  have f10 : (0 : Int) ≤ 0 + ((-1) * σ 6 + (1 * σ 12 + 0)) := hF _ (List.mem_of_getElem? (i := 10) rfl)
  have f11 : (0 : Int) ≤ 0 + (1 * σ 7 + ((-1) * σ 13 + 0)) := hF _ (List.mem_of_getElem? (i := 11) rfl)
  have f12 : (0 : Int) ≤ 0 + ((-1) * σ 7 + (1 * σ 13 + 0)) := hF _ (List.mem_of_getElem? (i := 12) rfl)
  have f13 : (0 : Int) ≤ 0 + (1 * σ 8 + ((-1) * σ 14 + 0)) := hF _ (List.mem_of_getElem? (i := 13) rfl)
  have f14 : (0 : Int) ≤ 0 + ((-1) * σ 8 + (1 * σ 14 + 0)) := hF _ (List.mem_of_getElem? (i := 14) rfl)
  have f15 : (0 : Int) ≤ 0 + (1 * σ 9 + ((-1) * σ 15 + 0)) := hF _ (List.mem_of_getElem? (i := 15) rfl)
  have f16 : (0 : Int) ≤ 0 + ((-1) * σ 9 + (1 * σ 15 + 0)) := hF _ (List.mem_of_getElem? (i := 16) rfl)
  have f17 : (0 : Int) ≤ 0 + (1 * σ 10 + ((-1) * σ 16 + 0)) := hF _ (List.mem_of_getElem? (i := 17) rfl)
  have f18 : (0 : Int) ≤ 0 + ((-1) * σ 10 + (1 * σ 16 + 0)) := hF _ (List.mem_of_getElem? (i := 18) rfl)
  have p0 : ck_lk E 108 (2 + 0) = 0 + (1 * σ 0 + 0) := (hP _ (List.mem_of_getElem? (i := 0) rfl)).2.2
  have q0 : (0 : Int) ≤ 2 + 0 := (hP _ (List.mem_of_getElem? (i := 0) rfl)).2.1
  have p1 : ck_lk E 65 (2 + 0) = 0 + (1 * σ 1 + 0) := (hP _ (List.mem_of_getElem? (i := 1) rfl)).2.2
  have q1 : (0 : Int) ≤ 2 + 0 := (hP _ (List.mem_of_getElem? (i := 1) rfl)).2.1
  have p2 : ck_lk E 65 (0 + 0) = 0 + (1 * σ 2 + 0) := (hP _ (List.mem_of_getElem? (i := 2) rfl)).2.2
  have q2 : (0 : Int) ≤ 0 + 0 := (hP _ (List.mem_of_getElem? (i := 2) rfl)).2.1
  have p3 : ck_lk E 70 (5 + 0) = 0 + (1 * σ 3 + 0) := (hP _ (List.mem_of_getElem? (i := 3) rfl)).2.2
  have q3 : (0 : Int) ≤ 5 + 0 := (hP _ (List.mem_of_getElem? (i := 3) rfl)).2.1
  have p4 : ck_lk E 70 (1 + 0) = 0 + (1 * σ 4 + 0) := (hP _ (List.mem_of_getElem? (i := 4) rfl)).2.2
  have q4 : (0 : Int) ≤ 1 + 0 := (hP _ (List.mem_of_getElem? (i := 4) rfl)).2.1
  have p5 : ck_lk E 67 (12 + 0) = 0 + (1 * σ 5 + 0) := (hP _ (List.mem_of_getElem? (i := 5) rfl)).2.2
  have q5 : (0 : Int) ≤ 12 + 0 := (hP _ (List.mem_of_getElem? (i := 5) rfl)).2.1
  have p6 : ck_lk E 67 (13 + 0) = 0 + (1 * σ 6 + 0) := (hP _ (List.mem_of_getElem? (i := 6) rfl)).2.2
  have q6 : (0 : Int) ≤ 13 + 0 := (hP _ (List.mem_of_getElem? (i := 6) rfl)).2.1
  have p7 : ck_lk E 67 (14 + 0) = 0 + (1 * σ 7 + 0) := (hP _ (List.mem_of_getElem? (i := 7) rfl)).2.2
  have q7 : (0 : Int) ≤ 14 + 0 := (hP _ (List.mem_of_getElem? (i := 7) rfl)).2.1
  have p8 : ck_lk E 67 (15 + 0) = 0 + (1 * σ 8 + 0) := (hP _ (List.mem_of_getElem? (i := 8) rfl)).2.2
  have q8 : (0 : Int) ≤ 15 + 0 := (hP _ (List.mem_of_getElem? (i := 8) rfl)).2.1
  have p9 : ck_lk E 67 (16 + 0) = 0 + (1 * σ 9 + 0) := (hP _ (List.mem_of_getElem? (i := 9) rfl)).2.2
  have q9 : (0 : Int) ≤ 16 + 0 := (hP _ (List.mem_of_getElem? (i := 9) rfl)).2.1
  have p10 : ck_lk E 67 (17 + 0) = 0 + (1 * σ 10 + 0) := (hP _ (List.mem_of_getElem? (i := 10) rfl)).2.2
  have q10 : (0 : Int) ≤ 17 + 0 := (hP _ (List.mem_of_getElem? (i := 10) rfl)).2.1
  have p11 : ck_lk E 67 (0 + 0) = 0 + (1 * σ 11 + 0) := (hP _ (List.mem_of_getElem? (i := 11) rfl)).2.2
  have q11 : (0 : Int) ≤ 0 + 0 := (hP _ (List.mem_of_getElem? (i := 11) rfl)).2.1
  have p12 : ck_lk E 67 (1 + 0) = 0 + (1 * σ 12 + 0) := (hP _ (List.mem_of_getElem? (i := 12) rfl)).2.2
  have q12 : (0 : Int) ≤ 1 + 0 := (hP _ (List.mem_of_getElem? (i := 12) rfl)).2.1
  have p13 : ck_lk E 67 (2 + 0) = 0 + (1 * σ 13 + 0) := (hP _ (List.mem_of_getElem? (i := 13) rfl)).2.2
  have q13 : (0 : Int) ≤ 2 + 0 := (hP _ (List.mem_of_getElem? (i := 13) rfl)).2.1
  have p14 : ck_lk E 67 (3 + 0) = 0 + (1 * σ 14 + 0) := (hP _ (List.mem_of_getElem? (i := 14) rfl)).2.2
  have q14 : (0 : Int) ≤ 3 + 0 := (hP _ (List.mem_of_getElem? (i := 14) rfl)).2.1
  have p15 : ck_lk E 67 (4 + 0) = 0 + (1 * σ 15 + 0) := (hP _ (List.mem_of_getElem? (i := 15) rfl)).2.2
  have q15 : (0 : Int) ≤ 4 + 0 := (hP _ (List.mem_of_getElem? (i := 15) rfl)).2.1
  have p16 : ck_lk E 67 (5 + 0) = 0 + (1 * σ 16 + 0) := (hP _ (List.mem_of_getElem? (i := 16) rfl)).2.2
  have q16 : (0 : Int) ≤ 5 + 0 := (hP _ (List.mem_of_getElem? (i := 16) rfl)).2.1
  have p17 : ck_lk E 114 (20048 + 0) = 0 + (1 * σ 17 + 0) := (hP _ (List.mem_of_getElem? (i := 17) rfl)).2.2
  have q17 : (0 : Int) ≤ 20048 + 0 := (hP _ (List.mem_of_getElem? (i := 17) rfl)).2.1
  have p18 : ck_lk E 115 (20024 + 0) = 0 + (1 * σ 18 + 0) := (hP _ (List.mem_of_getElem? (i := 18) rfl)).2.2
  have q18 : (0 : Int) ≤ 20024 + 0 := (hP _ (List.mem_of_getElem? (i := 18) rfl)).2.1
  have key : (((0 : Int) ≤ 0 + 0 ∧ ck_lk E 108 (0 + 0) = 1 + 0) ∧ True) := by
    rw [k108 (c := 2) (by decide)] at p0
    have hw := cb_ge p0 (by omega)
    rw [kc (i := 2) (by decide) (by decide)] at p1
    rw [kc (i := 0) (by decide) (by decide)] at p2
    rw [kc (i := 5) (by decide) (by decide)] at p3
    rw [kc (i := 1) (by decide) (by decide)] at p4
    rw [kc (i := 12) (by decide) (by decide)] at p5
    rw [kc (i := 0) (by decide) (by decide)] at p11
    rw [kc (i := 13) (by decide) (by decide)] at p6
    rw [kc (i := 1) (by decide) (by decide)] at p12
    rw [kc (i := 14) (by decide) (by decide)] at p7
    rw [kc (i := 2) (by decide) (by decide)] at p13
    rw [kc (i := 15) (by decide) (by decide)] at p8
    rw [kc (i := 3) (by decide) (by decide)] at p14
    rw [kc (i := 16) (by decide) (by decide)] at p9
    rw [kc (i := 4) (by decide) (by decide)] at p15
    rw [kc (i := 17) (by decide) (by decide)] at p10
    rw [kc (i := 5) (by decide) (by decide)] at p16
    rw [ck_lk_v (by decide)] at p17 p18
    have h9 : ∀ i : Int, 0 ≤ i → i < 48 → ck_loc (E 69) (48 * 0 + i) = ck_loc (E 69) (48 * 2 + i) := cb_ge p17 (by omega)
    have h2 : ∀ i : Int, 0 ≤ i → i < 24 → ck_loc (E 72) (24 * 0 + i) = ck_loc (E 72) (24 * 2 + i) := cb_ge p18 (by omega)
    refine ⟨⟨by decide, ?_⟩, trivial⟩
    rw [k108 (c := 0) (by decide)]
    refine (cb_t ?_).trans rfl
    refine vf_wx_mono (a := 2) hgi (by decide) (by decide) (by omega) (fun r r0 r6 => ?_) h9 (show ck_loc (E 70) 1 = ck_loc (E 70) 5 by omega) h2 hw
    have hr : r = 0 ∨ r = 1 ∨ r = 2 ∨ r = 3 ∨ r = 4 ∨ r = 5 := by omega
    rcases hr with rfl | rfl | rfl | rfl | rfl | rfl
    · show ck_loc (E 67) 0 = ck_loc (E 67) 12
      omega
    · show ck_loc (E 67) 1 = ck_loc (E 67) 13
      omega
    · show ck_loc (E 67) 2 = ck_loc (E 67) 14
      omega
    · show ck_loc (E 67) 3 = ck_loc (E 67) 15
      omega
    · show ck_loc (E 67) 4 = ck_loc (E 67) 16
      omega
    · show ck_loc (E 67) 5 = ck_loc (E 67) 17
      omega
  obtain ⟨k0, -⟩ := key
  exact ⟨_, (List.mem_of_getElem? (i := 0) rfl), σ, ck_ag_rf, (fun _ h => absurd h List.not_mem_nil), (fun _ h => absurd h List.not_mem_nil), trivial, (List.forall_mem_cons.mpr ⟨⟨⟨ck_wb_ok rfl, ck_wb_ok rfl⟩, k0⟩, (fun _ h => absurd h List.not_mem_nil)⟩), (fun _ h => absurd h List.not_mem_nil)⟩
theorem ccWC_2_0 {l : Launch} {D : va_G} {kp : Nat → ClassId} : ck_con l D kp ck_NN ceWC_2_0 := ck_con_g rfl rpWC_2_0
theorem rpC14_3_0 : ck_gcon ceC14_3_0 := by
  intro σ E hgi hF hP hΦ
  have key : (((0 : Int) ≤ 30000 + 0 ∧ ck_lk E 114 (30000 + 0) = 1 + 0) ∧ True) := by
    refine ⟨⟨by decide, ?_⟩, trivial⟩
    rw [ck_lk_v (by decide)]
    refine (cb_t ?_).trans rfl
    intro i i0 i1
    have i1 : i < (30000 + 0 : Int) % 1000 := i1
    omega
  obtain ⟨k0, -⟩ := key
  exact ⟨_, (List.mem_of_getElem? (i := 0) rfl), σ, ck_ag_rf, (fun _ h => absurd h List.not_mem_nil), (fun _ h => absurd h List.not_mem_nil), trivial, (List.forall_mem_cons.mpr ⟨⟨⟨ck_wb_ok rfl, ck_wb_ok rfl⟩, k0⟩, (fun _ h => absurd h List.not_mem_nil)⟩), (fun _ h => absurd h List.not_mem_nil)⟩
theorem ccC14_3_0 {l : Launch} {D : va_G} {kp : Nat → ClassId} : ck_con l D kp ck_NN ceC14_3_0 := ck_con_g rfl rpC14_3_0
theorem rpC15_3_0 : ck_gcon ceC15_3_0 := by
  intro σ E hgi hF hP hΦ
  have key : (((0 : Int) ≤ 30000 + 0 ∧ ck_lk E 115 (30000 + 0) = 1 + 0) ∧ True) := by
    refine ⟨⟨by decide, ?_⟩, trivial⟩
    rw [ck_lk_v (by decide)]
    refine (cb_t ?_).trans rfl
    intro i i0 i1
    have i1 : i < (30000 + 0 : Int) % 1000 := i1
    omega
  obtain ⟨k0, -⟩ := key
  exact ⟨_, (List.mem_of_getElem? (i := 0) rfl), σ, ck_ag_rf, (fun _ h => absurd h List.not_mem_nil), (fun _ h => absurd h List.not_mem_nil), trivial, (List.forall_mem_cons.mpr ⟨⟨⟨ck_wb_ok rfl, ck_wb_ok rfl⟩, k0⟩, (fun _ h => absurd h List.not_mem_nil)⟩), (fun _ h => absurd h List.not_mem_nil)⟩
theorem ccC15_3_0 {l : Launch} {D : va_G} {kp : Nat → ClassId} : ck_con l D kp ck_NN ceC15_3_0 := ck_con_g rfl rpC15_3_0
theorem rpCW9_3_0 : ck_scon ceCW9_3_0 69 := by
  intro σ E e' idx v hargs hgi hF hP hΦ hgi2 h0 l1 l2
  cases hargs
  have h0 : (0 : Int) ≤ 0 + (1 * σ 0 + 0) := h0
  have l1 : ck_loc e' (0 + (1 * σ 0 + 0)) = 0 + (1 * σ 6 + 0) := l1
  have l2 : ∀ j, 0 ≤ j → ¬ j = 0 + (1 * σ 0 + 0) → ck_loc e' j = ck_loc (E 69) j := l2
  have f0 : (0 : Int) ≤ 0 + (1 * σ 0 + 0) := hF _ (List.mem_of_getElem? (i := 0) rfl)
  have f1 : (0 : Int) ≤ 47 + ((-1) * σ 0 + 0) := hF _ (List.mem_of_getElem? (i := 1) rfl)
  have f2 : (0 : Int) ≤ (-1) + (1 * σ 7 + 0) := hF _ (List.mem_of_getElem? (i := 2) rfl)
  have p0 : ck_lk E 108 (1 + 0) = 0 + (1 * σ 1 + 0) := (hP _ (List.mem_of_getElem? (i := 0) rfl)).2.2
  have q0 : (0 : Int) ≤ 1 + 0 := (hP _ (List.mem_of_getElem? (i := 0) rfl)).2.1
  have p1 : ck_lk E 108 (2 + 0) = 0 + (1 * σ 2 + 0) := (hP _ (List.mem_of_getElem? (i := 1) rfl)).2.2
  have q1 : (0 : Int) ≤ 2 + 0 := (hP _ (List.mem_of_getElem? (i := 1) rfl)).2.1
  have p2 : ck_lk E 108 (3 + 0) = 0 + (1 * σ 3 + 0) := (hP _ (List.mem_of_getElem? (i := 2) rfl)).2.2
  have q2 : (0 : Int) ≤ 3 + 0 := (hP _ (List.mem_of_getElem? (i := 2) rfl)).2.1
  have p3 : ck_lk E 108 (4 + 0) = 0 + (1 * σ 4 + 0) := (hP _ (List.mem_of_getElem? (i := 3) rfl)).2.2
  have q3 : (0 : Int) ≤ 4 + 0 := (hP _ (List.mem_of_getElem? (i := 3) rfl)).2.1
  have p4 : ck_lk E 108 (5 + 0) = 0 + (1 * σ 5 + 0) := (hP _ (List.mem_of_getElem? (i := 4) rfl)).2.2
  have q4 : (0 : Int) ≤ 5 + 0 := (hP _ (List.mem_of_getElem? (i := 4) rfl)).2.1
  have p5 : ck_lk E 69 (144 + (1 * σ 0 + 0)) = 0 + (1 * σ 6 + 0) := (hP _ (List.mem_of_getElem? (i := 5) rfl)).2.2
  have q5 : (0 : Int) ≤ 144 + (1 * σ 0 + 0) := (hP _ (List.mem_of_getElem? (i := 5) rfl)).2.1
  have p6 : ck_lk E 114 (30000 + (1 * σ 0 + 0)) = 0 + (1 * σ 7 + 0) := (hP _ (List.mem_of_getElem? (i := 6) rfl)).2.2
  have q6 : (0 : Int) ≤ 30000 + (1 * σ 0 + 0) := (hP _ (List.mem_of_getElem? (i := 6) rfl)).2.1
  have key : (((0 : Int) ≤ 1 + 0 ∧ ck_lk (va_up E 69 e') 108 (1 + 0) = 0 + (1 * σ 1 + 0)) ∧ ((0 : Int) ≤ 2 + 0 ∧ ck_lk (va_up E 69 e') 108 (2 + 0) = 0 + (1 * σ 2 + 0)) ∧ ((0 : Int) ≤ 3 + 0 ∧ ck_lk (va_up E 69 e') 108 (3 + 0) = 0 + (1 * σ 3 + 0)) ∧ ((0 : Int) ≤ 4 + 0 ∧ ck_lk (va_up E 69 e') 108 (4 + 0) = 0 + (1 * σ 4 + 0)) ∧ ((0 : Int) ≤ 5 + 0 ∧ ck_lk (va_up E 69 e') 108 (5 + 0) = 0 + (1 * σ 5 + 0)) ∧ ((0 : Int) ≤ 30001 + (1 * σ 0 + 0) ∧ ck_lk (va_up E 69 e') 114 (30001 + (1 * σ 0 + 0)) = 1 + 0) ∧ True) := by
    rw [kc (i := 144 + σ 0) (by decide) (by omega)] at p5
    rw [ck_lk_v (by decide)] at p6
    have hp := cb_ge p6 (by omega)
    refine ⟨⟨by decide, ?_⟩, ⟨by decide, ?_⟩, ⟨by decide, ?_⟩, ⟨by decide, ?_⟩, ⟨by decide, ?_⟩, ⟨by omega, ?_⟩, trivial⟩
    · rw [k108 (c := 1) (by decide)] at p0
      rw [k108 (c := 1) (by decide), vf_wx_st hgi hgi2 (by decide) (by decide) l2 ⟨fun q => absurd q (by decide), fun q => absurd q (by decide), fun _ => by omega, fun q => absurd q (by decide), fun q => absurd q (by decide)⟩]
      exact p0
    · rw [k108 (c := 2) (by decide)] at p1
      rw [k108 (c := 2) (by decide), vf_wx_st hgi hgi2 (by decide) (by decide) l2 ⟨fun q => absurd q (by decide), fun q => absurd q (by decide), fun _ => by omega, fun q => absurd q (by decide), fun q => absurd q (by decide)⟩]
      exact p1
    · rw [k108 (c := 3) (by decide)] at p2
      rw [k108 (c := 3) (by decide), vf_wx_st hgi hgi2 (by decide) (by decide) l2 ⟨fun q => absurd q (by decide), fun q => absurd q (by decide), fun _ => by omega, fun q => absurd q (by decide), fun q => absurd q (by decide)⟩]
      exact p2
    · rw [k108 (c := 4) (by decide)] at p3
      rw [k108 (c := 4) (by decide), vf_wx_st hgi hgi2 (by decide) (by decide) l2 ⟨fun q => absurd q (by decide), fun q => absurd q (by decide), fun _ => by omega, fun q => absurd q (by decide), fun q => absurd q (by decide)⟩]
      exact p3
    · rw [k108 (c := 5) (by decide)] at p4
      rw [k108 (c := 5) (by decide), vf_wx_st hgi hgi2 (by decide) (by decide) l2 ⟨fun q => absurd q (by decide), fun q => absurd q (by decide), fun _ => by omega, fun q => absurd q (by decide), fun q => absurd q (by decide)⟩]
      exact p4
    · rw [ck_lk_v (by decide)]
      refine (cb_t ?_).trans rfl
      intro i i0 i1
      have i1 : i < (30001 + (1 * σ 0 + 0)) % 1000 := i1
      show ck_loc (va_up E 69 e' 69) (48 * ((30001 + (1 * σ 0 + 0)) / 1000 % 10) + i) = ck_loc (va_up E 69 e' 69) (48 * ((30001 + (1 * σ 0 + 0)) / 10000) + i)
      rw [va_up_self, show (30001 + (1 * σ 0 + 0)) / 1000 % 10 = 0 by omega, show (30001 + (1 * σ 0 + 0)) / 10000 = 3 by omega]
      have hp : ∀ i : Int, 0 ≤ i → i < (30000 + (1 * σ 0 + 0)) % 1000 → ck_loc (E 69) (48 * ((30000 + (1 * σ 0 + 0)) / 1000 % 10) + i) = ck_loc (E 69) (48 * ((30000 + (1 * σ 0 + 0)) / 10000) + i) := hp
      rw [show (30000 + (1 * σ 0 + 0)) / 1000 % 10 = 0 by omega, show (30000 + (1 * σ 0 + 0)) / 10000 = 3 by omega] at hp
      rw [l2 (48 * 3 + i) (by omega) (by omega)]
      by_cases hi : i = σ 0
      · rw [hi, show (48 * 0 + σ 0 : Int) = 0 + (1 * σ 0 + 0) by omega, l1, show (48 * 3 + σ 0 : Int) = 144 + σ 0 by omega, p5]
      · rw [l2 (48 * 0 + i) (by omega) (by omega)]
        exact hp i i0 (by omega)
  obtain ⟨k0, k1, k2, k3, k4, k5, -⟩ := key
  exact ⟨_, (List.mem_of_getElem? (i := 0) rfl), σ, ck_ag_rf, (fun _ h => absurd h List.not_mem_nil), (fun _ h => absurd h List.not_mem_nil), trivial, (List.forall_mem_cons.mpr ⟨⟨⟨ck_wb_ok rfl, ck_wb_ok rfl⟩, k0⟩, (List.forall_mem_cons.mpr ⟨⟨⟨ck_wb_ok rfl, ck_wb_ok rfl⟩, k1⟩, (List.forall_mem_cons.mpr ⟨⟨⟨ck_wb_ok rfl, ck_wb_ok rfl⟩, k2⟩, (List.forall_mem_cons.mpr ⟨⟨⟨ck_wb_ok rfl, ck_wb_ok rfl⟩, k3⟩, (List.forall_mem_cons.mpr ⟨⟨⟨ck_wb_ok rfl, ck_wb_ok rfl⟩, k4⟩, (List.forall_mem_cons.mpr ⟨⟨⟨ck_wb_ok rfl, ck_wb_ok rfl⟩, k5⟩, (fun _ h => absurd h List.not_mem_nil)⟩)⟩)⟩)⟩)⟩)⟩), (fun _ h => absurd h List.not_mem_nil)⟩
theorem ccCW9_3_0 {l : Launch} {D : va_G} {kp : Nat → ClassId} : ck_con l D kp ck_NN ceCW9_3_0 := ck_con_s (k := 69) rfl rpCW9_3_0
theorem rpCW2_3_0 : ck_scon ceCW2_3_0 72 := by
  intro σ E e' idx v hargs hgi hF hP hΦ hgi2 h0 l1 l2
  cases hargs
  have h0 : (0 : Int) ≤ 0 + (1 * σ 0 + 0) := h0
  have l1 : ck_loc e' (0 + (1 * σ 0 + 0)) = 0 + (1 * σ 6 + 0) := l1
  have l2 : ∀ j, 0 ≤ j → ¬ j = 0 + (1 * σ 0 + 0) → ck_loc e' j = ck_loc (E 72) j := l2
  have f0 : (0 : Int) ≤ 0 + (1 * σ 0 + 0) := hF _ (List.mem_of_getElem? (i := 0) rfl)
  have f1 : (0 : Int) ≤ 23 + ((-1) * σ 0 + 0) := hF _ (List.mem_of_getElem? (i := 1) rfl)
  have f2 : (0 : Int) ≤ (-1) + (1 * σ 7 + 0) := hF _ (List.mem_of_getElem? (i := 2) rfl)
  have p0 : ck_lk E 108 (1 + 0) = 0 + (1 * σ 1 + 0) := (hP _ (List.mem_of_getElem? (i := 0) rfl)).2.2
  have q0 : (0 : Int) ≤ 1 + 0 := (hP _ (List.mem_of_getElem? (i := 0) rfl)).2.1
  have p1 : ck_lk E 108 (2 + 0) = 0 + (1 * σ 2 + 0) := (hP _ (List.mem_of_getElem? (i := 1) rfl)).2.2
  have q1 : (0 : Int) ≤ 2 + 0 := (hP _ (List.mem_of_getElem? (i := 1) rfl)).2.1
  have p2 : ck_lk E 108 (3 + 0) = 0 + (1 * σ 3 + 0) := (hP _ (List.mem_of_getElem? (i := 2) rfl)).2.2
  have q2 : (0 : Int) ≤ 3 + 0 := (hP _ (List.mem_of_getElem? (i := 2) rfl)).2.1
  have p3 : ck_lk E 108 (4 + 0) = 0 + (1 * σ 4 + 0) := (hP _ (List.mem_of_getElem? (i := 3) rfl)).2.2
  have q3 : (0 : Int) ≤ 4 + 0 := (hP _ (List.mem_of_getElem? (i := 3) rfl)).2.1
  have p4 : ck_lk E 108 (5 + 0) = 0 + (1 * σ 5 + 0) := (hP _ (List.mem_of_getElem? (i := 4) rfl)).2.2
  have q4 : (0 : Int) ≤ 5 + 0 := (hP _ (List.mem_of_getElem? (i := 4) rfl)).2.1
  have p5 : ck_lk E 72 (72 + (1 * σ 0 + 0)) = 0 + (1 * σ 6 + 0) := (hP _ (List.mem_of_getElem? (i := 5) rfl)).2.2
  have q5 : (0 : Int) ≤ 72 + (1 * σ 0 + 0) := (hP _ (List.mem_of_getElem? (i := 5) rfl)).2.1
  have p6 : ck_lk E 115 (30000 + (1 * σ 0 + 0)) = 0 + (1 * σ 7 + 0) := (hP _ (List.mem_of_getElem? (i := 6) rfl)).2.2
  have q6 : (0 : Int) ≤ 30000 + (1 * σ 0 + 0) := (hP _ (List.mem_of_getElem? (i := 6) rfl)).2.1
  have key : (((0 : Int) ≤ 1 + 0 ∧ ck_lk (va_up E 72 e') 108 (1 + 0) = 0 + (1 * σ 1 + 0)) ∧ ((0 : Int) ≤ 2 + 0 ∧ ck_lk (va_up E 72 e') 108 (2 + 0) = 0 + (1 * σ 2 + 0)) ∧ ((0 : Int) ≤ 3 + 0 ∧ ck_lk (va_up E 72 e') 108 (3 + 0) = 0 + (1 * σ 3 + 0)) ∧ ((0 : Int) ≤ 4 + 0 ∧ ck_lk (va_up E 72 e') 108 (4 + 0) = 0 + (1 * σ 4 + 0)) ∧ ((0 : Int) ≤ 5 + 0 ∧ ck_lk (va_up E 72 e') 108 (5 + 0) = 0 + (1 * σ 5 + 0)) ∧ ((0 : Int) ≤ 30001 + (1 * σ 0 + 0) ∧ ck_lk (va_up E 72 e') 115 (30001 + (1 * σ 0 + 0)) = 1 + 0) ∧ True) := by
    rw [kc (i := 72 + σ 0) (by decide) (by omega)] at p5
    rw [ck_lk_v (by decide)] at p6
    have hp := cb_ge p6 (by omega)
    refine ⟨⟨by decide, ?_⟩, ⟨by decide, ?_⟩, ⟨by decide, ?_⟩, ⟨by decide, ?_⟩, ⟨by decide, ?_⟩, ⟨by omega, ?_⟩, trivial⟩
    · rw [k108 (c := 1) (by decide)] at p0
      rw [k108 (c := 1) (by decide), vf_wx_st hgi hgi2 (by decide) (by decide) l2 ⟨fun q => absurd q (by decide), fun q => absurd q (by decide), fun q => absurd q (by decide), fun q => absurd q (by decide), fun _ => by omega⟩]
      exact p0
    · rw [k108 (c := 2) (by decide)] at p1
      rw [k108 (c := 2) (by decide), vf_wx_st hgi hgi2 (by decide) (by decide) l2 ⟨fun q => absurd q (by decide), fun q => absurd q (by decide), fun q => absurd q (by decide), fun q => absurd q (by decide), fun _ => by omega⟩]
      exact p1
    · rw [k108 (c := 3) (by decide)] at p2
      rw [k108 (c := 3) (by decide), vf_wx_st hgi hgi2 (by decide) (by decide) l2 ⟨fun q => absurd q (by decide), fun q => absurd q (by decide), fun q => absurd q (by decide), fun q => absurd q (by decide), fun _ => by omega⟩]
      exact p2
    · rw [k108 (c := 4) (by decide)] at p3
      rw [k108 (c := 4) (by decide), vf_wx_st hgi hgi2 (by decide) (by decide) l2 ⟨fun q => absurd q (by decide), fun q => absurd q (by decide), fun q => absurd q (by decide), fun q => absurd q (by decide), fun _ => by omega⟩]
      exact p3
    · rw [k108 (c := 5) (by decide)] at p4
      rw [k108 (c := 5) (by decide), vf_wx_st hgi hgi2 (by decide) (by decide) l2 ⟨fun q => absurd q (by decide), fun q => absurd q (by decide), fun q => absurd q (by decide), fun q => absurd q (by decide), fun _ => by omega⟩]
      exact p4
    · rw [ck_lk_v (by decide)]
      refine (cb_t ?_).trans rfl
      intro i i0 i1
      have i1 : i < (30001 + (1 * σ 0 + 0)) % 1000 := i1
      show ck_loc (va_up E 72 e' 72) (24 * ((30001 + (1 * σ 0 + 0)) / 1000 % 10) + i) = ck_loc (va_up E 72 e' 72) (24 * ((30001 + (1 * σ 0 + 0)) / 10000) + i)
      rw [va_up_self, show (30001 + (1 * σ 0 + 0)) / 1000 % 10 = 0 by omega, show (30001 + (1 * σ 0 + 0)) / 10000 = 3 by omega]
      have hp : ∀ i : Int, 0 ≤ i → i < (30000 + (1 * σ 0 + 0)) % 1000 → ck_loc (E 72) (24 * ((30000 + (1 * σ 0 + 0)) / 1000 % 10) + i) = ck_loc (E 72) (24 * ((30000 + (1 * σ 0 + 0)) / 10000) + i) := hp
      rw [show (30000 + (1 * σ 0 + 0)) / 1000 % 10 = 0 by omega, show (30000 + (1 * σ 0 + 0)) / 10000 = 3 by omega] at hp
      rw [l2 (24 * 3 + i) (by omega) (by omega)]
      by_cases hi : i = σ 0
      · rw [hi, show (24 * 0 + σ 0 : Int) = 0 + (1 * σ 0 + 0) by omega, l1, show (24 * 3 + σ 0 : Int) = 72 + σ 0 by omega, p5]
      · rw [l2 (24 * 0 + i) (by omega) (by omega)]
        exact hp i i0 (by omega)
  obtain ⟨k0, k1, k2, k3, k4, k5, -⟩ := key
  exact ⟨_, (List.mem_of_getElem? (i := 0) rfl), σ, ck_ag_rf, (fun _ h => absurd h List.not_mem_nil), (fun _ h => absurd h List.not_mem_nil), trivial, (List.forall_mem_cons.mpr ⟨⟨⟨ck_wb_ok rfl, ck_wb_ok rfl⟩, k0⟩, (List.forall_mem_cons.mpr ⟨⟨⟨ck_wb_ok rfl, ck_wb_ok rfl⟩, k1⟩, (List.forall_mem_cons.mpr ⟨⟨⟨ck_wb_ok rfl, ck_wb_ok rfl⟩, k2⟩, (List.forall_mem_cons.mpr ⟨⟨⟨ck_wb_ok rfl, ck_wb_ok rfl⟩, k3⟩, (List.forall_mem_cons.mpr ⟨⟨⟨ck_wb_ok rfl, ck_wb_ok rfl⟩, k4⟩, (List.forall_mem_cons.mpr ⟨⟨⟨ck_wb_ok rfl, ck_wb_ok rfl⟩, k5⟩, (fun _ h => absurd h List.not_mem_nil)⟩)⟩)⟩)⟩)⟩)⟩), (fun _ h => absurd h List.not_mem_nil)⟩
theorem ccCW2_3_0 {l : Launch} {D : va_G} {kp : Nat → ClassId} : ck_con l D kp ck_NN ceCW2_3_0 := ck_con_s (k := 72) rfl rpCW2_3_0
theorem rpWC_3_0 : ck_gcon ceWC_3_0 := by
  intro σ E hgi hF hP hΦ
  have f0 : (0 : Int) ≤ (-1) + (1 * σ 0 + 0) := hF _ (List.mem_of_getElem? (i := 0) rfl)
  have f1 : (0 : Int) ≤ (-1) + (1 * σ 17 + 0) := hF _ (List.mem_of_getElem? (i := 1) rfl)
  have f2 : (0 : Int) ≤ (-1) + (1 * σ 18 + 0) := hF _ (List.mem_of_getElem? (i := 2) rfl)
  have f3 : (0 : Int) ≤ 0 + (1 * σ 1 + ((-1) * σ 2 + 0)) := hF _ (List.mem_of_getElem? (i := 3) rfl)
  have f4 : (0 : Int) ≤ 0 + ((-1) * σ 1 + (1 * σ 2 + 0)) := hF _ (List.mem_of_getElem? (i := 4) rfl)
  have f5 : (0 : Int) ≤ 0 + (1 * σ 3 + ((-1) * σ 4 + 0)) := hF _ (List.mem_of_getElem? (i := 5) rfl)
  have f6 : (0 : Int) ≤ 0 + ((-1) * σ 3 + (1 * σ 4 + 0)) := hF _ (List.mem_of_getElem? (i := 6) rfl)
  have f7 : (0 : Int) ≤ 0 + (1 * σ 5 + ((-1) * σ 11 + 0)) := hF _ (List.mem_of_getElem? (i := 7) rfl)
  have f8 : (0 : Int) ≤ 0 + ((-1) * σ 5 + (1 * σ 11 + 0)) := hF _ (List.mem_of_getElem? (i := 8) rfl)
  have f9 : (0 : Int) ≤ 0 + (1 * σ 6 + ((-1) * σ 12 + 0)) := hF _ (List.mem_of_getElem? (i := 9) rfl)
  have f10 : (0 : Int) ≤ 0 + ((-1) * σ 6 + (1 * σ 12 + 0)) := hF _ (List.mem_of_getElem? (i := 10) rfl)
  have f11 : (0 : Int) ≤ 0 + (1 * σ 7 + ((-1) * σ 13 + 0)) := hF _ (List.mem_of_getElem? (i := 11) rfl)
  have f12 : (0 : Int) ≤ 0 + ((-1) * σ 7 + (1 * σ 13 + 0)) := hF _ (List.mem_of_getElem? (i := 12) rfl)
  have f13 : (0 : Int) ≤ 0 + (1 * σ 8 + ((-1) * σ 14 + 0)) := hF _ (List.mem_of_getElem? (i := 13) rfl)
  have f14 : (0 : Int) ≤ 0 + ((-1) * σ 8 + (1 * σ 14 + 0)) := hF _ (List.mem_of_getElem? (i := 14) rfl)
  have f15 : (0 : Int) ≤ 0 + (1 * σ 9 + ((-1) * σ 15 + 0)) := hF _ (List.mem_of_getElem? (i := 15) rfl)
  have f16 : (0 : Int) ≤ 0 + ((-1) * σ 9 + (1 * σ 15 + 0)) := hF _ (List.mem_of_getElem? (i := 16) rfl)
  have f17 : (0 : Int) ≤ 0 + (1 * σ 10 + ((-1) * σ 16 + 0)) := hF _ (List.mem_of_getElem? (i := 17) rfl)
  have f18 : (0 : Int) ≤ 0 + ((-1) * σ 10 + (1 * σ 16 + 0)) := hF _ (List.mem_of_getElem? (i := 18) rfl)
  have p0 : ck_lk E 108 (3 + 0) = 0 + (1 * σ 0 + 0) := (hP _ (List.mem_of_getElem? (i := 0) rfl)).2.2
  have q0 : (0 : Int) ≤ 3 + 0 := (hP _ (List.mem_of_getElem? (i := 0) rfl)).2.1
  have p1 : ck_lk E 65 (3 + 0) = 0 + (1 * σ 1 + 0) := (hP _ (List.mem_of_getElem? (i := 1) rfl)).2.2
  have q1 : (0 : Int) ≤ 3 + 0 := (hP _ (List.mem_of_getElem? (i := 1) rfl)).2.1
  have p2 : ck_lk E 65 (0 + 0) = 0 + (1 * σ 2 + 0) := (hP _ (List.mem_of_getElem? (i := 2) rfl)).2.2
  have q2 : (0 : Int) ≤ 0 + 0 := (hP _ (List.mem_of_getElem? (i := 2) rfl)).2.1
  have p3 : ck_lk E 70 (7 + 0) = 0 + (1 * σ 3 + 0) := (hP _ (List.mem_of_getElem? (i := 3) rfl)).2.2
  have q3 : (0 : Int) ≤ 7 + 0 := (hP _ (List.mem_of_getElem? (i := 3) rfl)).2.1
  have p4 : ck_lk E 70 (1 + 0) = 0 + (1 * σ 4 + 0) := (hP _ (List.mem_of_getElem? (i := 4) rfl)).2.2
  have q4 : (0 : Int) ≤ 1 + 0 := (hP _ (List.mem_of_getElem? (i := 4) rfl)).2.1
  have p5 : ck_lk E 67 (18 + 0) = 0 + (1 * σ 5 + 0) := (hP _ (List.mem_of_getElem? (i := 5) rfl)).2.2
  have q5 : (0 : Int) ≤ 18 + 0 := (hP _ (List.mem_of_getElem? (i := 5) rfl)).2.1
  have p6 : ck_lk E 67 (19 + 0) = 0 + (1 * σ 6 + 0) := (hP _ (List.mem_of_getElem? (i := 6) rfl)).2.2
  have q6 : (0 : Int) ≤ 19 + 0 := (hP _ (List.mem_of_getElem? (i := 6) rfl)).2.1
  have p7 : ck_lk E 67 (20 + 0) = 0 + (1 * σ 7 + 0) := (hP _ (List.mem_of_getElem? (i := 7) rfl)).2.2
  have q7 : (0 : Int) ≤ 20 + 0 := (hP _ (List.mem_of_getElem? (i := 7) rfl)).2.1
  have p8 : ck_lk E 67 (21 + 0) = 0 + (1 * σ 8 + 0) := (hP _ (List.mem_of_getElem? (i := 8) rfl)).2.2
  have q8 : (0 : Int) ≤ 21 + 0 := (hP _ (List.mem_of_getElem? (i := 8) rfl)).2.1
  have p9 : ck_lk E 67 (22 + 0) = 0 + (1 * σ 9 + 0) := (hP _ (List.mem_of_getElem? (i := 9) rfl)).2.2
  have q9 : (0 : Int) ≤ 22 + 0 := (hP _ (List.mem_of_getElem? (i := 9) rfl)).2.1
  have p10 : ck_lk E 67 (23 + 0) = 0 + (1 * σ 10 + 0) := (hP _ (List.mem_of_getElem? (i := 10) rfl)).2.2
  have q10 : (0 : Int) ≤ 23 + 0 := (hP _ (List.mem_of_getElem? (i := 10) rfl)).2.1
  have p11 : ck_lk E 67 (0 + 0) = 0 + (1 * σ 11 + 0) := (hP _ (List.mem_of_getElem? (i := 11) rfl)).2.2
  have q11 : (0 : Int) ≤ 0 + 0 := (hP _ (List.mem_of_getElem? (i := 11) rfl)).2.1
  have p12 : ck_lk E 67 (1 + 0) = 0 + (1 * σ 12 + 0) := (hP _ (List.mem_of_getElem? (i := 12) rfl)).2.2
  have q12 : (0 : Int) ≤ 1 + 0 := (hP _ (List.mem_of_getElem? (i := 12) rfl)).2.1
  have p13 : ck_lk E 67 (2 + 0) = 0 + (1 * σ 13 + 0) := (hP _ (List.mem_of_getElem? (i := 13) rfl)).2.2
  have q13 : (0 : Int) ≤ 2 + 0 := (hP _ (List.mem_of_getElem? (i := 13) rfl)).2.1
  have p14 : ck_lk E 67 (3 + 0) = 0 + (1 * σ 14 + 0) := (hP _ (List.mem_of_getElem? (i := 14) rfl)).2.2
  have q14 : (0 : Int) ≤ 3 + 0 := (hP _ (List.mem_of_getElem? (i := 14) rfl)).2.1
  have p15 : ck_lk E 67 (4 + 0) = 0 + (1 * σ 15 + 0) := (hP _ (List.mem_of_getElem? (i := 15) rfl)).2.2
  have q15 : (0 : Int) ≤ 4 + 0 := (hP _ (List.mem_of_getElem? (i := 15) rfl)).2.1
  have p16 : ck_lk E 67 (5 + 0) = 0 + (1 * σ 16 + 0) := (hP _ (List.mem_of_getElem? (i := 16) rfl)).2.2
  have q16 : (0 : Int) ≤ 5 + 0 := (hP _ (List.mem_of_getElem? (i := 16) rfl)).2.1
  have p17 : ck_lk E 114 (30048 + 0) = 0 + (1 * σ 17 + 0) := (hP _ (List.mem_of_getElem? (i := 17) rfl)).2.2
  have q17 : (0 : Int) ≤ 30048 + 0 := (hP _ (List.mem_of_getElem? (i := 17) rfl)).2.1
  have p18 : ck_lk E 115 (30024 + 0) = 0 + (1 * σ 18 + 0) := (hP _ (List.mem_of_getElem? (i := 18) rfl)).2.2
  have q18 : (0 : Int) ≤ 30024 + 0 := (hP _ (List.mem_of_getElem? (i := 18) rfl)).2.1
  have key : (((0 : Int) ≤ 0 + 0 ∧ ck_lk E 108 (0 + 0) = 1 + 0) ∧ True) := by
    rw [k108 (c := 3) (by decide)] at p0
    have hw := cb_ge p0 (by omega)
    rw [kc (i := 3) (by decide) (by decide)] at p1
    rw [kc (i := 0) (by decide) (by decide)] at p2
    rw [kc (i := 7) (by decide) (by decide)] at p3
    rw [kc (i := 1) (by decide) (by decide)] at p4
    rw [kc (i := 18) (by decide) (by decide)] at p5
    rw [kc (i := 0) (by decide) (by decide)] at p11
    rw [kc (i := 19) (by decide) (by decide)] at p6
    rw [kc (i := 1) (by decide) (by decide)] at p12
    rw [kc (i := 20) (by decide) (by decide)] at p7
    rw [kc (i := 2) (by decide) (by decide)] at p13
    rw [kc (i := 21) (by decide) (by decide)] at p8
    rw [kc (i := 3) (by decide) (by decide)] at p14
    rw [kc (i := 22) (by decide) (by decide)] at p9
    rw [kc (i := 4) (by decide) (by decide)] at p15
    rw [kc (i := 23) (by decide) (by decide)] at p10
    rw [kc (i := 5) (by decide) (by decide)] at p16
    rw [ck_lk_v (by decide)] at p17 p18
    have h9 : ∀ i : Int, 0 ≤ i → i < 48 → ck_loc (E 69) (48 * 0 + i) = ck_loc (E 69) (48 * 3 + i) := cb_ge p17 (by omega)
    have h2 : ∀ i : Int, 0 ≤ i → i < 24 → ck_loc (E 72) (24 * 0 + i) = ck_loc (E 72) (24 * 3 + i) := cb_ge p18 (by omega)
    refine ⟨⟨by decide, ?_⟩, trivial⟩
    rw [k108 (c := 0) (by decide)]
    refine (cb_t ?_).trans rfl
    refine vf_wx_mono (a := 3) hgi (by decide) (by decide) (by omega) (fun r r0 r6 => ?_) h9 (show ck_loc (E 70) 1 = ck_loc (E 70) 7 by omega) h2 hw
    have hr : r = 0 ∨ r = 1 ∨ r = 2 ∨ r = 3 ∨ r = 4 ∨ r = 5 := by omega
    rcases hr with rfl | rfl | rfl | rfl | rfl | rfl
    · show ck_loc (E 67) 0 = ck_loc (E 67) 18
      omega
    · show ck_loc (E 67) 1 = ck_loc (E 67) 19
      omega
    · show ck_loc (E 67) 2 = ck_loc (E 67) 20
      omega
    · show ck_loc (E 67) 3 = ck_loc (E 67) 21
      omega
    · show ck_loc (E 67) 4 = ck_loc (E 67) 22
      omega
    · show ck_loc (E 67) 5 = ck_loc (E 67) 23
      omega
  obtain ⟨k0, -⟩ := key
  exact ⟨_, (List.mem_of_getElem? (i := 0) rfl), σ, ck_ag_rf, (fun _ h => absurd h List.not_mem_nil), (fun _ h => absurd h List.not_mem_nil), trivial, (List.forall_mem_cons.mpr ⟨⟨⟨ck_wb_ok rfl, ck_wb_ok rfl⟩, k0⟩, (fun _ h => absurd h List.not_mem_nil)⟩), (fun _ h => absurd h List.not_mem_nil)⟩
theorem ccWC_3_0 {l : Launch} {D : va_G} {kp : Nat → ClassId} : ck_con l D kp ck_NN ceWC_3_0 := ck_con_g rfl rpWC_3_0
