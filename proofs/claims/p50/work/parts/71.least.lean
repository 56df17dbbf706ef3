def pg_X9_least : ck_Pg := [(0, .aload_n 0, 1), (1, .iconst 0, 1), (2, .putfield 92, 3), (5, .iload_n 1, 1), (6, .iload_n 2, 1), (7, .iload_n 3, 1), (8, .invokestatic 369, 3), (11, .ifCond .eq 17, 3), (14, .iload 4, 2), (16, .i2l, 1), (17, .lconst 0, 1), (18, .iload_n 1, 1), (19, .iconst 1, 1), (20, .isub, 1), (21, .i2l, 1), (22, .invokestatic 97, 3), (25, .ifCond .ne 6, 3), (28, .bipush (-2), 2), (30, .ireturn, 1), (31, .aload_n 0, 1), (32, .iload_n 1, 1), (33, .iload_n 2, 1), (34, .iload_n 3, 1), (35, .invokevirtual 372, 3), (38, .aload_n 0, 1), (39, .getfield 86, 3), (42, .iconst 0, 1), (43, .iload_n 1, 1), (44, .iload_n 2, 1), (45, .imul, 1), (46, .invokestatic 365, 3), (49, .laload, 1), (50, .lconst 0, 1), (51, .lcmp, 1), (52, .ifCond .ne 5, 3), (55, .iconst (-1), 1), (56, .ireturn, 1), (57, .iconst 0, 1), (58, .istore 5, 2), (60, .iload_n 1, 1), (61, .iload_n 2, 1), (62, .imul, 1), (63, .istore 6, 2), (65, .iconst 0, 1), (66, .istore 7, 2), (68, .iconst 0, 1), (69, .istore 8, 2), (71, .iload 8, 2), (73, .iload 4, 2), (75, .if_icmp .gt 85, 3), (78, .iconst 0, 1), (79, .istore 7, 2), (81, .iload 5, 2), (83, .iload 8, 2), (85, .iload 7, 2), (87, .iadd, 1), (88, .iload_n 1, 1), (89, .irem, 1), (90, .ishr, 1), (91, .iconst 1, 1), (92, .iand, 1), (93, .iconst 1, 1), (94, .if_icmp .eq 33, 3), (97, .aload_n 0, 1), (98, .getfield 86, 3), (101, .iload 5, 2), (103, .iconst 1, 1), (104, .iload 8, 2), (106, .iload 7, 2), (108, .iadd, 1), (109, .iload_n 1, 1), (110, .irem, 1), (111, .ishl, 1), (112, .ior, 1), (113, .iload 6, 2), (115, .iload 7, 2), (117, .isub, 1), (118, .invokestatic 365, 3), (121, .laload, 1), (122, .lconst 0, 1), (123, .lcmp, 1), (124, .ifCond .ne 9, 3), (127, .iinc 7 1, 3), (130, .goto (-49), 3), (133, .iload 5, 2), (135, .iconst 1, 1), (136, .iload 8, 2), (138, .iload 7, 2), (140, .iadd, 1), (141, .iload_n 1, 1), (142, .irem, 1), (143, .ishl, 1), (144, .ior, 1), (145, .istore 5, 2), (147, .iload 6, 2), (149, .iload 7, 2), (151, .isub, 1), (152, .istore 6, 2), (154, .iinc 8 1, 3), (157, .goto (-86), 3), (160, .iload 7, 2), (162, .ireturn, 1)]
theorem pg_X9_least_ok : ∀ q ∈ pg_X9_least, decode (ck_mc 155) q.1 = .ok (q.2.1, q.2.2) := by decide +kernel
def ceXleast : ck_N := ((155), (4, [(2147483648, [(0, 1)]), (2147483647, [(0, (-1))]), (2147483648, [(1, 1)]), (2147483647, [(1, (-1))]), (2147483648, [(2, 1)]), (2147483647, [(2, (-1))]), (2147483648, [(3, 1)]), (2147483647, [(3, (-1))])], [.inr (.inl (some 58)), .inl (.inl (0, [(0, 1)])), .inl (.inl (0, [(1, 1)])), .inl (.inl (0, [(2, 1)])), .inl (.inl (0, [(3, 1)]))], [], [0, 1, 2, 3]), [(5, [], some (.inl (.inl (0, [(4, 1)]))), [], [0, 1, 2, 3])], [58, 82], 2, 70)
/-! the reference's least by hand -/
/-! how many rows there are: the class counts by turns (jw_W), the reference by heights (jw_M) -/
def jw_sum (f : Nat → Nat) : Nat → Nat
  | 0 => 0
  | n + 1 => jw_sum f n + f n
def jw_W (p top : Nat) : Nat → Nat → Int → Nat
  | 0, _, t => if t = 0 then 1 else 0
  | r + 1, s, t => jw_sum (fun h => if s.testBit ((p - (r + 1) + h) % p) then 0 else jw_W p top r (s ||| 2 ^ ((p - (r + 1) + h) % p)) (t - (((p - (r + 1) + h) / p : Nat) : Int))) (top + 1)
def jw_M (p top : Nat) : Nat → Nat → Int → Nat
  | 0, _, t => if t = 0 then 1 else 0
  | r + 1, s, t => jw_sum (fun h => if s.testBit ((p - (r + 1) + h) % p) then 0 else jw_M p top r (s ||| 2 ^ ((p - (r + 1) + h) % p)) (t - (h : Int))) (top + 1)
def jw_D (p s : Nat) : Nat := jw_sum (fun m => if s.testBit m then 0 else m) p
def jw_U (p s : Nat) : Nat := jw_sum (fun m => if s.testBit m then 0 else 1) p
def jw_I (p : Nat) : Nat → Nat
  | 0 => 0
  | r + 1 => jw_I p r + (p - (r + 1))
theorem jw_sum_congr {f g : Nat → Nat} : ∀ {n : Nat}, (∀ k, k < n → f k = g k) → jw_sum f n = jw_sum g n
  | 0, _ => rfl
  | n + 1, h => by rw [jw_sum, jw_sum, jw_sum_congr (fun k hk => h k (by omega)), h n (by omega)]
theorem jw_sum_zero {f : Nat → Nat} : ∀ {n : Nat}, (∀ k, k < n → f k = 0) → jw_sum f n = 0
  | 0, _ => rfl
  | n + 1, h => by rw [jw_sum, jw_sum_zero (fun k hk => h k (by omega)), h n (by omega)]
theorem jw_sum_bd {f : Nat → Nat} {c : Nat} : ∀ {n : Nat}, (∀ k, k < n → f k ≤ c) → jw_sum f n ≤ n * c
  | 0, _ => by simp [jw_sum]
  | n + 1, h => by
    have h1 := jw_sum_bd (n := n) (fun k hk => h k (by omega))
    have h2 := h n (by omega)
    rw [jw_sum, Nat.succ_mul]
    omega
theorem jw_fin : ∀ p, p < 9 → ∀ s, s < 256 → ∀ m, m < p → s.testBit m = false → (s ||| 2 ^ m) < 256 ∧ jw_D p (s ||| 2 ^ m) + m = jw_D p s ∧ jw_U p (s ||| 2 ^ m) + 1 = jw_U p s := by decide +kernel
theorem jw_full : ∀ p, p < 9 → ∀ s, s < 256 → jw_U p s = 0 → jw_D p s = 0 := by decide +kernel
theorem jw_start : ∀ p, p < 9 → jw_U p 0 = p ∧ jw_D p 0 = jw_I p p := by decide +kernel
theorem jw_neg (p top : Nat) : ∀ (r s : Nat) (t : Int), t < 0 → jw_W p top r s t = 0
  | 0, s, t, h => by rw [jw_W, if_neg (by omega)]
  | r + 1, s, t, h => by
    rw [jw_W]
    refine jw_sum_zero (fun k _ => ?_)
    by_cases q : s.testBit ((p - (r + 1) + k) % p) = true
    · rw [if_pos q]
    · rw [if_neg q]
      exact jw_neg p top r _ _ (by have := Int.natCast_nonneg ((p - (r + 1) + k) / p); omega)
theorem jw_Mneg (p top : Nat) : ∀ (r s : Nat) (t : Int), t < 0 → jw_M p top r s t = 0
  | 0, s, t, h => by rw [jw_M, if_neg (by omega)]
  | r + 1, s, t, h => by
    rw [jw_M]
    refine jw_sum_zero (fun k _ => ?_)
    by_cases q : s.testBit ((p - (r + 1) + k) % p) = true
    · rw [if_pos q]
    · rw [if_neg q]
      exact jw_Mneg p top r _ _ (by omega)
theorem jw_bd {p top : Nat} (ht : top ≤ 9) : ∀ (r s : Nat) (t : Int), jw_W p top r s t ≤ 10 ^ r
  | 0, s, t => by
    rw [jw_W]
    by_cases h : t = 0
    · rw [if_pos h]; decide
    · rw [if_neg h]; omega
  | r + 1, s, t => by
    rw [jw_W]
    have h1 := jw_sum_bd (n := top + 1) (c := 10 ^ r) (f := fun h => if s.testBit ((p - (r + 1) + h) % p) then 0 else jw_W p top r (s ||| 2 ^ ((p - (r + 1) + h) % p)) (t - (((p - (r + 1) + h) / p : Nat) : Int))) (fun k _ => by
      by_cases q : s.testBit ((p - (r + 1) + k) % p) = true
      · simp only [q, if_true]; exact Nat.zero_le _
      · simp only [q, if_false]; exact jw_bd ht r _ _)
    have h2 : (top + 1) * 10 ^ r ≤ 10 * 10 ^ r := Nat.mul_le_mul_right _ (by omega)
    have h3 : 10 ^ (r + 1) = 10 * 10 ^ r := by rw [Nat.pow_succ, Nat.mul_comm]
    omega
theorem jw_WM {p top : Nat} (hp0 : 0 < p) (hp : p < 9) : ∀ (r s : Nat) (t : Int), s < 256 → jw_U p s = r → r ≤ p → jw_W p top r s t = jw_M p top r s ((p : Int) * t + (jw_D p s : Int) - (jw_I p r : Int))
  | 0, s, t, hs, hu, _ => by
    rw [jw_W, jw_M, jw_full p hp s hs hu]
    have e : ((p : Int) * t + ((0 : Nat) : Int) - ((jw_I p 0 : Nat) : Int) = 0) ↔ t = 0 := by
      show (p : Int) * t + 0 - 0 = 0 ↔ t = 0
      rw [Int.add_zero, Int.sub_zero, Int.mul_eq_zero]
      constructor
      · intro h
        rcases h with h | h
        · omega
        · exact h
      · exact Or.inr
    by_cases h : t = 0
    · rw [if_pos h, if_pos (e.mpr h)]
    · rw [if_neg h, if_neg (fun q => h (e.mp q))]
  | r + 1, s, t, hs, hu, hr => by
    rw [jw_W, jw_M]
    refine jw_sum_congr (fun k _ => ?_)
    by_cases q : s.testBit ((p - (r + 1) + k) % p) = true
    · rw [if_pos q, if_pos q]
    · rw [if_neg q, if_neg q]
      have hm : (p - (r + 1) + k) % p < p := Nat.mod_lt _ hp0
      obtain ⟨f1, f2, f3⟩ := jw_fin p hp s hs _ hm (by simpa using q)
      rw [jw_WM hp0 hp r _ _ f1 (by omega) (by omega)]
      have hd : (p : Int) * (((p - (r + 1) + k) / p : Nat) : Int) + (((p - (r + 1) + k) % p : Nat) : Int) = ((p - (r + 1) + k : Nat) : Int) := by exact_mod_cast Nat.div_add_mod (p - (r + 1) + k) p
      congr 1
      rw [Int.mul_sub]
      have hi : jw_I p (r + 1) = jw_I p r + (p - (r + 1)) := rfl
      omega
theorem jw_eq {p top b : Nat} (hp0 : 0 < p) (hp : p < 9) : jw_W p top p 0 (b : Int) = jw_M p top p 0 ((p * b : Nat) : Int) := by
  obtain ⟨h1, h2⟩ := jw_start p hp
  rw [jw_WM hp0 hp p 0 b (by decide) h1 (Nat.le_refl _), h2]
  congr 1
  rw [Int.natCast_mul]
  omega

def jw_bc (s : Nat) : Nat := jw_sum (fun m => if s.testBit m then 1 else 0) 8
theorem jb_sh : ∀ k, k < 9 → (1 : Int32) <<< (nI k &&& 31) = nI (2 ^ k) := by decide +kernel
theorem jb_U : ∀ p, p < 9 → ∀ s, s < 2 ^ p → jw_U p s + jw_bc s = p := by decide +kernel
theorem jb_U0 : ∀ p, p < 9 → ∀ s, s < 2 ^ p - 1 → 0 < jw_U p s := by decide +kernel
theorem jb_Uf : ∀ p, p < 9 → jw_U p (2 ^ p - 1) = 0 := by decide +kernel
theorem jb_p2 : ∀ p, p < 9 → 1 ≤ 2 ^ p ∧ 2 ^ p ≤ 256 := by decide +kernel
theorem jb_or1 : ∀ p, p < 9 → ∀ s, s < 2 ^ p → ∀ m, m < p → (s ||| 2 ^ m) < 2 ^ p := by decide +kernel
theorem jb_or2 : ∀ s, s < 256 → ∀ m, m < 8 → s.testBit m = true → (s ||| 2 ^ m) = s := by decide +kernel
theorem jb_or3 : ∀ s, s < 256 → ∀ m, m < 8 → s.testBit m = false → s < (s ||| 2 ^ m) := by decide +kernel
theorem jb_or (p : Nat) (hp : p < 9) (s : Nat) (hs : s < 2 ^ p) (m : Nat) (hm : m < p) : (s ||| 2 ^ m) < 2 ^ p ∧ (s.testBit m = true → (s ||| 2 ^ m) = s) ∧ (s.testBit m = false → s < (s ||| 2 ^ m)) := by
  have h1 := (jb_p2 p hp).2
  exact ⟨jb_or1 p hp s hs m hm, jb_or2 s (by omega) m (by omega), jb_or3 s (by omega) m (by omega)⟩
theorem jb_ne0 {p : Nat} (h : 1 ≤ p) (h2 : p < 100) : ¬ nI p = 0 := nI_ne0 (by omega) (by omega)
theorem jb_cl {k : Nat} (h : k < 100000) : (nI k).toNatClampNeg = k := nI_clamp (by omega)
theorem jb_in {k z : Nat} (h : k < z) (hz : z ≤ 100000) : vp_in (nI k) z := vp_in_nI h (by omega)
theorem jb_nor (a b : Nat) : nI a ||| nI b = nI (a ||| b) := by
  unfold nI
  apply Int32.toBitVec_inj.mp
  rw [Int32.toBitVec_or]
  show BitVec.ofNat 32 a ||| BitVec.ofNat 32 b = BitVec.ofNat 32 (a ||| b)
  apply BitVec.eq_of_getLsbD_eq
  intro i hi
  simp [BitVec.getLsbD_or, BitVec.getLsbD_ofNat, hi]
theorem jv_lpk {l : Launch} {D : va_G} {cl : List vw_C} {kp : Nat → ClassId} {G : jv_G} {cs ss n : Nat} {E : Nat → jv_E} {pc : Nat} {lv lv2 : List (Nat × Value)} {st : List Value} (ks : List Nat) (h : lv_pick lv ks = lv2) (k : jv_V l D cl kp G cs ss n E pc lv2 st) : jv_V l D cl kp G cs ss n E pc lv st := by
  have hm : ∀ q ∈ lv2, q ∈ lv := fun q hq => by
    rw [← h] at hq
    obtain ⟨i, -, hi⟩ := List.mem_filterMap.mp hq
    exact List.mem_of_getElem? hi
  obtain ⟨p, e, R, s, m, args, below, meth, c, A, nL, n0, f0, Q⟩ := G
  intro f H locs ls hP hD hS hE hL hs hn hf hl
  exact k f H locs ls hP hD hS hE (fun q hq => hL q (hm q hq)) hs hn hf ⟨hl.1, hl.2.1, fun q hq => by
    obtain ⟨u, hu, rfl⟩ := List.mem_map.mp hq
    exact hl.2.2 _ (List.mem_map.mpr ⟨u, hm u hu, rfl⟩)⟩
def jb_term (P T k t : Nat) : Nat → Nat := fun h => if k.testBit ((P - jw_U P k + h) % P) then 0 else jw_W P T (jw_U P k - 1) (k ||| 2 ^ ((P - jw_U P k + h) % P)) ((t : Int) - (((P - jw_U P k + h) / P : Nat) : Int))
theorem jb_W {P T k t : Nat} (h : 0 < jw_U P k) : jw_W P T (jw_U P k) k (t : Int) = jw_sum (jb_term P T k t) (T + 1) := by
  obtain ⟨r, hr⟩ : ∃ r, jw_U P k = r + 1 := ⟨jw_U P k - 1, by omega⟩
  unfold jb_term
  rw [hr, jw_W]
  rfl
theorem jb_of {x : Int32} (h0 : 0 ≤ x.toInt) : x = nI x.toInt.toNat := by
  have h1 := Int32.toInt_lt x
  refine jv_r_eq ?_
  rw [nI_toInt (by omega)]
  omega
theorem jb_lt {P T : Nat} {t : Int} (hP2 : P < 9) (hT : T < 10) : jw_W P T P 0 t < 2 ^ 31 := by
  have h1 := jw_bd (p := P) (top := T) (by omega) P 0 t
  have h2 : 10 ^ P ≤ 10 ^ 8 := Nat.pow_le_pow_right (by omega) (by omega)
  omega
theorem jb_of2 {x : Int32} {m : Nat} (h0 : 0 ≤ x.toInt) (h1 : x.toInt ≤ m) : ∃ P, P ≤ m ∧ x = nI P ∧ x.toInt = P := ⟨x.toInt.toNat, by omega, jb_of h0, by omega⟩
theorem jv_t64 (x : Int32) : x.toInt64.toInt = x.toInt := Int32.toInt_toInt64 x
theorem hc_g {i o idx mid : Nat} (h : ck_rok (o, idx, 1, mid)) : GoodIn (ck_ws i) (va_wsS (ck_nm o) idx (ck_my mid) (ck_ws mid)) := by
  obtain ⟨⟨hcode, hini, hn1, hn2⟩, hlink, hstat, hpar⟩ := h
  intro w hw
  rcases List.mem_append.mp hw with hw | hw
  · simp only [List.mem_cons, List.not_mem_nil, or_false] at hw
    rcases hw with rfl | rfl | rfl
    · exact ck_goodw hlink
    · exact ck_goodw hstat
    · exact ck_goodw hini
  · exact ck_goodws hcode w hw
theorem hc_v {i o idx mid : Nat} (h : ck_rok (o, idx, 0, mid)) : GoodIn (ck_ws i) (wsV (ck_nm o) idx (ck_my mid).cls (ck_my mid) (ck_ws mid)) := by
  obtain ⟨⟨hcode, hini, hn1, hn2⟩, hlink, hinst, hsel, -, hpar⟩ := h
  intro w hw
  rcases List.mem_append.mp hw with hw | hw
  · simp only [List.mem_cons, List.not_mem_nil, or_false] at hw
    rcases hw with rfl | rfl | rfl | rfl
    · exact ck_goodw hlink
    · exact ck_goodw hinst
    · exact ck_goodw hsel
    · exact ck_goodw hini
  · exact ck_goodws hcode w hw
theorem hc_f40 {i : Nat} : Cond.fieldLink RX9 86 (TX9 40).1 (TX9 40).2.1 (TX9 40).2.2.1 ∈ ck_ws i := by
  obtain ⟨C0, T, M, hc, -, -, hw, -⟩ := fo136
  have hc : some (RX9, TX9, 46) = some (C0, T, M) := hc
  cases hc
  exact ck_wsin hw
theorem hc_f0 {i : Nat} : Cond.fieldLink RX9 92 (TX9 0).1 (TX9 0).2.1 (TX9 0).2.2.1 ∈ ck_ws i := by
  obtain ⟨C0, T, M, hc, -, -, hw, -⟩ := fo138
  have hc : some (RX9, TX9, 46) = some (C0, T, M) := hc
  cases hc
  exact ck_wsin hw
theorem hc_in {i : Nat} : ∀ w ∈ u_ws RX9 TX9 46, w ∈ ck_ws i := fun w h => ck_wsin (inA9 w h)
theorem dX9_in_0 : decode cX9_in 0 = .ok (.lload_n 0, 1) := by decide +kernel
theorem dX9_in_1 : decode cX9_in 1 = .ok (.lload_n 2, 1) := by decide +kernel
theorem dX9_in_2 : decode cX9_in 2 = .ok (.lcmp, 1) := by decide +kernel
theorem dX9_in_3 : decode cX9_in 3 = .ok (.ifCond .lt 14, 3) := by decide +kernel
theorem dX9_in_6 : decode cX9_in 6 = .ok (.lload_n 0, 1) := by decide +kernel
theorem dX9_in_7 : decode cX9_in 7 = .ok (.lload 4, 2) := by decide +kernel
theorem dX9_in_9 : decode cX9_in 9 = .ok (.lcmp, 1) := by decide +kernel
theorem dX9_in_10 : decode cX9_in 10 = .ok (.ifCond .gt 7, 3) := by decide +kernel
theorem dX9_in_13 : decode cX9_in 13 = .ok (.iconst 1, 1) := by decide +kernel
theorem dX9_in_14 : decode cX9_in 14 = .ok (.goto 4, 3) := by decide +kernel
theorem dX9_in_17 : decode cX9_in 17 = .ok (.iconst 0, 1) := by decide +kernel
theorem dX9_in_18 : decode cX9_in 18 = .ok (.ireturn, 1) := by decide +kernel
theorem q_X9_in : yX9_in.cls ≠ "java/lang/invoke/MethodHandle" ∧ yX9_in.cls ≠ "java/lang/invoke/VarHandle" ∧ (parseMethodDescriptor yX9_in.desc).map (fun d => d.parameters.length) = some 3 := by decide +kernel
theorem dX9_at_0 : decode cX9_at 0 = .ok (.bipush 73, 2) := by decide +kernel
theorem dX9_at_2 : decode cX9_at 2 = .ok (.iload_n 0, 1) := by decide +kernel
theorem dX9_at_3 : decode cX9_at 3 = .ok (.imul, 1) := by decide +kernel
theorem dX9_at_4 : decode cX9_at 4 = .ok (.iload_n 1, 1) := by decide +kernel
theorem dX9_at_5 : decode cX9_at 5 = .ok (.iadd, 1) := by decide +kernel
theorem dX9_at_6 : decode cX9_at 6 = .ok (.ireturn, 1) := by decide +kernel
theorem q_X9_at : yX9_at.cls ≠ "java/lang/invoke/MethodHandle" ∧ yX9_at.cls ≠ "java/lang/invoke/VarHandle" ∧ (parseMethodDescriptor yX9_at.desc).map (fun d => d.parameters.length) = some 2 := by decide +kernel
theorem dX9_laysRows_0 : decode cX9_laysRows 0 = .ok (.iconst 1, 1) := by decide +kernel
theorem dX9_laysRows_1 : decode cX9_laysRows 1 = .ok (.iload_n 1, 1) := by decide +kernel
theorem dX9_laysRows_2 : decode cX9_laysRows 2 = .ok (.ishl, 1) := by decide +kernel
theorem dX9_laysRows_3 : decode cX9_laysRows 3 = .ok (.iconst 1, 1) := by decide +kernel
theorem dX9_laysRows_4 : decode cX9_laysRows 4 = .ok (.isub, 1) := by decide +kernel
theorem dX9_laysRows_5 : decode cX9_laysRows 5 = .ok (.istore 4, 2) := by decide +kernel
theorem dX9_laysRows_7 : decode cX9_laysRows 7 = .ok (.iload 4, 2) := by decide +kernel
theorem dX9_laysRows_9 : decode cX9_laysRows 9 = .ok (.istore 5, 2) := by decide +kernel
theorem dX9_laysRows_11 : decode cX9_laysRows 11 = .ok (.iload 5, 2) := by decide +kernel
theorem dX9_laysRows_13 : decode cX9_laysRows 13 = .ok (.ifCond .lt 137, 3) := by decide +kernel
theorem dX9_laysRows_16 : decode cX9_laysRows 16 = .ok (.iload 5, 2) := by decide +kernel
theorem dX9_laysRows_18 : decode cX9_laysRows 18 = .ok (.invokestatic 362, 3) := by decide +kernel
theorem dX9_laysRows_21 : decode cX9_laysRows 21 = .ok (.istore 6, 2) := by decide +kernel
theorem dX9_laysRows_23 : decode cX9_laysRows 23 = .ok (.iconst 0, 1) := by decide +kernel
theorem dX9_laysRows_24 : decode cX9_laysRows 24 = .ok (.istore 7, 2) := by decide +kernel
theorem dX9_laysRows_26 : decode cX9_laysRows 26 = .ok (.iload 7, 2) := by decide +kernel
theorem dX9_laysRows_28 : decode cX9_laysRows 28 = .ok (.iload_n 1, 1) := by decide +kernel
theorem dX9_laysRows_29 : decode cX9_laysRows 29 = .ok (.iload_n 2, 1) := by decide +kernel
theorem dX9_laysRows_30 : decode cX9_laysRows 30 = .ok (.imul, 1) := by decide +kernel
theorem dX9_laysRows_31 : decode cX9_laysRows 31 = .ok (.if_icmp .gt 113, 3) := by decide +kernel
theorem dX9_laysRows_34 : decode cX9_laysRows 34 = .ok (.iload 5, 2) := by decide +kernel
theorem dX9_laysRows_36 : decode cX9_laysRows 36 = .ok (.iload 4, 2) := by decide +kernel
theorem dX9_laysRows_38 : decode cX9_laysRows 38 = .ok (.if_icmp .ne 12, 3) := by decide +kernel
theorem dX9_laysRows_41 : decode cX9_laysRows 41 = .ok (.iload 7, 2) := by decide +kernel
theorem dX9_laysRows_43 : decode cX9_laysRows 43 = .ok (.ifCond .ne 7, 3) := by decide +kernel
theorem dX9_laysRows_46 : decode cX9_laysRows 46 = .ok (.lconst 1, 1) := by decide +kernel
theorem dX9_laysRows_47 : decode cX9_laysRows 47 = .ok (.goto 4, 3) := by decide +kernel
theorem dX9_laysRows_50 : decode cX9_laysRows 50 = .ok (.lconst 0, 1) := by decide +kernel
theorem dX9_laysRows_51 : decode cX9_laysRows 51 = .ok (.lstore 8, 2) := by decide +kernel
theorem dX9_laysRows_53 : decode cX9_laysRows 53 = .ok (.iconst 0, 1) := by decide +kernel
theorem dX9_laysRows_54 : decode cX9_laysRows 54 = .ok (.istore 10, 2) := by decide +kernel
theorem dX9_laysRows_56 : decode cX9_laysRows 56 = .ok (.iload 10, 2) := by decide +kernel
theorem dX9_laysRows_58 : decode cX9_laysRows 58 = .ok (.iload_n 3, 1) := by decide +kernel
theorem dX9_laysRows_59 : decode cX9_laysRows 59 = .ok (.if_icmp .gt 65, 3) := by decide +kernel
theorem dX9_laysRows_62 : decode cX9_laysRows 62 = .ok (.iload 10, 2) := by decide +kernel
theorem dX9_laysRows_64 : decode cX9_laysRows 64 = .ok (.iload 7, 2) := by decide +kernel
theorem dX9_laysRows_66 : decode cX9_laysRows 66 = .ok (.if_icmp .gt 58, 3) := by decide +kernel
theorem dX9_laysRows_69 : decode cX9_laysRows 69 = .ok (.iload 5, 2) := by decide +kernel
theorem dX9_laysRows_71 : decode cX9_laysRows 71 = .ok (.iload 4, 2) := by decide +kernel
theorem dX9_laysRows_73 : decode cX9_laysRows 73 = .ok (.if_icmp .eq 51, 3) := by decide +kernel
theorem dX9_laysRows_76 : decode cX9_laysRows 76 = .ok (.iconst 1, 1) := by decide +kernel
theorem dX9_laysRows_77 : decode cX9_laysRows 77 = .ok (.iload 6, 2) := by decide +kernel
theorem dX9_laysRows_79 : decode cX9_laysRows 79 = .ok (.iload 10, 2) := by decide +kernel
theorem dX9_laysRows_81 : decode cX9_laysRows 81 = .ok (.iadd, 1) := by decide +kernel
theorem dX9_laysRows_82 : decode cX9_laysRows 82 = .ok (.iload_n 1, 1) := by decide +kernel
theorem dX9_laysRows_83 : decode cX9_laysRows 83 = .ok (.irem, 1) := by decide +kernel
theorem dX9_laysRows_84 : decode cX9_laysRows 84 = .ok (.ishl, 1) := by decide +kernel
theorem dX9_laysRows_85 : decode cX9_laysRows 85 = .ok (.istore 11, 2) := by decide +kernel
theorem dX9_laysRows_87 : decode cX9_laysRows 87 = .ok (.iload 5, 2) := by decide +kernel
theorem dX9_laysRows_89 : decode cX9_laysRows 89 = .ok (.iload 11, 2) := by decide +kernel
theorem dX9_laysRows_91 : decode cX9_laysRows 91 = .ok (.iand, 1) := by decide +kernel
theorem dX9_laysRows_92 : decode cX9_laysRows 92 = .ok (.ifCond .ne 26, 3) := by decide +kernel
theorem dX9_laysRows_95 : decode cX9_laysRows 95 = .ok (.lload 8, 2) := by decide +kernel
theorem dX9_laysRows_97 : decode cX9_laysRows 97 = .ok (.aload_n 0, 1) := by decide +kernel
theorem dX9_laysRows_98 : decode cX9_laysRows 98 = .ok (.getfield 86, 3) := by decide +kernel
theorem dX9_laysRows_101 : decode cX9_laysRows 101 = .ok (.iload 5, 2) := by decide +kernel
theorem dX9_laysRows_103 : decode cX9_laysRows 103 = .ok (.iload 11, 2) := by decide +kernel
theorem dX9_laysRows_105 : decode cX9_laysRows 105 = .ok (.ior, 1) := by decide +kernel
theorem dX9_laysRows_106 : decode cX9_laysRows 106 = .ok (.iload 7, 2) := by decide +kernel
theorem dX9_laysRows_108 : decode cX9_laysRows 108 = .ok (.iload 10, 2) := by decide +kernel
theorem dX9_laysRows_110 : decode cX9_laysRows 110 = .ok (.isub, 1) := by decide +kernel
theorem dX9_laysRows_111 : decode cX9_laysRows 111 = .ok (.invokestatic 365, 3) := by decide +kernel
theorem dX9_laysRows_114 : decode cX9_laysRows 114 = .ok (.laload, 1) := by decide +kernel
theorem dX9_laysRows_115 : decode cX9_laysRows 115 = .ok (.ladd, 1) := by decide +kernel
theorem dX9_laysRows_116 : decode cX9_laysRows 116 = .ok (.lstore 8, 2) := by decide +kernel
theorem dX9_laysRows_118 : decode cX9_laysRows 118 = .ok (.iinc 10 1, 3) := by decide +kernel
theorem dX9_laysRows_121 : decode cX9_laysRows 121 = .ok (.goto (-65), 3) := by decide +kernel
theorem dX9_laysRows_124 : decode cX9_laysRows 124 = .ok (.aload_n 0, 1) := by decide +kernel
theorem dX9_laysRows_125 : decode cX9_laysRows 125 = .ok (.getfield 86, 3) := by decide +kernel
theorem dX9_laysRows_128 : decode cX9_laysRows 128 = .ok (.iload 5, 2) := by decide +kernel
theorem dX9_laysRows_130 : decode cX9_laysRows 130 = .ok (.iload 7, 2) := by decide +kernel
theorem dX9_laysRows_132 : decode cX9_laysRows 132 = .ok (.invokestatic 365, 3) := by decide +kernel
theorem dX9_laysRows_135 : decode cX9_laysRows 135 = .ok (.lload 8, 2) := by decide +kernel
theorem dX9_laysRows_137 : decode cX9_laysRows 137 = .ok (.lastore, 1) := by decide +kernel
theorem dX9_laysRows_138 : decode cX9_laysRows 138 = .ok (.iinc 7 1, 3) := by decide +kernel
theorem dX9_laysRows_141 : decode cX9_laysRows 141 = .ok (.goto (-115), 3) := by decide +kernel
theorem dX9_laysRows_144 : decode cX9_laysRows 144 = .ok (.iinc 5 (-1), 3) := by decide +kernel
theorem dX9_laysRows_147 : decode cX9_laysRows 147 = .ok (.goto (-136), 3) := by decide +kernel
theorem dX9_laysRows_150 : decode cX9_laysRows 150 = .ok (.return_, 1) := by decide +kernel
theorem q_X9_laysRows : yX9_laysRows.cls ≠ "java/lang/invoke/MethodHandle" ∧ yX9_laysRows.cls ≠ "java/lang/invoke/VarHandle" ∧ (parseMethodDescriptor yX9_laysRows.desc).map (fun d => d.parameters.length) = some 3 := by decide +kernel
theorem dX9_bitsOf_0 : decode cX9_bitsOf 0 = .ok (.iconst 0, 1) := by decide +kernel
theorem dX9_bitsOf_1 : decode cX9_bitsOf 1 = .ok (.istore_n 1, 1) := by decide +kernel
theorem dX9_bitsOf_2 : decode cX9_bitsOf 2 = .ok (.iload_n 0, 1) := by decide +kernel
theorem dX9_bitsOf_3 : decode cX9_bitsOf 3 = .ok (.istore_n 2, 1) := by decide +kernel
theorem dX9_bitsOf_4 : decode cX9_bitsOf 4 = .ok (.iload_n 2, 1) := by decide +kernel
theorem dX9_bitsOf_5 : decode cX9_bitsOf 5 = .ok (.ifCond .eq 15, 3) := by decide +kernel
theorem dX9_bitsOf_8 : decode cX9_bitsOf 8 = .ok (.iinc 1 1, 3) := by decide +kernel
theorem dX9_bitsOf_11 : decode cX9_bitsOf 11 = .ok (.iload_n 2, 1) := by decide +kernel
theorem dX9_bitsOf_12 : decode cX9_bitsOf 12 = .ok (.iload_n 2, 1) := by decide +kernel
theorem dX9_bitsOf_13 : decode cX9_bitsOf 13 = .ok (.iconst 1, 1) := by decide +kernel
theorem dX9_bitsOf_14 : decode cX9_bitsOf 14 = .ok (.isub, 1) := by decide +kernel
theorem dX9_bitsOf_15 : decode cX9_bitsOf 15 = .ok (.iand, 1) := by decide +kernel
theorem dX9_bitsOf_16 : decode cX9_bitsOf 16 = .ok (.istore_n 2, 1) := by decide +kernel
theorem dX9_bitsOf_17 : decode cX9_bitsOf 17 = .ok (.goto (-13), 3) := by decide +kernel
theorem dX9_bitsOf_20 : decode cX9_bitsOf 20 = .ok (.iload_n 1, 1) := by decide +kernel
theorem dX9_bitsOf_21 : decode cX9_bitsOf 21 = .ok (.ireturn, 1) := by decide +kernel
theorem q_X9_bitsOf : yX9_bitsOf.cls ≠ "java/lang/invoke/MethodHandle" ∧ yX9_bitsOf.cls ≠ "java/lang/invoke/VarHandle" ∧ (parseMethodDescriptor yX9_bitsOf.desc).map (fun d => d.parameters.length) = some 1 := by decide +kernel
theorem dX9_areRows_0 : decode cX9_areRows 0 = .ok (.iload_n 0, 1) := by decide +kernel
theorem dX9_areRows_1 : decode cX9_areRows 1 = .ok (.i2l, 1) := by decide +kernel
theorem dX9_areRows_2 : decode cX9_areRows 2 = .ok (.lconst 1, 1) := by decide +kernel
theorem dX9_areRows_3 : decode cX9_areRows 3 = .ok (.ldc2_w 367, 3) := by decide +kernel
theorem dX9_areRows_6 : decode cX9_areRows 6 = .ok (.invokestatic 97, 3) := by decide +kernel
theorem dX9_areRows_9 : decode cX9_areRows 9 = .ok (.ifCond .eq 31, 3) := by decide +kernel
theorem dX9_areRows_12 : decode cX9_areRows 12 = .ok (.iload_n 1, 1) := by decide +kernel
theorem dX9_areRows_13 : decode cX9_areRows 13 = .ok (.i2l, 1) := by decide +kernel
theorem dX9_areRows_14 : decode cX9_areRows 14 = .ok (.lconst 0, 1) := by decide +kernel
theorem dX9_areRows_15 : decode cX9_areRows 15 = .ok (.ldc2_w 182, 3) := by decide +kernel
theorem dX9_areRows_18 : decode cX9_areRows 18 = .ok (.invokestatic 97, 3) := by decide +kernel
theorem dX9_areRows_21 : decode cX9_areRows 21 = .ok (.ifCond .eq 19, 3) := by decide +kernel
theorem dX9_areRows_24 : decode cX9_areRows 24 = .ok (.iload_n 2, 1) := by decide +kernel
theorem dX9_areRows_25 : decode cX9_areRows 25 = .ok (.i2l, 1) := by decide +kernel
theorem dX9_areRows_26 : decode cX9_areRows 26 = .ok (.lconst 0, 1) := by decide +kernel
theorem dX9_areRows_27 : decode cX9_areRows 27 = .ok (.ldc2_w 182, 3) := by decide +kernel
theorem dX9_areRows_30 : decode cX9_areRows 30 = .ok (.invokestatic 97, 3) := by decide +kernel
theorem dX9_areRows_33 : decode cX9_areRows 33 = .ok (.ifCond .eq 7, 3) := by decide +kernel
theorem dX9_areRows_36 : decode cX9_areRows 36 = .ok (.iconst 1, 1) := by decide +kernel
theorem dX9_areRows_37 : decode cX9_areRows 37 = .ok (.goto 4, 3) := by decide +kernel
theorem dX9_areRows_40 : decode cX9_areRows 40 = .ok (.iconst 0, 1) := by decide +kernel
theorem dX9_areRows_41 : decode cX9_areRows 41 = .ok (.ireturn, 1) := by decide +kernel
theorem q_X9_areRows : yX9_areRows.cls ≠ "java/lang/invoke/MethodHandle" ∧ yX9_areRows.cls ≠ "java/lang/invoke/VarHandle" ∧ (parseMethodDescriptor yX9_areRows.desc).map (fun d => d.parameters.length) = some 3 := by decide +kernel
theorem dX9_least_0 : decode cX9_least 0 = .ok (.aload_n 0, 1) := by decide +kernel
theorem dX9_least_1 : decode cX9_least 1 = .ok (.iconst 0, 1) := by decide +kernel
theorem dX9_least_2 : decode cX9_least 2 = .ok (.putfield 92, 3) := by decide +kernel
theorem dX9_least_5 : decode cX9_least 5 = .ok (.iload_n 1, 1) := by decide +kernel
theorem dX9_least_6 : decode cX9_least 6 = .ok (.iload_n 2, 1) := by decide +kernel
theorem dX9_least_7 : decode cX9_least 7 = .ok (.iload_n 3, 1) := by decide +kernel
theorem dX9_least_8 : decode cX9_least 8 = .ok (.invokestatic 369, 3) := by decide +kernel
theorem dX9_least_11 : decode cX9_least 11 = .ok (.ifCond .eq 17, 3) := by decide +kernel
theorem dX9_least_14 : decode cX9_least 14 = .ok (.iload 4, 2) := by decide +kernel
theorem dX9_least_16 : decode cX9_least 16 = .ok (.i2l, 1) := by decide +kernel
theorem dX9_least_17 : decode cX9_least 17 = .ok (.lconst 0, 1) := by decide +kernel
theorem dX9_least_18 : decode cX9_least 18 = .ok (.iload_n 1, 1) := by decide +kernel
theorem dX9_least_19 : decode cX9_least 19 = .ok (.iconst 1, 1) := by decide +kernel
theorem dX9_least_20 : decode cX9_least 20 = .ok (.isub, 1) := by decide +kernel
theorem dX9_least_21 : decode cX9_least 21 = .ok (.i2l, 1) := by decide +kernel
theorem dX9_least_22 : decode cX9_least 22 = .ok (.invokestatic 97, 3) := by decide +kernel
theorem dX9_least_25 : decode cX9_least 25 = .ok (.ifCond .ne 6, 3) := by decide +kernel
theorem dX9_least_28 : decode cX9_least 28 = .ok (.bipush (-2), 2) := by decide +kernel
theorem dX9_least_30 : decode cX9_least 30 = .ok (.ireturn, 1) := by decide +kernel
theorem dX9_least_31 : decode cX9_least 31 = .ok (.aload_n 0, 1) := by decide +kernel
theorem dX9_least_32 : decode cX9_least 32 = .ok (.iload_n 1, 1) := by decide +kernel
theorem dX9_least_33 : decode cX9_least 33 = .ok (.iload_n 2, 1) := by decide +kernel
theorem dX9_least_34 : decode cX9_least 34 = .ok (.iload_n 3, 1) := by decide +kernel
theorem dX9_least_35 : decode cX9_least 35 = .ok (.invokevirtual 372, 3) := by decide +kernel
theorem dX9_least_38 : decode cX9_least 38 = .ok (.aload_n 0, 1) := by decide +kernel
theorem dX9_least_39 : decode cX9_least 39 = .ok (.getfield 86, 3) := by decide +kernel
theorem dX9_least_42 : decode cX9_least 42 = .ok (.iconst 0, 1) := by decide +kernel
theorem dX9_least_43 : decode cX9_least 43 = .ok (.iload_n 1, 1) := by decide +kernel
theorem dX9_least_44 : decode cX9_least 44 = .ok (.iload_n 2, 1) := by decide +kernel
theorem dX9_least_45 : decode cX9_least 45 = .ok (.imul, 1) := by decide +kernel
theorem dX9_least_46 : decode cX9_least 46 = .ok (.invokestatic 365, 3) := by decide +kernel
theorem dX9_least_49 : decode cX9_least 49 = .ok (.laload, 1) := by decide +kernel
theorem dX9_least_50 : decode cX9_least 50 = .ok (.lconst 0, 1) := by decide +kernel
theorem dX9_least_51 : decode cX9_least 51 = .ok (.lcmp, 1) := by decide +kernel
theorem dX9_least_52 : decode cX9_least 52 = .ok (.ifCond .ne 5, 3) := by decide +kernel
theorem dX9_least_55 : decode cX9_least 55 = .ok (.iconst (-1), 1) := by decide +kernel
theorem dX9_least_56 : decode cX9_least 56 = .ok (.ireturn, 1) := by decide +kernel
theorem dX9_least_57 : decode cX9_least 57 = .ok (.iconst 0, 1) := by decide +kernel
theorem dX9_least_58 : decode cX9_least 58 = .ok (.istore 5, 2) := by decide +kernel
theorem dX9_least_60 : decode cX9_least 60 = .ok (.iload_n 1, 1) := by decide +kernel
theorem dX9_least_61 : decode cX9_least 61 = .ok (.iload_n 2, 1) := by decide +kernel
theorem dX9_least_62 : decode cX9_least 62 = .ok (.imul, 1) := by decide +kernel
theorem dX9_least_63 : decode cX9_least 63 = .ok (.istore 6, 2) := by decide +kernel
theorem dX9_least_65 : decode cX9_least 65 = .ok (.iconst 0, 1) := by decide +kernel
theorem dX9_least_66 : decode cX9_least 66 = .ok (.istore 7, 2) := by decide +kernel
theorem dX9_least_68 : decode cX9_least 68 = .ok (.iconst 0, 1) := by decide +kernel
theorem dX9_least_69 : decode cX9_least 69 = .ok (.istore 8, 2) := by decide +kernel
theorem dX9_least_71 : decode cX9_least 71 = .ok (.iload 8, 2) := by decide +kernel
theorem dX9_least_73 : decode cX9_least 73 = .ok (.iload 4, 2) := by decide +kernel
theorem dX9_least_75 : decode cX9_least 75 = .ok (.if_icmp .gt 85, 3) := by decide +kernel
theorem dX9_least_78 : decode cX9_least 78 = .ok (.iconst 0, 1) := by decide +kernel
theorem dX9_least_79 : decode cX9_least 79 = .ok (.istore 7, 2) := by decide +kernel
theorem dX9_least_81 : decode cX9_least 81 = .ok (.iload 5, 2) := by decide +kernel
theorem dX9_least_83 : decode cX9_least 83 = .ok (.iload 8, 2) := by decide +kernel
theorem dX9_least_85 : decode cX9_least 85 = .ok (.iload 7, 2) := by decide +kernel
theorem dX9_least_87 : decode cX9_least 87 = .ok (.iadd, 1) := by decide +kernel
theorem dX9_least_88 : decode cX9_least 88 = .ok (.iload_n 1, 1) := by decide +kernel
theorem dX9_least_89 : decode cX9_least 89 = .ok (.irem, 1) := by decide +kernel
theorem dX9_least_90 : decode cX9_least 90 = .ok (.ishr, 1) := by decide +kernel
theorem dX9_least_91 : decode cX9_least 91 = .ok (.iconst 1, 1) := by decide +kernel
theorem dX9_least_92 : decode cX9_least 92 = .ok (.iand, 1) := by decide +kernel
theorem dX9_least_93 : decode cX9_least 93 = .ok (.iconst 1, 1) := by decide +kernel
theorem dX9_least_94 : decode cX9_least 94 = .ok (.if_icmp .eq 33, 3) := by decide +kernel
theorem dX9_least_97 : decode cX9_least 97 = .ok (.aload_n 0, 1) := by decide +kernel
theorem dX9_least_98 : decode cX9_least 98 = .ok (.getfield 86, 3) := by decide +kernel
theorem dX9_least_101 : decode cX9_least 101 = .ok (.iload 5, 2) := by decide +kernel
theorem dX9_least_103 : decode cX9_least 103 = .ok (.iconst 1, 1) := by decide +kernel
theorem dX9_least_104 : decode cX9_least 104 = .ok (.iload 8, 2) := by decide +kernel
theorem dX9_least_106 : decode cX9_least 106 = .ok (.iload 7, 2) := by decide +kernel
theorem dX9_least_108 : decode cX9_least 108 = .ok (.iadd, 1) := by decide +kernel
theorem dX9_least_109 : decode cX9_least 109 = .ok (.iload_n 1, 1) := by decide +kernel
theorem dX9_least_110 : decode cX9_least 110 = .ok (.irem, 1) := by decide +kernel
theorem dX9_least_111 : decode cX9_least 111 = .ok (.ishl, 1) := by decide +kernel
theorem dX9_least_112 : decode cX9_least 112 = .ok (.ior, 1) := by decide +kernel
theorem dX9_least_113 : decode cX9_least 113 = .ok (.iload 6, 2) := by decide +kernel
theorem dX9_least_115 : decode cX9_least 115 = .ok (.iload 7, 2) := by decide +kernel
theorem dX9_least_117 : decode cX9_least 117 = .ok (.isub, 1) := by decide +kernel
theorem dX9_least_118 : decode cX9_least 118 = .ok (.invokestatic 365, 3) := by decide +kernel
theorem dX9_least_121 : decode cX9_least 121 = .ok (.laload, 1) := by decide +kernel
theorem dX9_least_122 : decode cX9_least 122 = .ok (.lconst 0, 1) := by decide +kernel
theorem dX9_least_123 : decode cX9_least 123 = .ok (.lcmp, 1) := by decide +kernel
theorem dX9_least_124 : decode cX9_least 124 = .ok (.ifCond .ne 9, 3) := by decide +kernel
theorem dX9_least_127 : decode cX9_least 127 = .ok (.iinc 7 1, 3) := by decide +kernel
theorem dX9_least_130 : decode cX9_least 130 = .ok (.goto (-49), 3) := by decide +kernel
theorem dX9_least_133 : decode cX9_least 133 = .ok (.iload 5, 2) := by decide +kernel
theorem dX9_least_135 : decode cX9_least 135 = .ok (.iconst 1, 1) := by decide +kernel
theorem dX9_least_136 : decode cX9_least 136 = .ok (.iload 8, 2) := by decide +kernel
theorem dX9_least_138 : decode cX9_least 138 = .ok (.iload 7, 2) := by decide +kernel
theorem dX9_least_140 : decode cX9_least 140 = .ok (.iadd, 1) := by decide +kernel
theorem dX9_least_141 : decode cX9_least 141 = .ok (.iload_n 1, 1) := by decide +kernel
theorem dX9_least_142 : decode cX9_least 142 = .ok (.irem, 1) := by decide +kernel
theorem dX9_least_143 : decode cX9_least 143 = .ok (.ishl, 1) := by decide +kernel
theorem dX9_least_144 : decode cX9_least 144 = .ok (.ior, 1) := by decide +kernel
theorem dX9_least_145 : decode cX9_least 145 = .ok (.istore 5, 2) := by decide +kernel
theorem dX9_least_147 : decode cX9_least 147 = .ok (.iload 6, 2) := by decide +kernel
theorem dX9_least_149 : decode cX9_least 149 = .ok (.iload 7, 2) := by decide +kernel
theorem dX9_least_151 : decode cX9_least 151 = .ok (.isub, 1) := by decide +kernel
theorem dX9_least_152 : decode cX9_least 152 = .ok (.istore 6, 2) := by decide +kernel
theorem dX9_least_154 : decode cX9_least 154 = .ok (.iinc 8 1, 3) := by decide +kernel
theorem dX9_least_157 : decode cX9_least 157 = .ok (.goto (-86), 3) := by decide +kernel
theorem dX9_least_160 : decode cX9_least 160 = .ok (.iload 7, 2) := by decide +kernel
theorem dX9_least_162 : decode cX9_least 162 = .ok (.ireturn, 1) := by decide +kernel
theorem q_X9_least : yX9_least.cls ≠ "java/lang/invoke/MethodHandle" ∧ yX9_least.cls ≠ "java/lang/invoke/VarHandle" ∧ (parseMethodDescriptor yX9_least.desc).map (fun d => d.parameters.length) = some 4 := by decide +kernel
theorem gX9_laysRows_X9_at : GoodIn (ck_ws 151) (va_wsS RX9 365 yX9_at (ck_ws 150)) := hc_g (o := 9) ro208
theorem gX9_laysRows_X9_bitsOf : GoodIn (ck_ws 151) (va_wsS RX9 362 yX9_bitsOf (ck_ws 152)) := hc_g (o := 9) ro207
theorem gX9_areRows_X9_in : GoodIn (ck_ws 153) (va_wsS RX9 97 yX9_in (ck_ws 62)) := hc_g (o := 9) ro156
theorem gX9_least_X9_areRows : GoodIn (ck_ws 155) (va_wsS RX9 369 yX9_areRows (ck_ws 153)) := hc_g (o := 9) ro209
theorem gX9_least_X9_in : GoodIn (ck_ws 155) (va_wsS RX9 97 yX9_in (ck_ws 62)) := hc_g (o := 9) ro156
theorem gX9_least_X9_at : GoodIn (ck_ws 155) (va_wsS RX9 365 yX9_at (ck_ws 150)) := hc_g (o := 9) ro208
theorem gX9_least_X9_laysRows : GoodIn (ck_ws 155) (wsV RX9 372 yX9_laysRows.cls yX9_laysRows (ck_ws 151)) := hc_v (o := 9) ro210
set_option maxRecDepth 100000 in
set_option maxHeartbeats 4000000 in
theorem c_X9_in (l : Launch) (D : va_G) (kp : Nat → ClassId) {n : Nat} {E : Nat → jv_E}  (p1 : Int64) (p2 : Int64) (p3 : Int64) (vi li hi : Int) (e1 : p1.toInt = vi) (e2 : p2.toInt = li) (e3 : p3.toInt = hi) : jv_M l D vwCl kp yX9_in (ck_ws 62) (ck_rm 0 0) ck_NN [.long p1, .long p2, .long p3] n E 0 0 (fun r n1 E1 => ((some (.int 1) = r ∧ li ≤ vi ∧ vi ≤ hi) ∨ (some (.int 0) = r ∧ (vi < li ∨ hi < vi))) ∧ n = n1 ∧ E = E1) := by
  refine jv_of (cc := cX9_in) (maxL := 6) (rt := some .boolean) (by decide) rfl (Nat.le_of_ble_eq_true rfl) (fun G C B hI hnl => ?_)
  show jv_V l D vwCl kp G 0 0 n E 0 [(0, .long p1), (2, .long p2), (4, .long p3)] []
  refine jv_lload_n C dX9_in_0 0 rfl ?_
  refine jv_lload_n C dX9_in_1 1 rfl ?_
  refine jv_lcmp C dX9_in_2 ?_
  refine jv_if_lt (tgt := 17) C dX9_in_3 (by decide) (fun c1 => ?_) (fun c1 => ?_)
  · refine jv_iconst (v := 0) C dX9_in_17 (by decide) ?_
    exact jv_zret C B (by decide) ⟨Or.inr ⟨rfl, by subst e1; subst e2; subst e3; have a0 := jv_lc_lt c1; omega⟩, rfl, rfl⟩ ⟨by decide, by decide⟩ dX9_in_18
  · refine jv_lload_n C dX9_in_6 0 rfl ?_
    refine jv_lload C dX9_in_7 2 rfl ?_
    refine jv_lcmp C dX9_in_9 ?_
    refine jv_if_gt (tgt := 17) C dX9_in_10 (by decide) (fun c2 => ?_) (fun c2 => ?_)
    · refine jv_iconst (v := 0) C dX9_in_17 (by decide) ?_
      exact jv_zret C B (by decide) ⟨Or.inr ⟨rfl, by subst e1; subst e2; subst e3; have a0 := jv_lc_nlt c1; have a1 := jv_lc_gt c2; omega⟩, rfl, rfl⟩ ⟨by decide, by decide⟩ dX9_in_18
    · refine jv_iconst (v := 1) C dX9_in_13 (by decide) ?_
      refine jv_goto (tgt := 18) C dX9_in_14 (by decide) ?_
      exact jv_zret C B (by decide) ⟨Or.inl ⟨rfl, by subst e1; subst e2; subst e3; have a0 := jv_lc_nlt c1; have a1 := jv_lc_ngt c2; omega⟩, rfl, rfl⟩ ⟨by decide, by decide⟩ dX9_in_18
set_option maxRecDepth 100000 in
set_option maxHeartbeats 4000000 in
theorem c_X9_areRows (l : Launch) (D : va_G) (kp : Nat → ClassId) {n : Nat} {E : Nat → jv_E}  (p1 : Int32) (p2 : Int32) (p3 : Int32) : jv_M l D vwCl kp yX9_areRows (ck_ws 153) (ck_rm 1 30) ck_NN [.int p1, .int p2, .int p3] n E 0 0 (fun r n1 E1 => ((some (.int 1) = r ∧ (1 ≤ p1.toInt ∧ p1.toInt ≤ 8 ∧ 0 ≤ p2.toInt ∧ p2.toInt ≤ 9 ∧ 0 ≤ p3.toInt ∧ p3.toInt ≤ 9)) ∨ (some (.int 0) = r ∧ ¬ (1 ≤ p1.toInt ∧ p1.toInt ≤ 8 ∧ 0 ≤ p2.toInt ∧ p2.toInt ≤ 9 ∧ 0 ≤ p3.toInt ∧ p3.toInt ≤ 9))) ∧ n = n1 ∧ E = E1) := by
  refine jv_of (cc := cX9_areRows) (maxL := 3) (rt := some .boolean) (by decide) rfl (Nat.le_of_ble_eq_true rfl) (fun G C B hI hnl => ?_)
  show jv_V l D vwCl kp G 0 0 n E 0 [(0, .int p1), (1, .int p2), (2, .int p3)] []
  refine jv_iload_n C dX9_areRows_0 0 rfl ?_
  refine jv_i2l C dX9_areRows_1 ?_
  refine jv_lconst (v := 1) C dX9_areRows_2 (by decide) ?_
  refine jv_ldc2 (v := 8) C dX9_areRows_3 (by decide +kernel) ?_
  refine jv_callS (na := 3) (As := [.long p1.toInt64, .long 1, .long 8]) (st := []) C (c_X9_in l D kp p1.toInt64 1 8 p1.toInt 1 8 (jv_t64 p1) (by decide) (by decide)) gX9_areRows_X9_in rfl rfl rfl q_X9_in rfl ⟨by decide, by decide⟩ ⟨by decide, by decide⟩ (fun _ h => h) (Nat.le_of_ble_eq_true rfl) rfl dX9_areRows_6 (fun r n1 E_1 hp _ => ?_)
  obtain ⟨⟨rfl, q2⟩ | ⟨rfl, q2⟩, rfl, rfl⟩ := hp
  · show jv_V l D vwCl kp G 0 0 n E 9 [(0, .int p1), (1, .int p2), (2, .int p3)] [.int 1]
    refine jv_if_eq (tgt := 40) C dX9_areRows_9 (by decide) (fun h => absurd h (by decide)) (fun _ => ?_)
    refine jv_iload_n C dX9_areRows_12 1 rfl ?_
    refine jv_i2l C dX9_areRows_13 ?_
    refine jv_lconst (v := 0) C dX9_areRows_14 (by decide) ?_
    refine jv_ldc2 (v := 9) C dX9_areRows_15 (by decide +kernel) ?_
    refine jv_callS (na := 3) (As := [.long p2.toInt64, .long 0, .long 9]) (st := []) C (c_X9_in l D kp p2.toInt64 0 9 p2.toInt 0 9 (jv_t64 p2) (by decide) (by decide)) gX9_areRows_X9_in rfl rfl rfl q_X9_in rfl ⟨by decide, by decide⟩ ⟨by decide, by decide⟩ (fun _ h => h) (Nat.le_of_ble_eq_true rfl) rfl dX9_areRows_18 (fun r n1 E_3 hp _ => ?_)
    obtain ⟨⟨rfl, q4⟩ | ⟨rfl, q4⟩, rfl, rfl⟩ := hp
    · show jv_V l D vwCl kp G 0 0 n E 21 [(0, .int p1), (1, .int p2), (2, .int p3)] [.int 1]
      refine jv_if_eq (tgt := 40) C dX9_areRows_21 (by decide) (fun h => absurd h (by decide)) (fun _ => ?_)
      refine jv_iload_n C dX9_areRows_24 2 rfl ?_
      refine jv_i2l C dX9_areRows_25 ?_
      refine jv_lconst (v := 0) C dX9_areRows_26 (by decide) ?_
      refine jv_ldc2 (v := 9) C dX9_areRows_27 (by decide +kernel) ?_
      refine jv_callS (na := 3) (As := [.long p3.toInt64, .long 0, .long 9]) (st := []) C (c_X9_in l D kp p3.toInt64 0 9 p3.toInt 0 9 (jv_t64 p3) (by decide) (by decide)) gX9_areRows_X9_in rfl rfl rfl q_X9_in rfl ⟨by decide, by decide⟩ ⟨by decide, by decide⟩ (fun _ h => h) (Nat.le_of_ble_eq_true rfl) rfl dX9_areRows_30 (fun r n1 E_5 hp _ => ?_)
      obtain ⟨⟨rfl, q6⟩ | ⟨rfl, q6⟩, rfl, rfl⟩ := hp
      · show jv_V l D vwCl kp G 0 0 n E 33 [(0, .int p1), (1, .int p2), (2, .int p3)] [.int 1]
        refine jv_if_eq (tgt := 40) C dX9_areRows_33 (by decide) (fun h => absurd h (by decide)) (fun _ => ?_)
        refine jv_iconst (v := 1) C dX9_areRows_36 (by decide) ?_
        refine jv_goto (tgt := 41) C dX9_areRows_37 (by decide) ?_
        exact jv_zret C B (by decide) ⟨Or.inl ⟨rfl, by have a0 := q2; have a1 := q4; have a2 := q6; omega⟩, rfl, rfl⟩ ⟨by decide, by decide⟩ dX9_areRows_41
      · show jv_V l D vwCl kp G 0 0 n E 33 [(0, .int p1), (1, .int p2), (2, .int p3)] [.int 0]
        refine jv_if_eq (tgt := 40) C dX9_areRows_33 (by decide) (fun _ => ?_) (fun h => absurd (by decide) h)
        refine jv_iconst (v := 0) C dX9_areRows_40 (by decide) ?_
        exact jv_zret C B (by decide) ⟨Or.inr ⟨rfl, by have a0 := q2; have a1 := q4; have a2 := q6; omega⟩, rfl, rfl⟩ ⟨by decide, by decide⟩ dX9_areRows_41
    · show jv_V l D vwCl kp G 0 0 n E 21 [(0, .int p1), (1, .int p2), (2, .int p3)] [.int 0]
      refine jv_if_eq (tgt := 40) C dX9_areRows_21 (by decide) (fun _ => ?_) (fun h => absurd (by decide) h)
      refine jv_iconst (v := 0) C dX9_areRows_40 (by decide) ?_
      exact jv_zret C B (by decide) ⟨Or.inr ⟨rfl, by have a0 := q2; have a1 := q4; omega⟩, rfl, rfl⟩ ⟨by decide, by decide⟩ dX9_areRows_41
  · show jv_V l D vwCl kp G 0 0 n E 9 [(0, .int p1), (1, .int p2), (2, .int p3)] [.int 0]
    refine jv_if_eq (tgt := 40) C dX9_areRows_9 (by decide) (fun _ => ?_) (fun h => absurd (by decide) h)
    refine jv_iconst (v := 0) C dX9_areRows_40 (by decide) ?_
    exact jv_zret C B (by decide) ⟨Or.inr ⟨rfl, by have a0 := q2; omega⟩, rfl, rfl⟩ ⟨by decide, by decide⟩ dX9_areRows_41
theorem jm_sub {a b : Nat} (h : b ≤ a) : nI a - nI b = nI (a - b) := by
  have e : nI a = nI (a - b) + nI b := by rw [nI_add]; congr 1; omega
  rw [e, Int32.add_sub_cancel]
theorem jm_low : ∀ v, v < 256 → 0 < v → (nI v &&& (nI v - 1)) = nI (v &&& (v - 1)) ∧ (v &&& (v - 1)) < 256 ∧ jw_bc (v &&& (v - 1)) + 1 = jw_bc v := by decide +kernel
theorem jm_bc0 : ∀ v, v < 256 → jw_bc v = 0 → v = 0 := by decide +kernel
theorem jm_bcp : ∀ v, v < 256 → 0 < jw_bc v → 0 < v := by decide +kernel
theorem jm_and : ∀ s, s < 256 → ∀ m, m < 8 → (nI s &&& nI (2 ^ m) = 0 ↔ s.testBit m = false) := by decide +kernel
set_option maxRecDepth 100000 in
set_option maxHeartbeats 8000000 in
theorem lp_bits {l : Launch} {D : va_G} {kp : Nat → ClassId} {G : jv_G} {n t : Nat} {E E0 : Nat → jv_E} {x0 : Int32} {rd : Room} {post : Option Value → Nat → (Nat → jv_E) → Prop} (C : jv_C D vwCl kp G cX9_bitsOf RX9 (ck_ws 152) rd ck_NN) (hnl : jv_nL G = 3)
    (B : jv_R D vwCl kp G E0 (some .int) 0 0 post) (hp : post (some (.int (nI t))) n E) :
    ∀ (f c v : Nat), v < 256 → jw_bc v = f → c + f = t → jv_V l D vwCl kp G 0 0 n E 4 [(2, .int (nI v)), (1, .int (nI c)), (0, .int x0)] [] := by
  intro f
  induction f with
  | zero =>
    intro c v hv hb hc
    have h0 := jm_bc0 v hv hb
    subst h0
    have hc2 : c = t := by omega
    subst hc2
    refine jv_iload_n C dX9_bitsOf_4 0 rfl ?_
    refine jv_if_eq (tgt := 20) C dX9_bitsOf_5 (by decide) (fun _ => ?_) (fun h => absurd nI_0 h)
    refine jv_iload_n C dX9_bitsOf_20 1 rfl ?_
    exact jv_iret C B hp ⟨by decide, by decide⟩ dX9_bitsOf_21
  | succ f ih =>
    intro c v hv hb hc
    have h0 := jm_bcp v hv (by omega)
    obtain ⟨e1, e2, e3⟩ := jm_low v hv h0
    refine jv_iload_n C dX9_bitsOf_4 0 rfl ?_
    refine jv_if_eq (tgt := 20) C dX9_bitsOf_5 (by decide) (fun h => absurd h (nI_ne0 h0 (by omega))) (fun _ => ?_)
    refine jv_iinc (v := nI (c + 1)) (lv2 := [(1, .int (nI (c + 1))), (2, .int (nI v)), (0, .int x0)]) C dX9_bitsOf_8 hnl 1 rfl (nI_1 c) (by decide) rfl ?_
    refine jv_iload_n C dX9_bitsOf_11 1 rfl ?_
    refine jv_iload_n C dX9_bitsOf_12 1 rfl ?_
    refine jv_iconst (v := 1) C dX9_bitsOf_13 (by decide) ?_
    refine jv_isub C dX9_bitsOf_14 ?_
    refine jv_iand C dX9_bitsOf_15 ?_
    refine jv_ti e1 ?_
    refine jv_istore_n (lv2 := [(2, .int (nI (v &&& (v - 1)))), (1, .int (nI (c + 1))), (0, .int x0)]) C dX9_bitsOf_16 rfl hnl (by decide) rfl ?_
    refine jv_goto (tgt := 4) C dX9_bitsOf_17 (by decide) ?_
    exact ih (c + 1) _ e2 (by omega) (by omega)
set_option maxRecDepth 100000 in
set_option maxHeartbeats 8000000 in
theorem c_X9_bitsOf (l : Launch) (D : va_G) (kp : Nat → ClassId) {n : Nat} {E : Nat → jv_E} {s : Nat} (hs : s < 256) :
    jv_M l D vwCl kp yX9_bitsOf (ck_ws 152) (ck_rm 0 0) ck_NN [.int (nI s)] n E 0 0 (fun r n1 E1 => some (.int (nI (jw_bc s))) = r ∧ n = n1 ∧ E = E1) := by
  refine jv_of (cc := cX9_bitsOf) (maxL := 3) (rt := some .int) (by decide) rfl (Nat.le_of_ble_eq_true rfl) (fun G C B hI hnl => ?_)
  show jv_V l D vwCl kp G 0 0 n E 0 [(0, .int (nI s))] []
  refine jv_iconst (v := 0) C dX9_bitsOf_0 (by decide) ?_
  refine jv_istore_n (lv2 := [(1, .int 0), (0, .int (nI s))]) C dX9_bitsOf_1 rfl hnl (by decide) rfl ?_
  refine jv_iload_n C dX9_bitsOf_2 1 rfl ?_
  refine jv_istore_n (lv2 := [(2, .int (nI s)), (1, .int 0), (0, .int (nI s))]) C dX9_bitsOf_3 rfl hnl (by decide) rfl ?_
  exact lp_bits C hnl B ⟨rfl, rfl, rfl⟩ (jw_bc s) 0 s hs rfl (by omega)
set_option maxRecDepth 100000 in
set_option maxHeartbeats 8000000 in
theorem c_X9_at (l : Launch) (D : va_G) (kp : Nat → ClassId) {n : Nat} {E : Nat → jv_E} (s x : Nat) :
    jv_M l D vwCl kp yX9_at (ck_ws 150) (ck_rm 0 0) ck_NN [.int (nI s), .int (nI x)] n E 0 0 (fun r n1 E1 => some (.int (nI (73 * s + x))) = r ∧ n = n1 ∧ E = E1) := by
  refine jv_of (cc := cX9_at) (maxL := 2) (rt := some .int) (by decide) rfl (Nat.le_of_ble_eq_true rfl) (fun G C B hI hnl => ?_)
  show jv_V l D vwCl kp G 0 0 n E 0 [(0, .int (nI s)), (1, .int (nI x))] []
  refine jv_bipush (v := nI 73) C dX9_at_0 (by decide) ?_
  refine jv_iload_n C dX9_at_2 0 rfl ?_
  refine jv_imul C dX9_at_3 ?_
  refine jv_ti (pk_mul 73 s) ?_
  refine jv_iload_n C dX9_at_4 1 rfl ?_
  refine jv_iadd C dX9_at_5 ?_
  refine jv_ti (nI_add (73 * s) x) ?_
  exact jv_iret C B ⟨rfl, rfl, rfl⟩ ⟨by decide, by decide⟩ dX9_at_6
def jm_term (P T k x : Nat) : Nat → Nat := fun h => if k.testBit ((P - jw_U P k + h) % P) then 0 else jw_M P T (jw_U P k - 1) (k ||| 2 ^ ((P - jw_U P k + h) % P)) ((x : Int) - (h : Int))
theorem jm_M {P T k x : Nat} (h : 0 < jw_U P k) : jw_M P T (jw_U P k) k (x : Int) = jw_sum (jm_term P T k x) (T + 1) := by
  obtain ⟨r, hr⟩ : ∃ r, jw_U P k = r + 1 := ⟨jw_U P k - 1, by omega⟩
  unfold jm_term
  rw [hr, jw_M]
  rfl
theorem jm_ext {f : Nat → Nat} {h : Nat} : ∀ {m : Nat}, h ≤ m → (∀ j, h ≤ j → j < m → f j = 0) → jw_sum f m = jw_sum f h
  | 0, h1, _ => by have e : h = 0 := by omega
                   rw [e]
  | m + 1, h1, h2 => by
    by_cases e : h = m + 1
    · rw [e]
    · rw [jw_sum, h2 m (by omega) (by omega), Nat.add_zero]
      exact jm_ext (by omega) (fun j a b => h2 j a (by omega))
theorem jm_over {P T k x h : Nat} (hx : x < h) : jm_term P T k x h = 0 := by
  unfold jm_term
  by_cases q : k.testBit ((P - jw_U P k + h) % P) = true
  · rw [if_pos q]
  · rw [if_neg q]
    exact jw_Mneg _ _ _ _ _ (by omega)
def jm_I (P T X k : Nat) (gl : Nat → Int64) : Prop := ∀ s, k ≤ s → s < 2 ^ P → ∀ x, x ≤ X → gl (73 * s + x) = lN (jw_M P T (jw_U P s) s (x : Int))
def jm_J (P T X k x : Nat) (gl : Nat → Int64) : Prop := jm_I P T X (k + 1) gl ∧ ∀ y, y < x → gl (73 * k + y) = lN (jw_M P T (jw_U P k) k (y : Int))
theorem jm_JI {P T X k : Nat} {gl : Nat → Int64} (h : jm_J P T X k (X + 1) gl) : jm_I P T X k gl := fun s h1 h2 x hx => by
  by_cases e : s = k
  · subst e; exact h.2 x (by omega)
  · exact h.1 s (by omega) h2 x hx
theorem jm_upd {P T X k x : Nat} {gl : Nat → Int64} (hX : X ≤ 72) (hx : x ≤ X) (h : jm_J P T X k x gl) : jm_J P T X k (x + 1) (vp_updL gl (73 * k + x) (lN (jw_M P T (jw_U P k) k (x : Int)))) := by
  refine ⟨fun s h1 h2 y hy => ?_, fun y hy => ?_⟩
  · unfold vp_updL
    rw [if_neg (by omega)]
    exact h.1 s h1 h2 y hy
  · unfold vp_updL
    by_cases e : y = x
    · subst e; rw [if_pos rfl]
    · rw [if_neg (by omega)]
      exact h.2 y (by omega)
set_option maxRecDepth 100000 in
set_option maxHeartbeats 8000000 in
theorem lp_M124 {l : Launch} {D : va_G} {kp : Nat → ClassId} {G : jv_G} {n : Nat} {P T B X k x : Nat} {fv bv hv : Int32} (C : jv_C D vwCl kp G cX9_laysRows RX9 (ck_ws 151) (ck_rm 1 30) ck_NN) {Eo : Nat → jv_E} {fs : List Value} (ho : Eo 58 = .inr (9, fs)) (h40 : fs[40]? = some (.ref 82)) (hnl : jv_nL G = 12) (hX : X ≤ 72) (hx : x ≤ X) (hk : k < 256)
    (kk : ∀ (E : Nat → jv_E) (gl : Nat → Int64), (∀ k, k ≠ 82 → E k = Eo k) → E 82 = .inl (3, 18688, .inr (.inl gl)) → jm_J P T X k (x + 1) gl → jv_V l D vwCl kp G 0 0 n E 26 [(7, .int (nI (x + 1))), (6, .int bv), (5, .int (nI k)), (4, .int fv), (0, .ref 58), (1, .int (nI P)), (2, .int (nI B)), (3, .int (nI T))] []) {E : Nat → jv_E} {gl : Nat → Int64} (h58 : (∀ k, k ≠ 82 → E k = Eo k)) (h82 : E 82 = .inl (3, 18688, .inr (.inl gl))) (hJ : jm_J P T X k x gl) :
    jv_V l D vwCl kp G 0 0 n E 124 [(10, .int hv), (8, .long (lN (jw_M P T (jw_U P k) k (x : Int)))), (7, .int (nI x)), (6, .int bv), (5, .int (nI k)), (4, .int fv), (0, .ref 58), (1, .int (nI P)), (2, .int (nI B)), (3, .int (nI T))] [] := by
  refine jv_aload_n C dX9_laysRows_124 6 rfl ?_
  refine jv_getf (fk := 40) C (by decide) ((h58 58 (by decide)).trans ho) rfl hc_in (by decide) hc_f40 rfl h40 dX9_laysRows_125 ?_
  refine jv_iload C dX9_laysRows_128 4 rfl ?_
  refine jv_iload C dX9_laysRows_130 2 rfl ?_
  refine jv_callS (na := 2) (As := [.int (nI k), .int (nI x)]) (st := [.ref 82]) C (c_X9_at l D kp k x) gX9_laysRows_X9_at rfl rfl rfl q_X9_at rfl ⟨by decide, by decide⟩ ⟨by decide, by decide⟩ (fun _ h => h) (Nat.le_of_ble_eq_true rfl) rfl dX9_laysRows_132 (fun r n1 E1 hp _ => ?_)
  obtain ⟨rfl, rfl, rfl⟩ := hp
  show jv_V l D vwCl kp G 0 0 n E 135 [(10, .int hv), (8, .long (lN (jw_M P T (jw_U P k) k (x : Int)))), (7, .int (nI x)), (6, .int bv), (5, .int (nI k)), (4, .int fv), (0, .ref 58), (1, .int (nI P)), (2, .int (nI B)), (3, .int (nI T))] [.int (nI (73 * k + x)), .ref 82]
  refine jv_lload C dX9_laysRows_135 1 rfl ?_
  refine jv_last C (by decide) h82 (jb_in (by omega) (by decide)) dX9_laysRows_137 ?_
  refine jv_iinc (v := nI (x + 1)) (lv2 := [(7, .int (nI (x + 1))), (10, .int hv), (8, .long (lN (jw_M P T (jw_U P k) k (x : Int)))), (6, .int bv), (5, .int (nI k)), (4, .int fv), (0, .ref 58), (1, .int (nI P)), (2, .int (nI B)), (3, .int (nI T))]) C dX9_laysRows_138 hnl 2 rfl (nI_1 x) (by decide) rfl ?_
  refine jv_goto (tgt := 26) C dX9_laysRows_141 (by decide) ?_
  refine jv_lpk [0, 3, 4, 5, 6, 7, 8, 9] rfl ?_
  refine kk _ _ (fun k hk => (va_up_ne _ _ hk).trans (h58 k hk)) (va_up_self _ _ _) ?_
  rw [jb_cl (by omega)]
  exact jm_upd hX hx hJ
set_option maxRecDepth 100000 in
set_option maxHeartbeats 8000000 in
theorem lp_M56 {l : Launch} {D : va_G} {kp : Nat → ClassId} {G : jv_G} {n : Nat} {P T B X k x : Nat} {E : Nat → jv_E} {gl : Nat → Int64} (C : jv_C D vwCl kp G cX9_laysRows RX9 (ck_ws 151) (ck_rm 1 30) ck_NN) {Eo : Nat → jv_E} {fs : List Value} (ho : Eo 58 = .inr (9, fs)) (h40 : fs[40]? = some (.ref 82)) (hnl : jv_nL G = 12) (hP : 1 ≤ P) (hP2 : P < 9) (hT : T < 10) (hX : X ≤ 72) (hx : x ≤ X) (hk : k < 2 ^ P - 1) (h58 : (∀ k, k ≠ 82 → E k = Eo k)) (h82 : E 82 = .inl (3, 18688, .inr (.inl gl))) (hJ : jm_J P T X k x gl)
    (kk : ∀ (hv : Int32), jv_V l D vwCl kp G 0 0 n E 124 [(10, .int hv), (8, .long (lN (jw_M P T (jw_U P k) k (x : Int)))), (7, .int (nI x)), (6, .int (nI (jw_bc k))), (5, .int (nI k)), (4, .int (nI (2 ^ P - 1))), (0, .ref 58), (1, .int (nI P)), (2, .int (nI B)), (3, .int (nI T))] []) :
    ∀ (f h : Nat), h + f = T + 1 → h ≤ x + 1 → jv_V l D vwCl kp G 0 0 n E 56 [(10, .int (nI h)), (8, .long (lN (jw_sum (jm_term P T k x) h))), (7, .int (nI x)), (6, .int (nI (jw_bc k))), (5, .int (nI k)), (4, .int (nI (2 ^ P - 1))), (0, .ref 58), (1, .int (nI P)), (2, .int (nI B)), (3, .int (nI T))] [] := by
  have hU := jb_U0 P hP2 k hk
  have hp2 := jb_p2 P hP2
  have hUb := jb_U P hP2 k (by omega)
  intro f
  induction f with
  | zero =>
    intro h h1 h2
    have e : h = T + 1 := by omega
    subst e
    refine jv_iload C dX9_laysRows_56 0 rfl ?_
    refine jv_iload_n C dX9_laysRows_58 9 rfl ?_
    refine jv_icmp_gt (tgt := 124) C dX9_laysRows_59 (by decide) (fun _ => ?_) (fun h => absurd (nI_lt (by omega) (by omega)) h)
    rw [← jm_M hU]
    exact kk _
  | succ f ih =>
    intro h h1 h2
    refine jv_iload C dX9_laysRows_56 0 rfl ?_
    refine jv_iload_n C dX9_laysRows_58 9 rfl ?_
    refine jv_icmp_gt (tgt := 124) C dX9_laysRows_59 (by decide) (fun q => absurd q (nI_nlt (by omega) (by omega))) (fun _ => ?_)
    refine jv_iload C dX9_laysRows_62 0 rfl ?_
    refine jv_iload C dX9_laysRows_64 2 rfl ?_
    by_cases hh : h = x + 1
    · refine jv_icmp_gt (tgt := 124) C dX9_laysRows_66 (by decide) (fun _ => ?_) (fun q => absurd (nI_lt (by omega) (by omega)) q)
      rw [← jm_ext (m := T + 1) (by omega) (fun j a _ => jm_over (by omega)), ← jm_M hU]
      exact kk _
    have hm : (jw_bc k + h) % P < P := Nat.mod_lt _ (by omega)
    have eb : jw_bc k = P - jw_U P k := by omega
    have h8 : jw_bc k ≤ 8 := by omega
    obtain ⟨o1, o2, o3⟩ := jb_or P hP2 k (by omega) _ hm
    have ha := jm_and k (by omega) _ (Nat.lt_of_lt_of_le hm (by omega))
    refine jv_icmp_gt (tgt := 124) C dX9_laysRows_66 (by decide) (fun q => absurd q (nI_nlt (by omega) (by omega))) (fun _ => ?_)
    refine jv_iload C dX9_laysRows_69 4 rfl ?_
    refine jv_iload C dX9_laysRows_71 5 rfl ?_
    refine jv_icmp_eq (tgt := 124) C dX9_laysRows_73 (by decide) (fun q => absurd ((nI_eq (by omega) (by omega)).mp q) (by omega)) (fun _ => ?_)
    refine jv_iconst (v := 1) C dX9_laysRows_76 (by decide) ?_
    refine jv_iload C dX9_laysRows_77 3 rfl ?_
    refine jv_iload C dX9_laysRows_79 0 rfl ?_
    refine jv_iadd C dX9_laysRows_81 ?_
    refine jv_ti (nI_add (jw_bc k) h) ?_
    refine jv_iload_n C dX9_laysRows_82 7 rfl ?_
    refine jv_irem C dX9_laysRows_83 (jb_ne0 hP (by omega)) ?_
    refine jv_ti (pk_rem (by omega) (by omega) (by omega)) ?_
    refine jv_ishl C dX9_laysRows_84 ?_
    refine jv_ti (jb_sh ((jw_bc k + h) % P) (by omega)) ?_
    obtain ⟨m, em⟩ : ∃ m, (jw_bc k + h) % P = m := ⟨_, rfl⟩
    have et : jm_term P T k x h = if k.testBit m then 0 else jw_M P T (jw_U P k - 1) (k ||| 2 ^ m) ((x : Int) - (h : Int)) := by
      unfold jm_term
      rw [← eb, em]
    rw [em] at hm o1 o2 o3 ha ⊢
    refine jv_istore (lv2 := [(11, .int (nI (2 ^ m))), (10, .int (nI h)), (8, .long (lN (jw_sum (jm_term P T k x) h))), (7, .int (nI x)), (6, .int (nI (jw_bc k))), (5, .int (nI k)), (4, .int (nI (2 ^ P - 1))), (0, .ref 58), (1, .int (nI P)), (2, .int (nI B)), (3, .int (nI T))]) C dX9_laysRows_85 hnl (by decide) rfl ?_
    refine jv_iload C dX9_laysRows_87 5 rfl ?_
    refine jv_iload C dX9_laysRows_89 0 rfl ?_
    refine jv_iand C dX9_laysRows_91 ?_
    refine jv_if_ne (tgt := 118) C dX9_laysRows_92 (by decide) (fun q => ?_) (fun q => ?_)
    · refine jv_iinc (v := nI (h + 1)) (lv2 := [(10, .int (nI (h + 1))), (11, .int (nI (2 ^ m))), (8, .long (lN (jw_sum (jm_term P T k x) h))), (7, .int (nI x)), (6, .int (nI (jw_bc k))), (5, .int (nI k)), (4, .int (nI (2 ^ P - 1))), (0, .ref 58), (1, .int (nI P)), (2, .int (nI B)), (3, .int (nI T))]) C dX9_laysRows_118 hnl 1 rfl (nI_1 h) (by decide) rfl ?_
      refine jv_goto (tgt := 56) C dX9_laysRows_121 (by decide) ?_
      refine jv_lpk [0, 2, 3, 4, 5, 6, 7, 8, 9, 10] rfl ?_
      have tb : k.testBit m = true := by
        cases e : k.testBit m
        · exact absurd (ha.mpr e) q
        · rfl
      have es : jw_sum (jm_term P T k x) h = jw_sum (jm_term P T k x) (h + 1) := by rw [jw_sum, et, if_pos tb, Nat.add_zero]
      rw [es]
      exact ih (h + 1) (by omega) (by omega)
    · have tb : k.testBit m = false := ha.mp q
      have tb2 := o3 tb
      obtain ⟨f1, f2, f3⟩ := jw_fin P hP2 k (by omega) _ hm tb
      refine jv_lload C dX9_laysRows_95 2 rfl ?_
      refine jv_aload_n C dX9_laysRows_97 7 rfl ?_
      refine jv_getf (fk := 40) C (by decide) ((h58 58 (by decide)).trans ho) rfl hc_in (by decide) hc_f40 rfl h40 dX9_laysRows_98 ?_
      refine jv_iload C dX9_laysRows_101 5 rfl ?_
      refine jv_iload C dX9_laysRows_103 0 rfl ?_
      refine jv_ior C dX9_laysRows_105 ?_
      refine jv_ti (jb_nor k (2 ^ m)) ?_
      refine jv_iload C dX9_laysRows_106 3 rfl ?_
      refine jv_iload C dX9_laysRows_108 1 rfl ?_
      refine jv_isub C dX9_laysRows_110 ?_
      refine jv_ti (jm_sub (a := x) (b := h) (by omega)) ?_
      refine jv_callS (na := 2) (As := [.int (nI (k ||| 2 ^ m)), .int (nI (x - h))]) (st := [.ref 82, .long (lN (jw_sum (jm_term P T k x) h))]) C (c_X9_at l D kp (k ||| 2 ^ m) (x - h)) gX9_laysRows_X9_at rfl rfl rfl q_X9_at rfl ⟨by decide, by decide⟩ ⟨by decide, by decide⟩ (fun _ h => h) (Nat.le_of_ble_eq_true rfl) rfl dX9_laysRows_111 (fun r n1 E1 hp _ => ?_)
      obtain ⟨rfl, rfl, rfl⟩ := hp
      show jv_V l D vwCl kp G 0 0 n E 114 [(11, .int (nI (2 ^ m))), (10, .int (nI h)), (8, .long (lN (jw_sum (jm_term P T k x) h))), (7, .int (nI x)), (6, .int (nI (jw_bc k))), (5, .int (nI k)), (4, .int (nI (2 ^ P - 1))), (0, .ref 58), (1, .int (nI P)), (2, .int (nI B)), (3, .int (nI T))] [.int (nI (73 * (k ||| 2 ^ m) + (x - h))), .ref 82, .long (lN (jw_sum (jm_term P T k x) h))]
      refine jv_lald C (by decide) h82 (jb_in (by omega) (by decide)) dX9_laysRows_114 ?_
      refine jv_tl (y := lN (jm_term P T k x h)) (by
        rw [jb_cl (by omega), hJ.1 _ (by omega) o1 _ (by omega), et, if_neg (by rw [tb]; decide)]
        congr 2
        · omega
        · exact Int.ofNat_sub (by omega)) ?_
      refine jv_ladd C dX9_laysRows_115 ?_
      refine jv_tl (y := lN (jw_sum (jm_term P T k x) (h + 1))) (by rw [lN_add]; rfl) ?_
      refine jv_lstore (lv2 := [(8, .long (lN (jw_sum (jm_term P T k x) (h + 1)))), (11, .int (nI (2 ^ m))), (10, .int (nI h)), (7, .int (nI x)), (6, .int (nI (jw_bc k))), (5, .int (nI k)), (4, .int (nI (2 ^ P - 1))), (0, .ref 58), (1, .int (nI P)), (2, .int (nI B)), (3, .int (nI T))]) C dX9_laysRows_116 hnl (by decide) rfl ?_
      refine jv_iinc (v := nI (h + 1)) (lv2 := [(10, .int (nI (h + 1))), (8, .long (lN (jw_sum (jm_term P T k x) (h + 1)))), (11, .int (nI (2 ^ m))), (7, .int (nI x)), (6, .int (nI (jw_bc k))), (5, .int (nI k)), (4, .int (nI (2 ^ P - 1))), (0, .ref 58), (1, .int (nI P)), (2, .int (nI B)), (3, .int (nI T))]) C dX9_laysRows_118 hnl 2 rfl (nI_1 h) (by decide) rfl ?_
      refine jv_goto (tgt := 56) C dX9_laysRows_121 (by decide) ?_
      refine jv_lpk [0, 1, 3, 4, 5, 6, 7, 8, 9, 10] rfl ?_
      exact ih (h + 1) (by omega) (by omega)
set_option maxRecDepth 100000 in
set_option maxHeartbeats 8000000 in
/-- one cell of the table, from the first value on -/
theorem lp_M51 {l : Launch} {D : va_G} {kp : Nat → ClassId} {G : jv_G} {n : Nat} {P T B X k x : Nat} {E : Nat → jv_E} {gl : Nat → Int64} (C : jv_C D vwCl kp G cX9_laysRows RX9 (ck_ws 151) (ck_rm 1 30) ck_NN) {Eo : Nat → jv_E} {fs : List Value} (ho : Eo 58 = .inr (9, fs)) (h40 : fs[40]? = some (.ref 82)) (hnl : jv_nL G = 12) (hP : 1 ≤ P) (hP2 : P < 9) (hT : T < 10) (hX : X ≤ 72) (hx : x ≤ X) (hk : k < 2 ^ P) (h58 : (∀ k, k ≠ 82 → E k = Eo k)) (h82 : E 82 = .inl (3, 18688, .inr (.inl gl))) (hJ : jm_J P T X k x gl)
    (kk : ∀ (E : Nat → jv_E) (gl : Nat → Int64), (∀ k, k ≠ 82 → E k = Eo k) → E 82 = .inl (3, 18688, .inr (.inl gl)) → jm_J P T X k (x + 1) gl → jv_V l D vwCl kp G 0 0 n E 26 [(7, .int (nI (x + 1))), (6, .int (nI (jw_bc k))), (5, .int (nI k)), (4, .int (nI (2 ^ P - 1))), (0, .ref 58), (1, .int (nI P)), (2, .int (nI B)), (3, .int (nI T))] []) :
    jv_V l D vwCl kp G 0 0 n E 51 [(7, .int (nI x)), (6, .int (nI (jw_bc k))), (5, .int (nI k)), (4, .int (nI (2 ^ P - 1))), (0, .ref 58), (1, .int (nI P)), (2, .int (nI B)), (3, .int (nI T))] [.long (lN (if k = 2 ^ P - 1 ∧ x = 0 then 1 else 0))] := by
  have hp2 := jb_p2 P hP2
  have K := fun hv => lp_M124 (hv := hv) (E := E) C ho h40 hnl hX hx (by omega) kk h58 h82 hJ
  by_cases hf : k = 2 ^ P - 1
  · have ev : (if k = 2 ^ P - 1 ∧ x = 0 then 1 else 0) = jw_M P T (jw_U P k) k (x : Int) := by
      have hu : jw_U P k = 0 := by rw [hf]; exact jb_Uf P hP2
      rw [hu, jw_M]
      by_cases e : x = 0
      · rw [if_pos ⟨hf, e⟩, if_pos (by omega)]
      · rw [if_neg (fun q => e q.2), if_neg (by omega)]
    rw [ev]
    refine jv_lstore (lv2 := [(8, .long (lN (jw_M P T (jw_U P k) k (x : Int)))), (7, .int (nI x)), (6, .int (nI (jw_bc k))), (5, .int (nI k)), (4, .int (nI (2 ^ P - 1))), (0, .ref 58), (1, .int (nI P)), (2, .int (nI B)), (3, .int (nI T))]) C dX9_laysRows_51 hnl (by decide) rfl ?_
    refine jv_iconst (v := nI 0) C dX9_laysRows_53 (by decide) ?_
    refine jv_istore (lv2 := [(10, .int (nI 0)), (8, .long (lN (jw_M P T (jw_U P k) k (x : Int)))), (7, .int (nI x)), (6, .int (nI (jw_bc k))), (5, .int (nI k)), (4, .int (nI (2 ^ P - 1))), (0, .ref 58), (1, .int (nI P)), (2, .int (nI B)), (3, .int (nI T))]) C dX9_laysRows_54 hnl (by decide) rfl ?_
    refine jv_iload C dX9_laysRows_56 0 rfl ?_
    refine jv_iload_n C dX9_laysRows_58 9 rfl ?_
    refine jv_icmp_gt (tgt := 124) C dX9_laysRows_59 (by decide) (fun q => absurd q (nI_nlt (by omega) (by omega))) (fun _ => ?_)
    refine jv_iload C dX9_laysRows_62 0 rfl ?_
    refine jv_iload C dX9_laysRows_64 2 rfl ?_
    refine jv_icmp_gt (tgt := 124) C dX9_laysRows_66 (by decide) (fun q => absurd q (nI_nlt (by omega) (by omega))) (fun _ => ?_)
    refine jv_iload C dX9_laysRows_69 4 rfl ?_
    refine jv_iload C dX9_laysRows_71 5 rfl ?_
    refine jv_icmp_eq (tgt := 124) C dX9_laysRows_73 (by decide) (fun _ => K _) (fun q => absurd (by rw [hf]) q)
  · have ev : (if k = 2 ^ P - 1 ∧ x = 0 then 1 else 0) = jw_sum (jm_term P T k x) 0 := by rw [if_neg (fun q => hf q.1)]; rfl
    rw [ev]
    refine jv_lstore (lv2 := [(8, .long (lN (jw_sum (jm_term P T k x) 0))), (7, .int (nI x)), (6, .int (nI (jw_bc k))), (5, .int (nI k)), (4, .int (nI (2 ^ P - 1))), (0, .ref 58), (1, .int (nI P)), (2, .int (nI B)), (3, .int (nI T))]) C dX9_laysRows_51 hnl (by decide) rfl ?_
    refine jv_iconst (v := nI 0) C dX9_laysRows_53 (by decide) ?_
    refine jv_istore (lv2 := [(10, .int (nI 0)), (8, .long (lN (jw_sum (jm_term P T k x) 0))), (7, .int (nI x)), (6, .int (nI (jw_bc k))), (5, .int (nI k)), (4, .int (nI (2 ^ P - 1))), (0, .ref 58), (1, .int (nI P)), (2, .int (nI B)), (3, .int (nI T))]) C dX9_laysRows_54 hnl (by decide) rfl ?_
    exact lp_M56 C ho h40 hnl hP hP2 hT hX hx (by omega) h58 h82 hJ K (T + 1) 0 (by omega) (by omega)
set_option maxRecDepth 100000 in
set_option maxHeartbeats 8000000 in
theorem lp_M26 {l : Launch} {D : va_G} {kp : Nat → ClassId} {G : jv_G} {n : Nat} {P T B k : Nat} (C : jv_C D vwCl kp G cX9_laysRows RX9 (ck_ws 151) (ck_rm 1 30) ck_NN) {Eo : Nat → jv_E} {fs : List Value} (ho : Eo 58 = .inr (9, fs)) (h40 : fs[40]? = some (.ref 82)) (hnl : jv_nL G = 12) (hP : 1 ≤ P) (hP2 : P < 9) (hB : B < 10) (hT : T < 10) (hX : P * B ≤ 72) (hk : k < 2 ^ P)
    (kk : ∀ (E : Nat → jv_E) (gl : Nat → Int64) (xv : Int32), (∀ k, k ≠ 82 → E k = Eo k) → E 82 = .inl (3, 18688, .inr (.inl gl)) → jm_I P T (P * B) k gl → jv_V l D vwCl kp G 0 0 n E 144 [(7, .int xv), (6, .int (nI (jw_bc k))), (5, .int (nI k)), (4, .int (nI (2 ^ P - 1))), (0, .ref 58), (1, .int (nI P)), (2, .int (nI B)), (3, .int (nI T))] []) :
    ∀ (f x : Nat) (E : Nat → jv_E) (gl : Nat → Int64), x + f = P * B + 1 → (∀ k, k ≠ 82 → E k = Eo k) → E 82 = .inl (3, 18688, .inr (.inl gl)) → jm_J P T (P * B) k x gl → jv_V l D vwCl kp G 0 0 n E 26 [(7, .int (nI x)), (6, .int (nI (jw_bc k))), (5, .int (nI k)), (4, .int (nI (2 ^ P - 1))), (0, .ref 58), (1, .int (nI P)), (2, .int (nI B)), (3, .int (nI T))] [] := by
  have hp2 := jb_p2 P hP2
  intro f
  induction f with
  | zero =>
    intro x E gl h1 h58 h82 hJ
    have e : x = P * B + 1 := by omega
    subst e
    refine jv_iload C dX9_laysRows_26 0 rfl ?_
    refine jv_iload_n C dX9_laysRows_28 5 rfl ?_
    refine jv_iload_n C dX9_laysRows_29 6 rfl ?_
    refine jv_imul C dX9_laysRows_30 ?_
    refine jv_ti (pk_mul P B) ?_
    refine jv_icmp_gt (tgt := 144) C dX9_laysRows_31 (by decide) (fun _ => ?_) (fun h => absurd (nI_lt (by omega) (by omega)) h)
    exact kk E gl _ h58 h82 (jm_JI hJ)
  | succ f ih =>
    intro x E gl h1 h58 h82 hJ
    have K := fun E1 gl1 a b c => ih (x + 1) E1 gl1 (by omega) a b c
    have W := lp_M51 C ho h40 hnl hP hP2 hT hX (x := x) (by omega) hk h58 h82 hJ K
    refine jv_iload C dX9_laysRows_26 0 rfl ?_
    refine jv_iload_n C dX9_laysRows_28 5 rfl ?_
    refine jv_iload_n C dX9_laysRows_29 6 rfl ?_
    refine jv_imul C dX9_laysRows_30 ?_
    refine jv_ti (pk_mul P B) ?_
    refine jv_icmp_gt (tgt := 144) C dX9_laysRows_31 (by decide) (fun q => absurd q (nI_nlt (by omega) (by omega))) (fun _ => ?_)
    refine jv_iload C dX9_laysRows_34 2 rfl ?_
    refine jv_iload C dX9_laysRows_36 3 rfl ?_
    refine jv_icmp_ne (tgt := 50) C dX9_laysRows_38 (by decide) (fun q => ?_) (fun q => ?_)
    · rw [if_neg (fun z => q (by rw [z.1]))] at W
      exact jv_lconst (v := lN 0) C dX9_laysRows_50 (by decide) W
    · have q2 := (nI_eq (by omega) (by omega)).mp q
      refine jv_iload C dX9_laysRows_41 0 rfl ?_
      refine jv_if_ne (tgt := 50) C dX9_laysRows_43 (by decide) (fun z => ?_) (fun z => ?_)
      · rw [if_neg (fun a => z (by rw [a.2]; exact nI_0))] at W
        exact jv_lconst (v := lN 0) C dX9_laysRows_50 (by decide) W
      · have z2 : x = 0 := (nI_eq (a := x) (b := 0) (by omega) (by omega)).mp (z.trans nI_0.symm)
        rw [if_pos ⟨q2, z2⟩] at W
        refine jv_lconst (v := lN 1) C dX9_laysRows_46 (by decide) ?_
        exact jv_goto (tgt := 51) C dX9_laysRows_47 (by decide) W
set_option maxRecDepth 100000 in
set_option maxHeartbeats 8000000 in
theorem lp_M11 {l : Launch} {D : va_G} {kp : Nat → ClassId} {G : jv_G} {n : Nat} {E0 : Nat → jv_E} {P T B : Nat} {post : Option Value → Nat → (Nat → jv_E) → Prop} (C : jv_C D vwCl kp G cX9_laysRows RX9 (ck_ws 151) (ck_rm 1 30) ck_NN) {Eo : Nat → jv_E} {fs : List Value} (ho : Eo 58 = .inr (9, fs)) (h40 : fs[40]? = some (.ref 82)) (hnl : jv_nL G = 12) (Bk : jv_R D vwCl kp G E0 none 0 0 post)
    (hpost : ∀ (E : Nat → jv_E) (gl : Nat → Int64), (∀ k, k ≠ 82 → E k = Eo k) → E 82 = .inl (3, 18688, .inr (.inl gl)) → jm_I P T (P * B) 0 gl → post none n E) (hP : 1 ≤ P) (hP2 : P < 9) (hB : B < 10) (hT : T < 10) (hX : P * B ≤ 72) :
    ∀ (k : Nat) (E : Nat → jv_E) (gl : Nat → Int64), k ≤ 2 ^ P → (∀ k, k ≠ 82 → E k = Eo k) → E 82 = .inl (3, 18688, .inr (.inl gl)) → jm_I P T (P * B) k gl → jv_V l D vwCl kp G 0 0 n E 11 [(5, .int (nI k + (-1))), (4, .int (nI (2 ^ P - 1))), (0, .ref 58), (1, .int (nI P)), (2, .int (nI B)), (3, .int (nI T))] [] := by
  have hp2 := jb_p2 P hP2
  intro k
  induction k with
  | zero =>
    intro E gl hk h58 h82 hI
    refine jv_iload C dX9_laysRows_11 0 rfl ?_
    refine jv_ti (y := -1) (by decide) ?_
    refine jv_if_lt (tgt := 150) C dX9_laysRows_13 (by decide) (fun _ => ?_) (fun h => absurd (by decide) h)
    exact jv_vret C Bk (hpost E gl h58 h82 hI) ⟨by decide, by decide⟩ dX9_laysRows_150
  | succ k ih =>
    intro E gl hk h58 h82 hI
    rw [pk_m1]
    refine jv_iload C dX9_laysRows_11 0 rfl ?_
    refine jv_if_lt (tgt := 150) C dX9_laysRows_13 (by decide) (fun h => absurd h (nI_pos (by omega))) (fun _ => ?_)
    refine jv_iload C dX9_laysRows_16 0 rfl ?_
    refine jv_callS (na := 1) (As := [.int (nI k)]) (st := []) C (c_X9_bitsOf l D kp (s := k) (by omega)) gX9_laysRows_X9_bitsOf rfl rfl rfl q_X9_bitsOf rfl ⟨by decide, by decide⟩ ⟨by decide, by decide⟩ (fun _ h => h) (Nat.le_of_ble_eq_true rfl) rfl dX9_laysRows_18 (fun r n1 E1 hp _ => ?_)
    obtain ⟨rfl, rfl, rfl⟩ := hp
    show jv_V l D vwCl kp G 0 0 n E 21 [(5, .int (nI k)), (4, .int (nI (2 ^ P - 1))), (0, .ref 58), (1, .int (nI P)), (2, .int (nI B)), (3, .int (nI T))] [.int (nI (jw_bc k))]
    refine jv_istore (lv2 := [(6, .int (nI (jw_bc k))), (5, .int (nI k)), (4, .int (nI (2 ^ P - 1))), (0, .ref 58), (1, .int (nI P)), (2, .int (nI B)), (3, .int (nI T))]) C dX9_laysRows_21 hnl (by decide) rfl ?_
    refine jv_iconst (v := nI 0) C dX9_laysRows_23 (by decide) ?_
    refine jv_istore (lv2 := [(7, .int (nI 0)), (6, .int (nI (jw_bc k))), (5, .int (nI k)), (4, .int (nI (2 ^ P - 1))), (0, .ref 58), (1, .int (nI P)), (2, .int (nI B)), (3, .int (nI T))]) C dX9_laysRows_24 hnl (by decide) rfl ?_
    refine lp_M26 C ho h40 hnl hP hP2 hB hT hX (by omega) (fun E1 gl1 xv k58 k82 kI => ?_) (P * B + 1) 0 E gl (by omega) h58 h82 ⟨hI, fun y hy => absurd hy (Nat.not_lt_zero y)⟩
    refine jv_iinc (v := nI k + (-1)) (lv2 := [(5, .int (nI k + (-1))), (7, .int xv), (6, .int (nI (jw_bc k))), (4, .int (nI (2 ^ P - 1))), (0, .ref 58), (1, .int (nI P)), (2, .int (nI B)), (3, .int (nI T))]) C dX9_laysRows_144 hnl 2 rfl rfl (by decide) rfl ?_
    refine jv_goto (tgt := 11) C dX9_laysRows_147 (by decide) ?_
    refine jv_lpk [0, 3, 4, 5, 6, 7] rfl ?_
    exact ih E1 gl1 (by omega) k58 k82 kI
theorem jm_72 {P B : Nat} (hP : P < 9) (hB : B < 10) : P * B ≤ 72 := Nat.mul_le_mul (show P ≤ 8 by omega) (show B ≤ 9 by omega)
set_option maxRecDepth 100000 in
set_option maxHeartbeats 8000000 in
theorem c_X9_laysRows (l : Launch) (D : va_G) (kp : Nat → ClassId) {n : Nat} {E : Nat → jv_E} {P B T : Nat} {gl : Nat → Int64} {fs : List Value} (ho : E 58 = .inr (9, fs)) (h40 : fs[40]? = some (.ref 82)) (h82 : E 82 = .inl (3, 18688, .inr (.inl gl))) (hP : 1 ≤ P) (hP2 : P < 9) (hB : B < 10) (hT : T < 10) :
    jv_M l D vwCl kp yX9_laysRows (ck_ws 151) (ck_rm 1 30) ck_NN [.ref 58, .int (nI P), .int (nI B), .int (nI T)] n E 0 0 (fun r n1 E1 => none = r ∧ n = n1 ∧ (∀ k, k ≠ 82 → E1 k = E k) ∧ ∃ gl, E1 82 = .inl (3, 18688, .inr (.inl gl)) ∧ jm_I P T (P * B) 0 gl) := by
  have hp2 := jb_p2 P hP2
  refine jv_of (cc := cX9_laysRows) (maxL := 12) (rt := none) (by decide) rfl (Nat.le_of_ble_eq_true rfl) (fun G C Bk hI hnl => ?_)
  show jv_V l D vwCl kp G 0 0 n E 0 [(0, .ref 58), (1, .int (nI P)), (2, .int (nI B)), (3, .int (nI T))] []
  refine jv_iconst (v := 1) C dX9_laysRows_0 (by decide) ?_
  refine jv_iload_n C dX9_laysRows_1 1 rfl ?_
  refine jv_ishl C dX9_laysRows_2 ?_
  refine jv_ti (jb_sh P hP2) ?_
  refine jv_iconst (v := 1) C dX9_laysRows_3 (by decide) ?_
  refine jv_isub C dX9_laysRows_4 ?_
  refine jv_ti (jm_sub (a := 2 ^ P) (b := 1) hp2.1) ?_
  refine jv_istore (lv2 := [(4, .int (nI (2 ^ P - 1))), (0, .ref 58), (1, .int (nI P)), (2, .int (nI B)), (3, .int (nI T))]) C dX9_laysRows_5 hnl (by decide) rfl ?_
  refine jv_iload C dX9_laysRows_7 0 rfl ?_
  have e : nI (2 ^ P - 1) = nI (2 ^ P) + (-1) := by
    have h := pk_m1 (2 ^ P - 1)
    rw [show 2 ^ P - 1 + 1 = 2 ^ P by omega] at h
    exact h.symm
  refine jv_ti e ?_
  refine jv_istore (lv2 := [(5, .int (nI (2 ^ P) + (-1))), (4, .int (nI (2 ^ P - 1))), (0, .ref 58), (1, .int (nI P)), (2, .int (nI B)), (3, .int (nI T))]) C dX9_laysRows_9 hnl (by decide) rfl ?_
  exact lp_M11 C ho h40 hnl Bk (fun E1 g1 a b c => ⟨rfl, rfl, a, g1, b, c⟩) hP hP2 hB hT (jm_72 hP2 hB) (2 ^ P) E gl (Nat.le_refl _) (fun _ _ => rfl) h82 (fun s h1 h2 => absurd h2 (by omega))
def jl_first (F : Nat → Nat) : Nat → Nat → Nat
  | 0, h => h
  | f + 1, h => if F h = 0 then jl_first F f (h + 1) else h
theorem jl_first_ok {F : Nat → Nat} {T : Nat} : ∀ (f h : Nat), h + f = T → (∃ j, h ≤ j ∧ j ≤ T ∧ F j ≠ 0) → jl_first F f h ≤ T ∧ F (jl_first F f h) ≠ 0 ∧ ∀ j, h ≤ j → j < jl_first F f h → F j = 0
  | 0, h, e, ⟨j, h1, h2, h3⟩ => by
    have ej : j = h := by omega
    subst ej
    rw [jl_first]
    exact ⟨by omega, h3, fun i a b => absurd a (by omega)⟩
  | f + 1, h, e, ⟨j, h1, h2, h3⟩ => by
    rw [jl_first]
    by_cases q : F h = 0
    · rw [if_pos q]
      have hj : h ≠ j := fun z => h3 (z ▸ q)
      obtain ⟨a, b, c⟩ := jl_first_ok f (h + 1) (by omega) ⟨j, by omega, h2, h3⟩
      refine ⟨a, b, fun i i1 i2 => ?_⟩
      by_cases z : i = h
      · rw [z]; exact q
      · exact c i (by omega) i2
    · rw [if_neg q]
      exact ⟨by omega, q, fun i a b => absurd a (by omega)⟩
theorem jl_pos {f : Nat → Nat} : ∀ {n : Nat}, 0 < jw_sum f n → ∃ j, j < n ∧ f j ≠ 0
  | 0, h => by rw [jw_sum] at h; omega
  | n + 1, h => by
    by_cases q : f n = 0
    · rw [jw_sum, q] at h
      obtain ⟨j, a, b⟩ := jl_pos (n := n) (by omega)
      exact ⟨j, by omega, b⟩
    · exact ⟨n, by omega, q⟩
def jl_inv (P T i s t : Nat) : Prop := s < 2 ^ P ∧ jw_U P s + i = P ∧ t < 10 ∧ 0 < jw_W P T (jw_U P s) s (t : Int)
def jl_x (P s t x : Nat) : Prop := (x : Int) = (P : Int) * (t : Int) + (jw_D P s : Int) - (jw_I P (jw_U P s) : Int)
theorem jl_term {P T i s t h : Nat} (hu : jw_U P s + i = P) : jb_term P T s t h = if s.testBit ((i + h) % P) then 0 else jw_W P T (jw_U P s - 1) (s ||| 2 ^ ((i + h) % P)) ((t : Int) - (((i + h) / P : Nat) : Int)) := by
  unfold jb_term
  rw [show P - jw_U P s = i by omega]
theorem jl_termM {P T i s x h : Nat} (hu : jw_U P s + i = P) : jm_term P T s x h = if s.testBit ((i + h) % P) then 0 else jw_M P T (jw_U P s - 1) (s ||| 2 ^ ((i + h) % P)) ((x : Int) - (h : Int)) := by
  unfold jm_term
  rw [show P - jw_U P s = i by omega]
theorem jl_bd {P T s t h : Nat} (hP2 : P < 9) (hT : T < 10) (hu : jw_U P s ≤ P) : jb_term P T s t h < 2 ^ 31 := by
  unfold jb_term
  by_cases q : s.testBit ((P - jw_U P s + h) % P) = true
  · rw [if_pos q]; omega
  · rw [if_neg q]
    have h1 := jw_bd (p := P) (top := T) (by omega) (jw_U P s - 1) (s ||| 2 ^ ((P - jw_U P s + h) % P)) ((t : Int) - (((P - jw_U P s + h) / P : Nat) : Int))
    have h2 : 10 ^ (jw_U P s - 1) ≤ 10 ^ 8 := Nat.pow_le_pow_right (by omega) (by omega)
    omega
theorem jl_eq {P T i s t x h : Nat} (hP : 1 ≤ P) (hP2 : P < 9) (hi : i < P) (hs : s < 2 ^ P) (hu : jw_U P s + i = P) (hx : jl_x P s t x) : jm_term P T s x h = jb_term P T s t h := by
  have hp2 := jb_p2 P hP2
  rw [jl_term hu, jl_termM hu]
  by_cases q : s.testBit ((i + h) % P) = true
  · rw [if_pos q, if_pos q]
  · rw [if_neg q, if_neg q]
    have hm : (i + h) % P < P := Nat.mod_lt _ hP
    obtain ⟨f1, f2, f3⟩ := jw_fin P hP2 s (by omega) _ hm (by simpa using q)
    rw [jw_WM hP hP2 (jw_U P s - 1) _ _ f1 (by omega) (by omega)]
    have hd : (P : Int) * (((i + h) / P : Nat) : Int) + (((i + h) % P : Nat) : Int) = ((i + h : Nat) : Int) := by exact_mod_cast Nat.div_add_mod (i + h) P
    congr 1
    rw [Int.mul_sub]
    have hI : jw_I P (jw_U P s) = jw_I P (jw_U P s - 1) + i := by
      obtain ⟨r, hr⟩ : ∃ r, jw_U P s = r + 1 := ⟨jw_U P s - 1, by omega⟩
      rw [hr]
      show jw_I P r + (P - (r + 1)) = jw_I P r + i
      omega
    unfold jl_x at hx
    omega
/-- one throw of the least row -/
theorem jl_step {P T i s t : Nat} (hP : 1 ≤ P) (hP2 : P < 9) (hi : i < P) (h : jl_inv P T i s t) : ∃ r, jl_first (jb_term P T s t) T 0 = r ∧ r ≤ T ∧ s.testBit ((i + r) % P) = false ∧ (i + r) / P ≤ t ∧ jb_term P T s t r ≠ 0 ∧ (∀ j, j < r → jb_term P T s t j = 0) ∧ jl_inv P T (i + 1) (s ||| 2 ^ ((i + r) % P)) (t - (i + r) / P) := by
  obtain ⟨h1, h2, h3, h4⟩ := h
  have hp2 := jb_p2 P hP2
  rw [jb_W (by omega)] at h4
  obtain ⟨j, j1, j2⟩ := jl_pos h4
  obtain ⟨a, b, c⟩ := jl_first_ok (F := jb_term P T s t) (T := T) T 0 (by omega) ⟨j, by omega, by omega, j2⟩
  obtain ⟨r, er⟩ : ∃ r, jl_first (jb_term P T s t) T 0 = r := ⟨_, rfl⟩
  rw [er] at a b c
  have hb := b
  rw [jl_term h2] at hb
  have hm : (i + r) % P < P := Nat.mod_lt _ hP
  by_cases q : s.testBit ((i + r) % P) = true
  · rw [if_pos q] at hb; exact absurd rfl hb
  · rw [if_neg q] at hb
    have q0 : s.testBit ((i + r) % P) = false := by simpa using q
    obtain ⟨f1, f2, f3⟩ := jw_fin P hP2 s (by omega) _ hm q0
    obtain ⟨o1, o2, o3⟩ := jb_or P hP2 s h1 _ hm
    have ht : (i + r) / P ≤ t := by
      rcases Nat.lt_or_ge t ((i + r) / P) with z | z
      · exact absurd (jw_neg _ _ _ _ _ (by omega)) hb
      · exact z
    refine ⟨r, er, a, q0, ht, b, fun j hj => c j (Nat.zero_le _) hj, o1, by omega, Nat.lt_of_le_of_lt (Nat.sub_le _ _) h3, ?_⟩
    rw [Int.ofNat_sub ht, show jw_U P (s ||| 2 ^ ((i + r) % P)) = jw_U P s - 1 by omega]
    exact Nat.pos_of_ne_zero hb
theorem jl_xs {P T i s t x r : Nat} (hP : 1 ≤ P) (hP2 : P < 9) (hi : i < P) (hs : s < 2 ^ P) (hu : jw_U P s + i = P) (hq : s.testBit ((i + r) % P) = false) (ht : (i + r) / P ≤ t) (hb : jb_term P T s t r ≠ 0) (hx : jl_x P s t x) : r ≤ x ∧ jl_x P (s ||| 2 ^ ((i + r) % P)) (t - (i + r) / P) (x - r) := by
  have hp2 := jb_p2 P hP2
  have hm : (i + r) % P < P := Nat.mod_lt _ hP
  obtain ⟨f1, f2, f3⟩ := jw_fin P hP2 s (by omega) _ hm hq
  have hr : r ≤ x := by
    rcases Nat.lt_or_ge x r with z | z
    · rw [← jl_eq hP hP2 hi hs hu hx] at hb
      exact absurd (jm_over z) hb
    · exact z
  refine ⟨hr, ?_⟩
  have hd : (P : Int) * (((i + r) / P : Nat) : Int) + (((i + r) % P : Nat) : Int) = ((i + r : Nat) : Int) := by exact_mod_cast Nat.div_add_mod (i + r) P
  have hI : jw_I P (jw_U P s) = jw_I P (jw_U P s - 1) + i := by
    obtain ⟨r, hr⟩ : ∃ r, jw_U P s = r + 1 := ⟨jw_U P s - 1, by omega⟩
    rw [hr]
    show jw_I P r + (P - (r + 1)) = jw_I P r + i
    omega
  unfold jl_x at hx ⊢
  rw [show jw_U P (s ||| 2 ^ ((i + r) % P)) = jw_U P s - 1 by omega, Int.ofNat_sub ht, Int.ofNat_sub hr, Int.mul_sub]
  omega
def jl_run (P T b : Nat) : Nat → Nat × Nat × Nat
  | 0 => (0, b, 0)
  | i + 1 => ((jl_run P T b i).1 ||| 2 ^ ((i + jl_first (jb_term P T (jl_run P T b i).1 (jl_run P T b i).2.1) T 0) % P), (jl_run P T b i).2.1 - (i + jl_first (jb_term P T (jl_run P T b i).1 (jl_run P T b i).2.1) T 0) / P, jl_first (jb_term P T (jl_run P T b i).1 (jl_run P T b i).2.1) T 0)
def jr_least (p b t n : Int32) : Int32 := if (1 ≤ p.toInt ∧ p.toInt ≤ 8 ∧ 0 ≤ b.toInt ∧ b.toInt ≤ 9 ∧ 0 ≤ t.toInt ∧ t.toInt ≤ 9) ∧ 0 ≤ n.toInt ∧ n.toInt < p.toInt then (if jw_W p.toInt.toNat t.toInt.toNat p.toInt.toNat 0 b.toInt = 0 then -1 else nI (jl_run p.toInt.toNat t.toInt.toNat b.toInt.toNat (n.toInt.toNat + 1)).2.2) else -2
theorem jr_least_in {P B T m : Nat} (hP2 : P < 9) (hP : 1 ≤ P) (hB : B < 10) (hT : T < 10) (hm : m < P) : jr_least (nI P) (nI B) (nI T) (nI m) = if jw_W P T P 0 (B : Int) = 0 then -1 else nI (jl_run P T B (m + 1)).2.2 := by
  unfold jr_least
  rw [nI_toInt (by omega), nI_toInt (by omega), nI_toInt (by omega), nI_toInt (by omega), if_pos (by omega)]
  rfl
theorem jl_0 {P T b : Nat} (hP2 : P < 9) (hb : b < 10) (hw : jw_W P T P 0 (b : Int) ≠ 0) : jl_inv P T 0 0 b := by
  have hp2 := jb_p2 P hP2
  obtain ⟨h1, h2⟩ := jw_start P hP2
  exact ⟨by omega, by omega, hb, by rw [h1]; exact Nat.pos_of_ne_zero hw⟩
theorem jm_shr : ∀ s, s < 256 → ∀ m, m < 8 → ((nI s >>> (nI m &&& 31)) &&& 1) = if s.testBit m then 1 else 0 := by decide +kernel
theorem jl_cmp0 {w : Nat} (h : w < 2 ^ 31) : lg_cmp (lN w) 0 = 0 ↔ w = 0 := by
  constructor
  · intro q
    have a := jv_lc_eq q
    rw [lN_toInt h] at a
    have z : (0 : Int64).toInt = 0 := by decide
    omega
  · intro q
    rw [q]
    exact jv_lc_self 0
set_option maxRecDepth 100000 in
set_option maxHeartbeats 8000000 in
theorem lp_l81 {l : Launch} {D : va_G} {kp : Nat → ClassId} {G : jv_G} {n : Nat} {E : Nat → jv_E} {P T b m i s t x r : Nat} {gl : Nat → Int64} (C : jv_C D vwCl kp G cX9_least RX9 (ck_ws 155) (ck_rm 2 70) ck_NN) {Eo : Nat → jv_E} {fs : List Value} (ho : Eo 58 = .inr (9, fs)) (h40 : fs[40]? = some (.ref 82)) (hnl : jv_nL G = 9)
    (h58 : (∀ k, k ≠ 82 → E k = Eo k)) (h82 : E 82 = .inl (3, 18688, .inr (.inl gl))) (hg : jm_I P T (P * b) 0 gl) (hP : 1 ≤ P) (hP2 : P < 9) (hT : T < 10) (hb : b < 10) (hi : i < P) (hs : s < 2 ^ P) (hu : jw_U P s + i = P) (hx : jl_x P s t x) (hxX : x ≤ P * b) (hr : r ≤ x) (hrT : r ≤ T) (hr0 : jb_term P T s t r ≠ 0) (hrj : ∀ j, j < r → jb_term P T s t j = 0)
    (kk : jv_V l D vwCl kp G 0 0 n E 133 [(7, .int (nI r)), (8, .int (nI i)), (6, .int (nI x)), (5, .int (nI s)), (0, .ref 58), (1, .int (nI P)), (2, .int (nI b)), (3, .int (nI T)), (4, .int (nI m))] []) :
    ∀ (f h : Nat), h + f = r → jv_V l D vwCl kp G 0 0 n E 81 [(7, .int (nI h)), (8, .int (nI i)), (6, .int (nI x)), (5, .int (nI s)), (0, .ref 58), (1, .int (nI P)), (2, .int (nI b)), (3, .int (nI T)), (4, .int (nI m))] [] := by
  have hp2 := jb_p2 P hP2
  have hX := jm_72 hP2 hb
  intro f
  induction f with
  | zero =>
    intro h h1
    have e : h = r := by omega
    subst e
    have hm : (i + h) % P < P := Nat.mod_lt _ hP
    obtain ⟨o1, o2, o3⟩ := jb_or P hP2 s hs _ hm
    have et := jl_termM (T := T) (x := x) (h := h) hu
    rw [jl_eq (t := t) hP hP2 hi hs hu hx] at et
    have hbd := jl_bd (T := T) (s := s) (t := t) (h := h) hP2 hT (by omega)
    have hsh := jm_shr s (by omega) _ (Nat.lt_of_lt_of_le hm (by omega))
    refine jv_iload C dX9_least_81 3 rfl ?_
    refine jv_iload C dX9_least_83 1 rfl ?_
    refine jv_iload C dX9_least_85 0 rfl ?_
    refine jv_iadd C dX9_least_87 ?_
    refine jv_ti (nI_add i h) ?_
    refine jv_iload_n C dX9_least_88 5 rfl ?_
    refine jv_irem C dX9_least_89 (jb_ne0 hP (by omega)) ?_
    refine jv_ti (pk_rem (by omega) (by omega) (by omega)) ?_
    refine jv_ishr C dX9_least_90 ?_
    refine jv_iconst (v := 1) C dX9_least_91 (by decide) ?_
    refine jv_iand C dX9_least_92 ?_
    refine jv_ti hsh ?_
    refine jv_iconst (v := 1) C dX9_least_93 (by decide) ?_
    have tb : s.testBit ((i + h) % P) = false := by
      cases tb : s.testBit ((i + h) % P)
      · rfl
      · rw [if_pos tb] at et; exact absurd et hr0
    rw [if_neg (by rw [tb]; decide)] at et
    obtain ⟨f1, f2, f3⟩ := jw_fin P hP2 s (by omega) _ hm tb
    refine jv_icmp_eq (tgt := 127) C dX9_least_94 (by decide) (fun q => absurd q (by rw [tb]; decide)) (fun _ => ?_)
    refine jv_aload_n C dX9_least_97 4 rfl ?_
    refine jv_getf (fk := 40) C (by decide) ((h58 58 (by decide)).trans ho) rfl hc_in (by decide) hc_f40 rfl h40 dX9_least_98 ?_
    refine jv_iload C dX9_least_101 3 rfl ?_
    refine jv_iconst (v := 1) C dX9_least_103 (by decide) ?_
    refine jv_iload C dX9_least_104 1 rfl ?_
    refine jv_iload C dX9_least_106 0 rfl ?_
    refine jv_iadd C dX9_least_108 ?_
    refine jv_ti (nI_add i h) ?_
    refine jv_iload_n C dX9_least_109 5 rfl ?_
    refine jv_irem C dX9_least_110 (jb_ne0 hP (by omega)) ?_
    refine jv_ti (pk_rem (by omega) (by omega) (by omega)) ?_
    refine jv_ishl C dX9_least_111 ?_
    refine jv_ti (jb_sh _ (by omega)) ?_
    refine jv_ior C dX9_least_112 ?_
    refine jv_ti (jb_nor s _) ?_
    refine jv_iload C dX9_least_113 2 rfl ?_
    refine jv_iload C dX9_least_115 0 rfl ?_
    refine jv_isub C dX9_least_117 ?_
    refine jv_ti (jm_sub (a := x) (b := h) hr) ?_
    refine jv_callS (na := 2) (As := [.int (nI (s ||| 2 ^ ((i + h) % P))), .int (nI (x - h))]) (st := [.ref 82]) C (c_X9_at l D kp (s ||| 2 ^ ((i + h) % P)) (x - h)) gX9_least_X9_at rfl rfl rfl q_X9_at rfl ⟨by decide, by decide⟩ ⟨by decide, by decide⟩ (fun _ h => h) (Nat.le_of_ble_eq_true rfl) rfl dX9_least_118 (fun q n1 E1 hp _ => ?_)
    obtain ⟨rfl, rfl, rfl⟩ := hp
    show jv_V l D vwCl kp G 0 0 n E 121 [(7, .int (nI h)), (8, .int (nI i)), (6, .int (nI x)), (5, .int (nI s)), (0, .ref 58), (1, .int (nI P)), (2, .int (nI b)), (3, .int (nI T)), (4, .int (nI m))] [.int (nI (73 * (s ||| 2 ^ ((i + h) % P)) + (x - h))), .ref 82]
    refine jv_lald C (by decide) h82 (jb_in (by omega) (by decide)) dX9_least_121 ?_
    refine jv_tl (y := lN (jb_term P T s t h)) (by
      rw [jb_cl (by omega), hg _ (by omega) o1 _ (by omega), et]
      congr 2
      · omega
      · exact Int.ofNat_sub hr) ?_
    refine jv_lconst (v := 0) C dX9_least_122 (by decide) ?_
    refine jv_lcmp C dX9_least_123 ?_
    exact jv_if_ne (tgt := 133) C dX9_least_124 (by decide) (fun _ => kk) (fun q => absurd ((jl_cmp0 hbd).mp q) hr0)
  | succ f ih =>
    intro h h1
    have hm : (i + h) % P < P := Nat.mod_lt _ hP
    obtain ⟨o1, o2, o3⟩ := jb_or P hP2 s hs _ hm
    have et := jl_termM (T := T) (x := x) (h := h) hu
    rw [jl_eq (t := t) hP hP2 hi hs hu hx] at et
    have hz := hrj h (by omega)
    have hbd := jl_bd (T := T) (s := s) (t := t) (h := h) hP2 hT (by omega)
    have hsh := jm_shr s (by omega) _ (Nat.lt_of_lt_of_le hm (by omega))
    have go : jv_V l D vwCl kp G 0 0 n E 127 [(7, .int (nI h)), (8, .int (nI i)), (6, .int (nI x)), (5, .int (nI s)), (0, .ref 58), (1, .int (nI P)), (2, .int (nI b)), (3, .int (nI T)), (4, .int (nI m))] [] := by
      refine jv_iinc (v := nI (h + 1)) (lv2 := [(7, .int (nI (h + 1))), (8, .int (nI i)), (6, .int (nI x)), (5, .int (nI s)), (0, .ref 58), (1, .int (nI P)), (2, .int (nI b)), (3, .int (nI T)), (4, .int (nI m))]) C dX9_least_127 hnl 0 rfl (nI_1 h) (by decide) rfl ?_
      refine jv_goto (tgt := 81) C dX9_least_130 (by decide) ?_
      exact ih (h + 1) (by omega)
    refine jv_iload C dX9_least_81 3 rfl ?_
    refine jv_iload C dX9_least_83 1 rfl ?_
    refine jv_iload C dX9_least_85 0 rfl ?_
    refine jv_iadd C dX9_least_87 ?_
    refine jv_ti (nI_add i h) ?_
    refine jv_iload_n C dX9_least_88 5 rfl ?_
    refine jv_irem C dX9_least_89 (jb_ne0 hP (by omega)) ?_
    refine jv_ti (pk_rem (by omega) (by omega) (by omega)) ?_
    refine jv_ishr C dX9_least_90 ?_
    refine jv_iconst (v := 1) C dX9_least_91 (by decide) ?_
    refine jv_iand C dX9_least_92 ?_
    refine jv_ti hsh ?_
    refine jv_iconst (v := 1) C dX9_least_93 (by decide) ?_
    refine jv_icmp_eq (tgt := 127) C dX9_least_94 (by decide) (fun _ => go) (fun q => ?_)
    have tb : s.testBit ((i + h) % P) = false := by
      cases tb : s.testBit ((i + h) % P)
      · rfl
      · exact absurd (if_pos tb) q
    rw [if_neg (by rw [tb]; decide)] at et
    obtain ⟨f1, f2, f3⟩ := jw_fin P hP2 s (by omega) _ hm tb
    refine jv_aload_n C dX9_least_97 4 rfl ?_
    refine jv_getf (fk := 40) C (by decide) ((h58 58 (by decide)).trans ho) rfl hc_in (by decide) hc_f40 rfl h40 dX9_least_98 ?_
    refine jv_iload C dX9_least_101 3 rfl ?_
    refine jv_iconst (v := 1) C dX9_least_103 (by decide) ?_
    refine jv_iload C dX9_least_104 1 rfl ?_
    refine jv_iload C dX9_least_106 0 rfl ?_
    refine jv_iadd C dX9_least_108 ?_
    refine jv_ti (nI_add i h) ?_
    refine jv_iload_n C dX9_least_109 5 rfl ?_
    refine jv_irem C dX9_least_110 (jb_ne0 hP (by omega)) ?_
    refine jv_ti (pk_rem (by omega) (by omega) (by omega)) ?_
    refine jv_ishl C dX9_least_111 ?_
    refine jv_ti (jb_sh _ (by omega)) ?_
    refine jv_ior C dX9_least_112 ?_
    refine jv_ti (jb_nor s _) ?_
    refine jv_iload C dX9_least_113 2 rfl ?_
    refine jv_iload C dX9_least_115 0 rfl ?_
    refine jv_isub C dX9_least_117 ?_
    refine jv_ti (jm_sub (a := x) (b := h) (by omega)) ?_
    refine jv_callS (na := 2) (As := [.int (nI (s ||| 2 ^ ((i + h) % P))), .int (nI (x - h))]) (st := [.ref 82]) C (c_X9_at l D kp (s ||| 2 ^ ((i + h) % P)) (x - h)) gX9_least_X9_at rfl rfl rfl q_X9_at rfl ⟨by decide, by decide⟩ ⟨by decide, by decide⟩ (fun _ h => h) (Nat.le_of_ble_eq_true rfl) rfl dX9_least_118 (fun q n1 E1 hp _ => ?_)
    obtain ⟨rfl, rfl, rfl⟩ := hp
    show jv_V l D vwCl kp G 0 0 n E 121 [(7, .int (nI h)), (8, .int (nI i)), (6, .int (nI x)), (5, .int (nI s)), (0, .ref 58), (1, .int (nI P)), (2, .int (nI b)), (3, .int (nI T)), (4, .int (nI m))] [.int (nI (73 * (s ||| 2 ^ ((i + h) % P)) + (x - h))), .ref 82]
    refine jv_lald C (by decide) h82 (jb_in (by omega) (by decide)) dX9_least_121 ?_
    refine jv_tl (y := lN (jb_term P T s t h)) (by
      rw [jb_cl (by omega), hg _ (by omega) o1 _ (by omega), et]
      congr 2
      · omega
      · exact Int.ofNat_sub (by omega)) ?_
    refine jv_lconst (v := 0) C dX9_least_122 (by decide) ?_
    refine jv_lcmp C dX9_least_123 ?_
    exact jv_if_ne (tgt := 133) C dX9_least_124 (by decide) (fun q => absurd ((jl_cmp0 hbd).mpr hz) q) (fun _ => go)
set_option maxRecDepth 100000 in
set_option maxHeartbeats 8000000 in
theorem lp_l71 {l : Launch} {D : va_G} {kp : Nat → ClassId} {G : jv_G} {n : Nat} {E E0 : Nat → jv_E} {P T b m : Nat} {gl : Nat → Int64} {post : Option Value → Nat → (Nat → jv_E) → Prop} (C : jv_C D vwCl kp G cX9_least RX9 (ck_ws 155) (ck_rm 2 70) ck_NN) {Eo : Nat → jv_E} {fs : List Value} (ho : Eo 58 = .inr (9, fs)) (h40 : fs[40]? = some (.ref 82)) (hnl : jv_nL G = 9) (B : jv_R D vwCl kp G E0 (some .int) 0 0 post)
    (h58 : (∀ k, k ≠ 82 → E k = Eo k)) (h82 : E 82 = .inl (3, 18688, .inr (.inl gl))) (hg : jm_I P T (P * b) 0 gl) (hP : 1 ≤ P) (hP2 : P < 9) (hT : T < 10) (hb : b < 10) (hm : m < P) (hp : post (some (.int (nI (jl_run P T b (m + 1)).2.2))) n E) :
    ∀ (f i s t h x : Nat), i + f = m + 1 → jl_run P T b i = (s, t, h) → jl_inv P T i s t → jl_x P s t x → x ≤ P * b → jv_V l D vwCl kp G 0 0 n E 71 [(8, .int (nI i)), (7, .int (nI h)), (6, .int (nI x)), (5, .int (nI s)), (0, .ref 58), (1, .int (nI P)), (2, .int (nI b)), (3, .int (nI T)), (4, .int (nI m))] [] := by
  have hp2 := jb_p2 P hP2
  intro f
  induction f with
  | zero =>
    intro i s t h x h1 e hv hx hxX
    have ei : i = m + 1 := by omega
    subst ei
    rw [e] at hp
    refine jv_iload C dX9_least_71 0 rfl ?_
    refine jv_iload C dX9_least_73 8 rfl ?_
    refine jv_icmp_gt (tgt := 160) C dX9_least_75 (by decide) (fun _ => ?_) (fun q => absurd (nI_lt (by omega) (by omega)) q)
    refine jv_iload C dX9_least_160 1 rfl ?_
    exact jv_iret C B hp ⟨by decide, by decide⟩ dX9_least_162
  | succ f ih =>
    intro i s t h x h1 e hv hx hxX
    obtain ⟨r, er, r1, r2, r3, r4, r5, r6⟩ := jl_step hP hP2 (by omega) hv
    have e2 : jl_run P T b (i + 1) = (s ||| 2 ^ ((i + r) % P), t - (i + r) / P, r) := by simp only [jl_run, e, er]
    obtain ⟨v1, v2, v3, v4⟩ := hv
    obtain ⟨x1, x2⟩ := jl_xs hP hP2 (by omega) v1 v2 r2 r3 r4 hx
    have hmm : (i + r) % P < P := Nat.mod_lt _ hP
    refine jv_iload C dX9_least_71 0 rfl ?_
    refine jv_iload C dX9_least_73 8 rfl ?_
    refine jv_icmp_gt (tgt := 160) C dX9_least_75 (by decide) (fun q => absurd q (nI_nlt (by omega) (by omega))) (fun _ => ?_)
    refine jv_iconst (v := nI 0) C dX9_least_78 (by decide) ?_
    refine jv_istore (lv2 := [(7, .int (nI 0)), (8, .int (nI i)), (6, .int (nI x)), (5, .int (nI s)), (0, .ref 58), (1, .int (nI P)), (2, .int (nI b)), (3, .int (nI T)), (4, .int (nI m))]) C dX9_least_79 hnl (by decide) rfl ?_
    refine lp_l81 C ho h40 hnl h58 h82 hg hP hP2 hT hb (by omega) v1 v2 hx hxX x1 r1 r4 r5 ?_ r 0 (by omega)
    refine jv_iload C dX9_least_133 3 rfl ?_
    refine jv_iconst (v := 1) C dX9_least_135 (by decide) ?_
    refine jv_iload C dX9_least_136 1 rfl ?_
    refine jv_iload C dX9_least_138 0 rfl ?_
    refine jv_iadd C dX9_least_140 ?_
    refine jv_ti (nI_add i r) ?_
    refine jv_iload_n C dX9_least_141 5 rfl ?_
    refine jv_irem C dX9_least_142 (jb_ne0 hP (by omega)) ?_
    refine jv_ti (pk_rem (by omega) (by omega) (by omega)) ?_
    refine jv_ishl C dX9_least_143 ?_
    refine jv_ti (jb_sh _ (by omega)) ?_
    refine jv_ior C dX9_least_144 ?_
    refine jv_ti (jb_nor s _) ?_
    refine jv_istore (lv2 := [(5, .int (nI (s ||| 2 ^ ((i + r) % P)))), (7, .int (nI r)), (8, .int (nI i)), (6, .int (nI x)), (0, .ref 58), (1, .int (nI P)), (2, .int (nI b)), (3, .int (nI T)), (4, .int (nI m))]) C dX9_least_145 hnl (by decide) rfl ?_
    refine jv_iload C dX9_least_147 3 rfl ?_
    refine jv_iload C dX9_least_149 1 rfl ?_
    refine jv_isub C dX9_least_151 ?_
    refine jv_ti (jm_sub (a := x) (b := r) x1) ?_
    refine jv_istore (lv2 := [(6, .int (nI (x - r))), (5, .int (nI (s ||| 2 ^ ((i + r) % P)))), (7, .int (nI r)), (8, .int (nI i)), (0, .ref 58), (1, .int (nI P)), (2, .int (nI b)), (3, .int (nI T)), (4, .int (nI m))]) C dX9_least_152 hnl (by decide) rfl ?_
    refine jv_iinc (v := nI (i + 1)) (lv2 := [(8, .int (nI (i + 1))), (6, .int (nI (x - r))), (5, .int (nI (s ||| 2 ^ ((i + r) % P)))), (7, .int (nI r)), (0, .ref 58), (1, .int (nI P)), (2, .int (nI b)), (3, .int (nI T)), (4, .int (nI m))]) C dX9_least_154 hnl 3 rfl (nI_1 i) (by decide) rfl ?_
    refine jv_goto (tgt := 71) C dX9_least_157 (by decide) ?_
    refine jv_lpk [0, 3, 1, 2, 4, 5, 6, 7, 8] rfl ?_
    exact ih (i + 1) _ _ _ _ (by omega) e2 r6 x2 (by omega)
set_option maxRecDepth 100000 in
set_option maxHeartbeats 8000000 in
theorem c_X9_least (l : Launch) (D : va_G) (kp : Nat → ClassId) {n : Nat} {E : Nat → jv_E} {fs : List Value} {g0 : Nat → Int64} {post : Option Value → Nat → (Nat → jv_E) → Prop} (h58 : E 58 = .inr (9, fs)) (h40 : fs[40]? = some (.ref 82)) (hlen : 0 < fs.length) (h82 : E 82 = .inl (3, 18688, .inr (.inl g0))) (p1 p2 p3 p4 : Int32)
    (hpo : ∀ (E1 : Nat → jv_E) (gl : Nat → Int64), E1 58 = .inr (9, fs.set 0 (.int 0)) → E1 82 = .inl (3, 18688, .inr (.inl gl)) → (∀ k, k ≠ 58 → k ≠ 82 → E1 k = E k) → post (some (.int (jr_least p1 p2 p3 p4))) n E1) :
    jv_M l D vwCl kp yX9_least (ck_ws 155) (ck_rm 2 70) ck_NN [.ref 58, .int p1, .int p2, .int p3, .int p4] n E 0 0 post := by
  refine jv_of (cc := cX9_least) (maxL := 9) (rt := some .int) (by decide) rfl (Nat.le_of_ble_eq_true rfl) (fun G C B hI hnl => ?_)
  show jv_V l D vwCl kp G 0 0 n E 0 [(0, .ref 58), (1, .int p1), (2, .int p2), (3, .int p3), (4, .int p4)] []
  have h41 : (fs.set 0 (.int 0))[40]? = some (.ref 82) := by rw [List.getElem?_set_ne (by decide)]; exact h40
  have hq : ∀ E1 : Nat → jv_E, (∀ k, k ≠ 82 → E1 k = va_up E 58 (.inr (9, fs.set 0 (.int 0))) k) → E1 58 = .inr (9, fs.set 0 (.int 0)) ∧ ∀ k, k ≠ 58 → k ≠ 82 → E1 k = E k := fun E1 h => ⟨(h 58 (by decide)).trans (va_up_self _ _ _), fun k a b => (h k b).trans (va_up_ne _ _ a)⟩
  have no : jr_least p1 p2 p3 p4 = -2 → jv_V l D vwCl kp G 0 0 n (va_up E 58 (.inr (9, fs.set 0 (.int 0)))) 28 [(0, .ref 58), (1, .int p1), (2, .int p2), (3, .int p3), (4, .int p4)] [] := fun q => by
    refine jv_bipush (v := -2) C dX9_least_28 (by decide) ?_
    exact jv_iret C B (by rw [← q]; exact hpo _ g0 (va_up_self _ _ _) ((va_up_ne _ _ (by decide)).trans h82) (fun k a _ => va_up_ne _ _ a)) ⟨by decide, by decide⟩ dX9_least_30
  refine jv_aload_n C dX9_least_0 0 rfl ?_
  refine jv_iconst (v := 0) C dX9_least_1 (by decide) ?_
  refine jv_putf (fk := 0) (ty := .int) (fs2 := fs.set 0 (.int 0)) C (by decide) h58 rfl hc_in tyX9 tyX9_ok nmX9 (by decide) hc_f0 rfl rfl rfl (fun _ => rfl) (fun _ => rfl) hlen dX9_least_2 rfl ?_
  refine jv_iload_n C dX9_least_5 1 rfl ?_
  refine jv_iload_n C dX9_least_6 2 rfl ?_
  refine jv_iload_n C dX9_least_7 3 rfl ?_
  refine jv_callS (na := 3) (As := [.int p1, .int p2, .int p3]) (st := []) C (c_X9_areRows l D kp p1 p2 p3) gX9_least_X9_areRows rfl rfl rfl q_X9_areRows rfl ⟨by decide, by decide⟩ ⟨by decide, by decide⟩ (fun _ h => h) (Nat.le_of_ble_eq_true rfl) rfl dX9_least_8 (fun r n1 E1 hp _ => ?_)
  obtain ⟨⟨rfl, hc⟩ | ⟨rfl, hc⟩, rfl, rfl⟩ := hp
  · obtain ⟨P, hP1, rfl, hP3⟩ := jb_of2 (x := p1) (m := 8) (by omega) (by omega)
    obtain ⟨b, hb1, rfl, hb3⟩ := jb_of2 (x := p2) (m := 9) (by omega) (by omega)
    obtain ⟨T, hT1, rfl, hT3⟩ := jb_of2 (x := p3) (m := 9) (by omega) (by omega)
    have hP : 1 ≤ P := by omega
    have hP2 : P < 9 := by omega
    have hb : b < 10 := by omega
    have hT : T < 10 := by omega
    have hX := jm_72 hP2 hb
    show jv_V l D vwCl kp G 0 0 n (va_up E 58 (.inr (9, fs.set 0 (.int 0)))) 11 [(0, .ref 58), (1, .int (nI P)), (2, .int (nI b)), (3, .int (nI T)), (4, .int p4)] [.int 1]
    refine jv_if_eq (tgt := 28) C dX9_least_11 (by decide) (fun h => absurd h (by decide)) (fun _ => ?_)
    refine jv_iload C dX9_least_14 4 rfl ?_
    refine jv_i2l C dX9_least_16 ?_
    refine jv_lconst (v := 0) C dX9_least_17 (by decide) ?_
    refine jv_iload_n C dX9_least_18 1 rfl ?_
    refine jv_iconst (v := 1) C dX9_least_19 (by decide) ?_
    refine jv_isub C dX9_least_20 ?_
    refine jv_ti (jm_sub (a := P) (b := 1) hP) ?_
    refine jv_i2l C dX9_least_21 ?_
    refine jv_tl (nI_l (by omega)) ?_
    refine jv_callS (na := 3) (As := [.long p4.toInt64, .long 0, .long (lN (P - 1))]) (st := []) C (c_X9_in l D kp p4.toInt64 0 (lN (P - 1)) p4.toInt 0 ((P - 1 : Nat) : Int) (jv_t64 p4) (by decide) (lN_toInt (by omega))) gX9_least_X9_in rfl rfl rfl q_X9_in rfl ⟨by decide, by decide⟩ ⟨by decide, by decide⟩ (fun _ h => h) (Nat.le_of_ble_eq_true rfl) rfl dX9_least_22 (fun r n1 E1 hp _ => ?_)
    obtain ⟨⟨rfl, hd⟩ | ⟨rfl, hd⟩, rfl, rfl⟩ := hp
    · obtain ⟨m, hm1, rfl, hm3⟩ := jb_of2 (x := p4) (m := 8) (by omega) (by omega)
      have hm : m < P := by omega
      have er := jr_least_in hP2 hP hb hT hm
      show jv_V l D vwCl kp G 0 0 n (va_up E 58 (.inr (9, fs.set 0 (.int 0)))) 25 [(0, .ref 58), (1, .int (nI P)), (2, .int (nI b)), (3, .int (nI T)), (4, .int (nI m))] [.int 1]
      refine jv_if_ne (tgt := 31) C dX9_least_25 (by decide) (fun _ => ?_) (fun h => absurd h (by decide))
      refine jv_aload_n C dX9_least_31 0 rfl ?_
      refine jv_iload_n C dX9_least_32 1 rfl ?_
      refine jv_iload_n C dX9_least_33 2 rfl ?_
      refine jv_iload_n C dX9_least_34 3 rfl ?_
      refine jv_callV (na := 3) (As := [.int (nI P), .int (nI b), .int (nI T)]) (st := []) C (c_X9_laysRows l D kp (va_up_self _ _ _) h41 (jv_n (by decide) h82) hP hP2 hb hT) gX9_least_X9_laysRows rfl (by decide) (va_up_self _ _ _) rfl rfl rfl q_X9_laysRows rfl ⟨by decide, by decide⟩ ⟨by decide, by decide⟩ (fun _ h => h) (Nat.le_of_ble_eq_true rfl) rfl dX9_least_35 (fun r n1 E1 hp _ => ?_)
      obtain ⟨rfl, rfl, k58, gl, k82, kI⟩ := hp
      show jv_V l D vwCl kp G 0 0 n E1 38 [(0, .ref 58), (1, .int (nI P)), (2, .int (nI b)), (3, .int (nI T)), (4, .int (nI m))] []
      refine jv_aload_n C dX9_least_38 0 rfl ?_
      refine jv_getf (fk := 40) C (by decide) ((hq _ k58).1) rfl hc_in (by decide) hc_f40 rfl h41 dX9_least_39 ?_
      refine jv_iconst (v := nI 0) C dX9_least_42 (by decide) ?_
      refine jv_iload_n C dX9_least_43 1 rfl ?_
      refine jv_iload_n C dX9_least_44 2 rfl ?_
      refine jv_imul C dX9_least_45 ?_
      refine jv_ti (pk_mul P b) ?_
      refine jv_callS (na := 2) (As := [.int (nI 0), .int (nI (P * b))]) (st := [.ref 82]) C (c_X9_at l D kp 0 (P * b)) gX9_least_X9_at rfl rfl rfl q_X9_at rfl ⟨by decide, by decide⟩ ⟨by decide, by decide⟩ (fun _ h => h) (Nat.le_of_ble_eq_true rfl) rfl dX9_least_46 (fun r n1 E2 hp _ => ?_)
      obtain ⟨rfl, rfl, rfl⟩ := hp
      show jv_V l D vwCl kp G 0 0 n E1 49 [(0, .ref 58), (1, .int (nI P)), (2, .int (nI b)), (3, .int (nI T)), (4, .int (nI m))] [.int (nI (73 * 0 + P * b)), .ref 82]
      refine jv_lald C (by decide) k82 (jb_in (by omega) (by decide)) dX9_least_49 ?_
      have hp2 := jb_p2 P hP2
      refine jv_tl (y := lN (jw_W P T P 0 (b : Int))) (by rw [jw_eq hP hP2, jb_cl (by omega), kI 0 (by omega) (by omega) _ (Nat.le_refl _), (jw_start P hP2).1]) ?_
      refine jv_lconst (v := 0) C dX9_least_50 (by decide) ?_
      refine jv_lcmp C dX9_least_51 ?_
      have hbd : jw_W P T P 0 (b : Int) < 2 ^ 31 := jb_lt hP2 hT
      refine jv_if_ne (tgt := 57) C dX9_least_52 (by decide) (fun q => ?_) (fun q => ?_)
      · have hw : jw_W P T P 0 (b : Int) ≠ 0 := fun z => q ((jl_cmp0 hbd).mpr z)
        refine jv_iconst (v := nI 0) C dX9_least_57 (by decide) ?_
        refine jv_istore (lv2 := [(5, .int (nI 0)), (0, .ref 58), (1, .int (nI P)), (2, .int (nI b)), (3, .int (nI T)), (4, .int (nI m))]) C dX9_least_58 hnl (by decide) rfl ?_
        refine jv_iload_n C dX9_least_60 2 rfl ?_
        refine jv_iload_n C dX9_least_61 3 rfl ?_
        refine jv_imul C dX9_least_62 ?_
        refine jv_ti (pk_mul P b) ?_
        refine jv_istore (lv2 := [(6, .int (nI (P * b))), (5, .int (nI 0)), (0, .ref 58), (1, .int (nI P)), (2, .int (nI b)), (3, .int (nI T)), (4, .int (nI m))]) C dX9_least_63 hnl (by decide) rfl ?_
        refine jv_iconst (v := nI 0) C dX9_least_65 (by decide) ?_
        refine jv_istore (lv2 := [(7, .int (nI 0)), (6, .int (nI (P * b))), (5, .int (nI 0)), (0, .ref 58), (1, .int (nI P)), (2, .int (nI b)), (3, .int (nI T)), (4, .int (nI m))]) C dX9_least_66 hnl (by decide) rfl ?_
        refine jv_iconst (v := nI 0) C dX9_least_68 (by decide) ?_
        refine jv_istore (lv2 := [(8, .int (nI 0)), (7, .int (nI 0)), (6, .int (nI (P * b))), (5, .int (nI 0)), (0, .ref 58), (1, .int (nI P)), (2, .int (nI b)), (3, .int (nI T)), (4, .int (nI m))]) C dX9_least_69 hnl (by decide) rfl ?_
        refine lp_l71 C (va_up_self E 58 (.inr (9, fs.set 0 (.int 0)))) h41 hnl B k58 k82 kI hP hP2 hT hb hm (by have z := hpo _ gl (hq _ k58).1 k82 (hq _ k58).2; rw [er, if_neg hw] at z; exact z) (m + 1) 0 0 b 0 (P * b) (by omega) rfl (jl_0 hP2 hb hw) ?_ (Nat.le_refl _)
        unfold jl_x
        rw [(jw_start P hP2).1, (jw_start P hP2).2, Int.natCast_mul]
        omega
      · have hw : jw_W P T P 0 (b : Int) = 0 := (jl_cmp0 hbd).mp q
        refine jv_iconst (v := -1) C dX9_least_55 (by decide) ?_
        exact jv_iret C B (by have z := hpo _ gl (hq _ k58).1 k82 (hq _ k58).2; rw [er, if_pos hw] at z; exact z) ⟨by decide, by decide⟩ dX9_least_56
    · show jv_V l D vwCl kp G 0 0 n (va_up E 58 (.inr (9, fs.set 0 (.int 0)))) 25 [(0, .ref 58), (1, .int (nI P)), (2, .int (nI b)), (3, .int (nI T)), (4, .int p4)] [.int 0]
      refine jv_if_ne (tgt := 31) C dX9_least_25 (by decide) (fun h => absurd (by decide) h) (fun _ => no ?_)
      unfold jr_least
      rw [if_neg (by omega)]
  · show jv_V l D vwCl kp G 0 0 n (va_up E 58 (.inr (9, fs.set 0 (.int 0)))) 11 [(0, .ref 58), (1, .int p1), (2, .int p2), (3, .int p3), (4, .int p4)] [.int 0]
    refine jv_if_eq (tgt := 28) C dX9_least_11 (by decide) (fun _ => no ?_) (fun h => absurd (by decide) h)
    unfold jr_least
    rw [if_neg (fun q => hc q.1)]

theorem ccXleast {l : Launch} {D : va_G} {kp : Nat → ClassId} : ck_con l D kp ck_NN ceXleast := by
  refine (ck_con_M (by decide)).mpr ?_
  intro σ E ar hgi hF hargs hP hΦ
  obtain ⟨a0, s0, rfl, h0, hs0⟩ := ck_rs_cons hargs
  obtain ⟨a1, s1, rfl, ⟨w1, x1, rfl, hx1⟩, hs1⟩ := ck_rs_cons hs0
  obtain ⟨a2, s2, rfl, ⟨w2, x2, rfl, hx2⟩, hs2⟩ := ck_rs_cons hs1
  obtain ⟨a3, s3, rfl, ⟨w3, x3, rfl, hx3⟩, hs3⟩ := ck_rs_cons hs2
  obtain ⟨a4, s4, rfl, ⟨w4, x4, rfl, hx4⟩, hs4⟩ := ck_rs_cons hs3
  have e5 := ck_rs_nil hs4
  subst e5
  have h0 : a0 = .ref 58 := h0
  subst h0
  obtain ⟨fs, e58, hl⟩ := hgi 58 _ rfl
  obtain ⟨g, e82, hg⟩ := ck_okJ.mp (hgi 82 _ rfl)
  obtain ⟨v40, hv40, hr40⟩ := ck_okl_get (j := 40) hl rfl
  have hr40 : v40 = .ref 82 := hr40
  subst hr40
  obtain ⟨v0, hv0, -⟩ := ck_okl_get (j := 0) hl rfl
  have hlen : 0 < fs.length := by
    cases fs with
    | nil => cases hv0
    | cons a b => exact Nat.zero_lt_succ _
  refine c_X9_least l D kp (fs := fs) e58 hv40 hlen e82 x1 x2 x3 x4 (fun E1 g1 k58 k82 kE => ?_)
  have hE1 : E1 = va_up (va_up E 58 (.inr (9, fs.set 0 (.int 0)))) 82 (.inl (3, 18688, .inr (.inl g1))) := by
    funext k
    by_cases a : k = 82
    · subst a; rw [k82, va_up_self]
    · rw [va_up_ne _ _ a]
      by_cases b : k = 58
      · subst b; rw [k58, va_up_self]
      · rw [va_up_ne _ _ b]; exact kE k b a
  have hg1 : ck_gi E1 := by
    rw [hE1]
    refine ck_gi_up (ck_gi_up hgi (show ck_CT[58]? = some _ from rfl) ⟨_, rfl, ck_okl_set hl rfl ⟨0, rfl, by decide, by decide⟩⟩) (show ck_CT[82]? = some _ from rfl) (ck_okJ.mpr ⟨g1, rfl, fun i _ => ?_⟩)
    have b1 := Int64.le_toInt (g1 i)
    have b2 := Int64.toInt_lt (g1 i)
    rw [ck_bd1 rfl i 0]
    show (-9223372036854775808 : Int) ≤ (g1 i).toInt ∧ (g1 i).toInt ≤ 9223372036854775807
    omega
  refine ⟨rfl, hg1, fun k hk => kE k (fun q => hk (by rw [q]; decide)) (fun q => hk (by rw [q]; decide)), _, List.mem_of_getElem? (i := 0) rfl, (fun i => if i = 4 then (jr_least x1 x2 x3 x4).toInt else σ i), (fun i hi => by show (if i = 4 then _ else σ i) = σ i; rw [if_neg (show ¬ i = 4 by have : i < 4 := hi; omega)]), fun _ h => absurd h List.not_mem_nil, fun _ h => absurd h List.not_mem_nil, ⟨ck_wb_ok rfl, _, rfl, ?_⟩, fun _ h => absurd h List.not_mem_nil, ?_⟩
  · show (jr_least x1 x2 x3 x4).toInt = 0 + (1 * (jr_least x1 x2 x3 x4).toInt + 0)
    omega
  · rw [hE1]
    exact ck_gf_up (by decide) (ck_gf_up (by decide) hΦ)
