def ceX8rows : ck_N := ((42), (4, [(2147483648, [(0, 1)]), (2147483647, [(0, (-1))]), (2147483648, [(1, 1)]), (2147483647, [(1, (-1))]), (2147483648, [(2, 1)]), (2147483647, [(2, (-1))]), ((-1), [(3, 1)]), (1, [(3, (-1))])], [.inr (.inl (some 0)), .inl (.inl (0, [(0, 1)])), .inl (.inl (0, [(1, 1)])), .inl (.inl (0, [(2, 1)]))], [(116, (0, []), (0, [(3, 1)]))], []), [(5, [], some (.inl (.inr (0, [(4, 1)]))), [(116, (0, []), (1, [])), (208, (39614081266355540835774234624, [(0, 18446744073709551616), (1, 4294967296), (2, 1)]), (0, [(4, 1)]))], [])], [29, 30], 4, 180)
def ceX8least : ck_N := ((43), (5, [(2147483648, [(0, 1)]), (2147483647, [(0, (-1))]), (2147483648, [(1, 1)]), (2147483647, [(1, (-1))]), (2147483648, [(2, 1)]), (2147483647, [(2, (-1))]), (2147483648, [(3, 1)]), (2147483647, [(3, (-1))]), ((-1), [(4, 1)]), (1, [(4, (-1))])], [.inr (.inl (some 0)), .inl (.inl (0, [(0, 1)])), .inl (.inl (0, [(1, 1)])), .inl (.inl (0, [(2, 1)])), .inl (.inl (0, [(3, 1)]))], [(116, (0, []), (0, [(4, 1)]))], []), [(6, [], some (.inl (.inl (0, [(5, 1)]))), [(116, (0, []), (1, [])), (209, (170141183500083312998042844551658340352, [(0, 79228162514264337593543950336), (1, 18446744073709551616), (2, 4294967296), (3, 1)]), (0, [(5, 1)]))], [])], [29, 30], 4, 180)
def ceXrows : ck_N := ((154), (3, [(2147483648, [(0, 1)]), (2147483647, [(0, (-1))]), (2147483648, [(1, 1)]), (2147483647, [(1, (-1))]), (2147483648, [(2, 1)]), (2147483647, [(2, (-1))])], [.inr (.inl (some 58)), .inl (.inl (0, [(0, 1)])), .inl (.inl (0, [(1, 1)])), .inl (.inl (0, [(2, 1)]))], [], [0, 1, 2, 3]), [(4, [], some (.inl (.inr (0, [(3, 1)]))), [(208, (39614081266355540835774234624, [(0, 18446744073709551616), (1, 4294967296), (2, 1)]), (0, [(3, 1)]))], [0, 1, 2, 3])], [58, 82], 2, 70)
def ceXleast : ck_N := ((155), (4, [(2147483648, [(0, 1)]), (2147483647, [(0, (-1))]), (2147483648, [(1, 1)]), (2147483647, [(1, (-1))]), (2147483648, [(2, 1)]), (2147483647, [(2, (-1))]), (2147483648, [(3, 1)]), (2147483647, [(3, (-1))])], [.inr (.inl (some 58)), .inl (.inl (0, [(0, 1)])), .inl (.inl (0, [(1, 1)])), .inl (.inl (0, [(2, 1)])), .inl (.inl (0, [(3, 1)]))], [], [0, 1, 2, 3]), [(5, [], some (.inl (.inl (0, [(4, 1)]))), [(209, (170141183500083312998042844551658340352, [(0, 79228162514264337593543950336), (1, 18446744073709551616), (2, 4294967296), (3, 1)]), (0, [(4, 1)]))], [0, 1, 2, 3])], [58, 82], 2, 70)
def jw_bc (s : Nat) : Nat := jw_sum (fun m => if s.testBit m then 1 else 0) 8
theorem jb_sh : ∀ k, k < 9 → (1 : Int32) <<< (nI k &&& 31) = nI (2 ^ k) := by decide +kernel
theorem jb_U : ∀ p, p < 9 → ∀ s, s < 2 ^ p → jw_U p s + jw_bc s = p := by decide +kernel
theorem jb_U0 : ∀ p, p < 9 → ∀ s, s < 2 ^ p - 1 → 0 < jw_U p s := by decide +kernel
theorem jb_Uf : ∀ p, p < 9 → jw_U p (2 ^ p - 1) = 0 := by decide +kernel
theorem jb_p2 : ∀ p, p < 9 → 1 ≤ 2 ^ p ∧ 2 ^ p ≤ 256 := by decide +kernel
theorem jb_or1 : ∀ p, p < 9 → ∀ s, s < 2 ^ p → ∀ m, m < p → (s ||| 2 ^ m) < 2 ^ p := by decide +kernel
theorem jb_or2 : ∀ s, s < 256 → ∀ m, m < 8 → s.testBit m = true → (s ||| 2 ^ m) = s := by decide +kernel
theorem jb_or3 : ∀ s, s < 256 → ∀ m, m < 8 → s.testBit m = false → s < (s ||| 2 ^ m) := by decide +kernel
theorem jb_or (p : Nat) (hp : p < 9) (s : Nat) (hs : s < 2 ^ p) (m : Nat) (hm : m < p) : (s ||| 2 ^ m) < 2 ^ p ∧ (s.testBit m = true → (s ||| 2 ^ m) = s) ∧ (s.testBit m = false → s < (s ||| 2 ^ m)) := by
  have h1 := (jb_p2 p hp).2
  exact ⟨jb_or1 p hp s hs m hm, jb_or2 s (by omega) m (by omega), jb_or3 s (by omega) m (by omega)⟩
theorem jb_ne0 {p : Nat} (h : 1 ≤ p) (h2 : p < 100) : ¬ nI p = 0 := nI_ne0 (by omega) (by omega)
theorem jb_cl {k : Nat} (h : k < 100000) : (nI k).toNatClampNeg = k := nI_clamp (by omega)
theorem jb_in {k z : Nat} (h : k < z) (hz : z ≤ 100000) : vp_in (nI k) z := vp_in_nI h (by omega)
theorem jb_nor (a b : Nat) : nI a ||| nI b = nI (a ||| b) := by
  unfold nI
  apply Int32.toBitVec_inj.mp
  rw [Int32.toBitVec_or]
  show BitVec.ofNat 32 a ||| BitVec.ofNat 32 b = BitVec.ofNat 32 (a ||| b)
  apply BitVec.eq_of_getLsbD_eq
  intro i hi
  simp [BitVec.getLsbD_or, BitVec.getLsbD_ofNat, hi]
theorem jv_lpk {l : Launch} {D : va_G} {cl : List vw_C} {kp : Nat → ClassId} {G : jv_G} {cs ss n : Nat} {E : Nat → jv_E} {pc : Nat} {lv lv2 : List (Nat × Value)} {st : List Value} (ks : List Nat) (h : lv_pick lv ks = lv2) (k : jv_V l D cl kp G cs ss n E pc lv2 st) : jv_V l D cl kp G cs ss n E pc lv st := by
  have hm : ∀ q ∈ lv2, q ∈ lv := fun q hq => by
    rw [← h] at hq
    obtain ⟨i, -, hi⟩ := List.mem_filterMap.mp hq
    exact List.mem_of_getElem? hi
  obtain ⟨p, e, R, s, m, args, below, meth, c, A, nL, n0, f0, Q⟩ := G
  intro f H locs ls hP hD hS hE hL hs hn hf hl
  exact k f H locs ls hP hD hS hE (fun q hq => hL q (hm q hq)) hs hn hf ⟨hl.1, hl.2.1, fun q hq => by
    obtain ⟨u, hu, rfl⟩ := List.mem_map.mp hq
    exact hl.2.2 _ (List.mem_map.mpr ⟨u, hm u hu, rfl⟩)⟩
theorem jb_W {P T k t : Nat} (h : 0 < jw_U P k) : jw_W P T (jw_U P k) k (t : Int) = jw_sum (jb_term P T k t) (T + 1) := by
  obtain ⟨r, hr⟩ : ∃ r, jw_U P k = r + 1 := ⟨jw_U P k - 1, by omega⟩
  unfold jb_term
  rw [hr, jw_W]
  rfl
theorem jb_of {x : Int32} (h0 : 0 ≤ x.toInt) : x = nI x.toInt.toNat := by
  have h1 := Int32.toInt_lt x
  refine jv_r_eq ?_
  rw [nI_toInt (by omega)]
  omega
theorem jb_lt {P T : Nat} {t : Int} (hP2 : P < 9) (hT : T < 10) : jw_W P T P 0 t < 2 ^ 31 := by
  have h1 := jw_bd (p := P) (top := T) (by omega) P 0 t
  have h2 : 10 ^ P ≤ 10 ^ 8 := Nat.pow_le_pow_right (by omega) (by omega)
  omega
theorem jb_of2 {x : Int32} {m : Nat} (h0 : 0 ≤ x.toInt) (h1 : x.toInt ≤ m) : ∃ P, P ≤ m ∧ x = nI P ∧ x.toInt = P := ⟨x.toInt.toNat, by omega, jb_of h0, by omega⟩
theorem jv_t64 (x : Int32) : x.toInt64.toInt = x.toInt := Int32.toInt_toInt64 x
theorem hc_g {i o idx mid : Nat} (h : ck_rok (o, idx, 1, mid)) : GoodIn (ck_ws i) (va_wsS (ck_nm o) idx (ck_my mid) (ck_ws mid)) := by
  obtain ⟨⟨hcode, hini, hn1, hn2⟩, hlink, hstat, hpar⟩ := h
  intro w hw
  rcases List.mem_append.mp hw with hw | hw
  · simp only [List.mem_cons, List.not_mem_nil, or_false] at hw
    rcases hw with rfl | rfl | rfl
    · exact ck_goodw hlink
    · exact ck_goodw hstat
    · exact ck_goodw hini
  · exact ck_goodws hcode w hw
theorem hc_v {i o idx mid : Nat} (h : ck_rok (o, idx, 0, mid)) : GoodIn (ck_ws i) (wsV (ck_nm o) idx (ck_my mid).cls (ck_my mid) (ck_ws mid)) := by
  obtain ⟨⟨hcode, hini, hn1, hn2⟩, hlink, hinst, hsel, -, hpar⟩ := h
  intro w hw
  rcases List.mem_append.mp hw with hw | hw
  · simp only [List.mem_cons, List.not_mem_nil, or_false] at hw
    rcases hw with rfl | rfl | rfl | rfl
    · exact ck_goodw hlink
    · exact ck_goodw hinst
    · exact ck_goodw hsel
    · exact ck_goodw hini
  · exact ck_goodws hcode w hw
theorem hc_f40 {i : Nat} : Cond.fieldLink RX9 86 (TX9 40).1 (TX9 40).2.1 (TX9 40).2.2.1 ∈ ck_ws i := by
  obtain ⟨C0, T, M, hc, -, -, hw, -⟩ := fo136
  have hc : some (RX9, TX9, 46) = some (C0, T, M) := hc
  cases hc
  exact ck_wsin hw
theorem hc_f0 {i : Nat} : Cond.fieldLink RX9 92 (TX9 0).1 (TX9 0).2.1 (TX9 0).2.2.1 ∈ ck_ws i := by
  obtain ⟨C0, T, M, hc, -, -, hw, -⟩ := fo138
  have hc : some (RX9, TX9, 46) = some (C0, T, M) := hc
  cases hc
  exact ck_wsin hw
theorem hc_in {i : Nat} : ∀ w ∈ u_ws RX9 TX9 46, w ∈ ck_ws i := fun w h => ck_wsin (inA9 w h)
theorem dX9_in_0 : decode cX9_in 0 = .ok (.lload_n 0, 1) := by decide +kernel
theorem dX9_in_1 : decode cX9_in 1 = .ok (.lload_n 2, 1) := by decide +kernel
theorem dX9_in_2 : decode cX9_in 2 = .ok (.lcmp, 1) := by decide +kernel
theorem dX9_in_3 : decode cX9_in 3 = .ok (.ifCond .lt 14, 3) := by decide +kernel
theorem dX9_in_6 : decode cX9_in 6 = .ok (.lload_n 0, 1) := by decide +kernel
theorem dX9_in_7 : decode cX9_in 7 = .ok (.lload 4, 2) := by decide +kernel
theorem dX9_in_9 : decode cX9_in 9 = .ok (.lcmp, 1) := by decide +kernel
theorem dX9_in_10 : decode cX9_in 10 = .ok (.ifCond .gt 7, 3) := by decide +kernel
theorem dX9_in_13 : decode cX9_in 13 = .ok (.iconst 1, 1) := by decide +kernel
theorem dX9_in_14 : decode cX9_in 14 = .ok (.goto 4, 3) := by decide +kernel
theorem dX9_in_17 : decode cX9_in 17 = .ok (.iconst 0, 1) := by decide +kernel
theorem dX9_in_18 : decode cX9_in 18 = .ok (.ireturn, 1) := by decide +kernel
theorem q_X9_in : yX9_in.cls ≠ "java/lang/invoke/MethodHandle" ∧ yX9_in.cls ≠ "java/lang/invoke/VarHandle" ∧ (parseMethodDescriptor yX9_in.desc).map (fun d => d.parameters.length) = some 3 := by decide +kernel
theorem dX9_at_0 : decode cX9_at 0 = .ok (.bipush 73, 2) := by decide +kernel
theorem dX9_at_2 : decode cX9_at 2 = .ok (.iload_n 0, 1) := by decide +kernel
theorem dX9_at_3 : decode cX9_at 3 = .ok (.imul, 1) := by decide +kernel
theorem dX9_at_4 : decode cX9_at 4 = .ok (.iload_n 1, 1) := by decide +kernel
theorem dX9_at_5 : decode cX9_at 5 = .ok (.iadd, 1) := by decide +kernel
theorem dX9_at_6 : decode cX9_at 6 = .ok (.ireturn, 1) := by decide +kernel
theorem q_X9_at : yX9_at.cls ≠ "java/lang/invoke/MethodHandle" ∧ yX9_at.cls ≠ "java/lang/invoke/VarHandle" ∧ (parseMethodDescriptor yX9_at.desc).map (fun d => d.parameters.length) = some 2 := by decide +kernel
theorem dX9_laysRows_0 : decode cX9_laysRows 0 = .ok (.iconst 1, 1) := by decide +kernel
theorem dX9_laysRows_1 : decode cX9_laysRows 1 = .ok (.iload_n 1, 1) := by decide +kernel
theorem dX9_laysRows_2 : decode cX9_laysRows 2 = .ok (.ishl, 1) := by decide +kernel
theorem dX9_laysRows_3 : decode cX9_laysRows 3 = .ok (.iconst 1, 1) := by decide +kernel
theorem dX9_laysRows_4 : decode cX9_laysRows 4 = .ok (.isub, 1) := by decide +kernel
theorem dX9_laysRows_5 : decode cX9_laysRows 5 = .ok (.istore 4, 2) := by decide +kernel
theorem dX9_laysRows_7 : decode cX9_laysRows 7 = .ok (.iload 4, 2) := by decide +kernel
theorem dX9_laysRows_9 : decode cX9_laysRows 9 = .ok (.istore 5, 2) := by decide +kernel
theorem dX9_laysRows_11 : decode cX9_laysRows 11 = .ok (.iload 5, 2) := by decide +kernel
theorem dX9_laysRows_13 : decode cX9_laysRows 13 = .ok (.ifCond .lt 137, 3) := by decide +kernel
theorem dX9_laysRows_16 : decode cX9_laysRows 16 = .ok (.iload 5, 2) := by decide +kernel
theorem dX9_laysRows_18 : decode cX9_laysRows 18 = .ok (.invokestatic 362, 3) := by decide +kernel
theorem dX9_laysRows_21 : decode cX9_laysRows 21 = .ok (.istore 6, 2) := by decide +kernel
theorem dX9_laysRows_23 : decode cX9_laysRows 23 = .ok (.iconst 0, 1) := by decide +kernel
theorem dX9_laysRows_24 : decode cX9_laysRows 24 = .ok (.istore 7, 2) := by decide +kernel
theorem dX9_laysRows_26 : decode cX9_laysRows 26 = .ok (.iload 7, 2) := by decide +kernel
theorem dX9_laysRows_28 : decode cX9_laysRows 28 = .ok (.iload_n 1, 1) := by decide +kernel
theorem dX9_laysRows_29 : decode cX9_laysRows 29 = .ok (.iload_n 2, 1) := by decide +kernel
theorem dX9_laysRows_30 : decode cX9_laysRows 30 = .ok (.imul, 1) := by decide +kernel
theorem dX9_laysRows_31 : decode cX9_laysRows 31 = .ok (.if_icmp .gt 113, 3) := by decide +kernel
theorem dX9_laysRows_34 : decode cX9_laysRows 34 = .ok (.iload 5, 2) := by decide +kernel
theorem dX9_laysRows_36 : decode cX9_laysRows 36 = .ok (.iload 4, 2) := by decide +kernel
theorem dX9_laysRows_38 : decode cX9_laysRows 38 = .ok (.if_icmp .ne 12, 3) := by decide +kernel
theorem dX9_laysRows_41 : decode cX9_laysRows 41 = .ok (.iload 7, 2) := by decide +kernel
theorem dX9_laysRows_43 : decode cX9_laysRows 43 = .ok (.ifCond .ne 7, 3) := by decide +kernel
theorem dX9_laysRows_46 : decode cX9_laysRows 46 = .ok (.lconst 1, 1) := by decide +kernel
theorem dX9_laysRows_47 : decode cX9_laysRows 47 = .ok (.goto 4, 3) := by decide +kernel
theorem dX9_laysRows_50 : decode cX9_laysRows 50 = .ok (.lconst 0, 1) := by decide +kernel
theorem dX9_laysRows_51 : decode cX9_laysRows 51 = .ok (.lstore 8, 2) := by decide +kernel
theorem dX9_laysRows_53 : decode cX9_laysRows 53 = .ok (.iconst 0, 1) := by decide +kernel
theorem dX9_laysRows_54 : decode cX9_laysRows 54 = .ok (.istore 10, 2) := by decide +kernel
theorem dX9_laysRows_56 : decode cX9_laysRows 56 = .ok (.iload 10, 2) := by decide +kernel
theorem dX9_laysRows_58 : decode cX9_laysRows 58 = .ok (.iload_n 3, 1) := by decide +kernel
theorem dX9_laysRows_59 : decode cX9_laysRows 59 = .ok (.if_icmp .gt 65, 3) := by decide +kernel
theorem dX9_laysRows_62 : decode cX9_laysRows 62 = .ok (.iload 10, 2) := by decide +kernel
theorem dX9_laysRows_64 : decode cX9_laysRows 64 = .ok (.iload 7, 2) := by decide +kernel
theorem dX9_laysRows_66 : decode cX9_laysRows 66 = .ok (.if_icmp .gt 58, 3) := by decide +kernel
theorem dX9_laysRows_69 : decode cX9_laysRows 69 = .ok (.iload 5, 2) := by decide +kernel
theorem dX9_laysRows_71 : decode cX9_laysRows 71 = .ok (.iload 4, 2) := by decide +kernel
theorem dX9_laysRows_73 : decode cX9_laysRows 73 = .ok (.if_icmp .eq 51, 3) := by decide +kernel
theorem dX9_laysRows_76 : decode cX9_laysRows 76 = .ok (.iconst 1, 1) := by decide +kernel
theorem dX9_laysRows_77 : decode cX9_laysRows 77 = .ok (.iload 6, 2) := by decide +kernel
theorem dX9_laysRows_79 : decode cX9_laysRows 79 = .ok (.iload 10, 2) := by decide +kernel
theorem dX9_laysRows_81 : decode cX9_laysRows 81 = .ok (.iadd, 1) := by decide +kernel
theorem dX9_laysRows_82 : decode cX9_laysRows 82 = .ok (.iload_n 1, 1) := by decide +kernel
theorem dX9_laysRows_83 : decode cX9_laysRows 83 = .ok (.irem, 1) := by decide +kernel
theorem dX9_laysRows_84 : decode cX9_laysRows 84 = .ok (.ishl, 1) := by decide +kernel
theorem dX9_laysRows_85 : decode cX9_laysRows 85 = .ok (.istore 11, 2) := by decide +kernel
theorem dX9_laysRows_87 : decode cX9_laysRows 87 = .ok (.iload 5, 2) := by decide +kernel
theorem dX9_laysRows_89 : decode cX9_laysRows 89 = .ok (.iload 11, 2) := by decide +kernel
theorem dX9_laysRows_91 : decode cX9_laysRows 91 = .ok (.iand, 1) := by decide +kernel
theorem dX9_laysRows_92 : decode cX9_laysRows 92 = .ok (.ifCond .ne 26, 3) := by decide +kernel
theorem dX9_laysRows_95 : decode cX9_laysRows 95 = .ok (.lload 8, 2) := by decide +kernel
theorem dX9_laysRows_97 : decode cX9_laysRows 97 = .ok (.aload_n 0, 1) := by decide +kernel
theorem dX9_laysRows_98 : decode cX9_laysRows 98 = .ok (.getfield 86, 3) := by decide +kernel
theorem dX9_laysRows_101 : decode cX9_laysRows 101 = .ok (.iload 5, 2) := by decide +kernel
theorem dX9_laysRows_103 : decode cX9_laysRows 103 = .ok (.iload 11, 2) := by decide +kernel
theorem dX9_laysRows_105 : decode cX9_laysRows 105 = .ok (.ior, 1) := by decide +kernel
theorem dX9_laysRows_106 : decode cX9_laysRows 106 = .ok (.iload 7, 2) := by decide +kernel
theorem dX9_laysRows_108 : decode cX9_laysRows 108 = .ok (.iload 10, 2) := by decide +kernel
theorem dX9_laysRows_110 : decode cX9_laysRows 110 = .ok (.isub, 1) := by decide +kernel
theorem dX9_laysRows_111 : decode cX9_laysRows 111 = .ok (.invokestatic 365, 3) := by decide +kernel
theorem dX9_laysRows_114 : decode cX9_laysRows 114 = .ok (.laload, 1) := by decide +kernel
theorem dX9_laysRows_115 : decode cX9_laysRows 115 = .ok (.ladd, 1) := by decide +kernel
theorem dX9_laysRows_116 : decode cX9_laysRows 116 = .ok (.lstore 8, 2) := by decide +kernel
theorem dX9_laysRows_118 : decode cX9_laysRows 118 = .ok (.iinc 10 1, 3) := by decide +kernel
theorem dX9_laysRows_121 : decode cX9_laysRows 121 = .ok (.goto (-65), 3) := by decide +kernel
theorem dX9_laysRows_124 : decode cX9_laysRows 124 = .ok (.aload_n 0, 1) := by decide +kernel
theorem dX9_laysRows_125 : decode cX9_laysRows 125 = .ok (.getfield 86, 3) := by decide +kernel
theorem dX9_laysRows_128 : decode cX9_laysRows 128 = .ok (.iload 5, 2) := by decide +kernel
theorem dX9_laysRows_130 : decode cX9_laysRows 130 = .ok (.iload 7, 2) := by decide +kernel
theorem dX9_laysRows_132 : decode cX9_laysRows 132 = .ok (.invokestatic 365, 3) := by decide +kernel
theorem dX9_laysRows_135 : decode cX9_laysRows 135 = .ok (.lload 8, 2) := by decide +kernel
theorem dX9_laysRows_137 : decode cX9_laysRows 137 = .ok (.lastore, 1) := by decide +kernel
theorem dX9_laysRows_138 : decode cX9_laysRows 138 = .ok (.iinc 7 1, 3) := by decide +kernel
theorem dX9_laysRows_141 : decode cX9_laysRows 141 = .ok (.goto (-115), 3) := by decide +kernel
theorem dX9_laysRows_144 : decode cX9_laysRows 144 = .ok (.iinc 5 (-1), 3) := by decide +kernel
theorem dX9_laysRows_147 : decode cX9_laysRows 147 = .ok (.goto (-136), 3) := by decide +kernel
theorem dX9_laysRows_150 : decode cX9_laysRows 150 = .ok (.return_, 1) := by decide +kernel
theorem q_X9_laysRows : yX9_laysRows.cls ≠ "java/lang/invoke/MethodHandle" ∧ yX9_laysRows.cls ≠ "java/lang/invoke/VarHandle" ∧ (parseMethodDescriptor yX9_laysRows.desc).map (fun d => d.parameters.length) = some 3 := by decide +kernel
theorem dX9_bitsOf_0 : decode cX9_bitsOf 0 = .ok (.iconst 0, 1) := by decide +kernel
theorem dX9_bitsOf_1 : decode cX9_bitsOf 1 = .ok (.istore_n 1, 1) := by decide +kernel
theorem dX9_bitsOf_2 : decode cX9_bitsOf 2 = .ok (.iload_n 0, 1) := by decide +kernel
theorem dX9_bitsOf_3 : decode cX9_bitsOf 3 = .ok (.istore_n 2, 1) := by decide +kernel
theorem dX9_bitsOf_4 : decode cX9_bitsOf 4 = .ok (.iload_n 2, 1) := by decide +kernel
theorem dX9_bitsOf_5 : decode cX9_bitsOf 5 = .ok (.ifCond .eq 15, 3) := by decide +kernel
theorem dX9_bitsOf_8 : decode cX9_bitsOf 8 = .ok (.iinc 1 1, 3) := by decide +kernel
theorem dX9_bitsOf_11 : decode cX9_bitsOf 11 = .ok (.iload_n 2, 1) := by decide +kernel
theorem dX9_bitsOf_12 : decode cX9_bitsOf 12 = .ok (.iload_n 2, 1) := by decide +kernel
theorem dX9_bitsOf_13 : decode cX9_bitsOf 13 = .ok (.iconst 1, 1) := by decide +kernel
theorem dX9_bitsOf_14 : decode cX9_bitsOf 14 = .ok (.isub, 1) := by decide +kernel
theorem dX9_bitsOf_15 : decode cX9_bitsOf 15 = .ok (.iand, 1) := by decide +kernel
theorem dX9_bitsOf_16 : decode cX9_bitsOf 16 = .ok (.istore_n 2, 1) := by decide +kernel
theorem dX9_bitsOf_17 : decode cX9_bitsOf 17 = .ok (.goto (-13), 3) := by decide +kernel
theorem dX9_bitsOf_20 : decode cX9_bitsOf 20 = .ok (.iload_n 1, 1) := by decide +kernel
theorem dX9_bitsOf_21 : decode cX9_bitsOf 21 = .ok (.ireturn, 1) := by decide +kernel
theorem q_X9_bitsOf : yX9_bitsOf.cls ≠ "java/lang/invoke/MethodHandle" ∧ yX9_bitsOf.cls ≠ "java/lang/invoke/VarHandle" ∧ (parseMethodDescriptor yX9_bitsOf.desc).map (fun d => d.parameters.length) = some 1 := by decide +kernel
theorem dX9_areRows_0 : decode cX9_areRows 0 = .ok (.iload_n 0, 1) := by decide +kernel
theorem dX9_areRows_1 : decode cX9_areRows 1 = .ok (.i2l, 1) := by decide +kernel
theorem dX9_areRows_2 : decode cX9_areRows 2 = .ok (.lconst 1, 1) := by decide +kernel
theorem dX9_areRows_3 : decode cX9_areRows 3 = .ok (.ldc2_w 367, 3) := by decide +kernel
theorem dX9_areRows_6 : decode cX9_areRows 6 = .ok (.invokestatic 97, 3) := by decide +kernel
theorem dX9_areRows_9 : decode cX9_areRows 9 = .ok (.ifCond .eq 31, 3) := by decide +kernel
theorem dX9_areRows_12 : decode cX9_areRows 12 = .ok (.iload_n 1, 1) := by decide +kernel
theorem dX9_areRows_13 : decode cX9_areRows 13 = .ok (.i2l, 1) := by decide +kernel
theorem dX9_areRows_14 : decode cX9_areRows 14 = .ok (.lconst 0, 1) := by decide +kernel
theorem dX9_areRows_15 : decode cX9_areRows 15 = .ok (.ldc2_w 182, 3) := by decide +kernel
theorem dX9_areRows_18 : decode cX9_areRows 18 = .ok (.invokestatic 97, 3) := by decide +kernel
theorem dX9_areRows_21 : decode cX9_areRows 21 = .ok (.ifCond .eq 19, 3) := by decide +kernel
theorem dX9_areRows_24 : decode cX9_areRows 24 = .ok (.iload_n 2, 1) := by decide +kernel
theorem dX9_areRows_25 : decode cX9_areRows 25 = .ok (.i2l, 1) := by decide +kernel
theorem dX9_areRows_26 : decode cX9_areRows 26 = .ok (.lconst 0, 1) := by decide +kernel
theorem dX9_areRows_27 : decode cX9_areRows 27 = .ok (.ldc2_w 182, 3) := by decide +kernel
theorem dX9_areRows_30 : decode cX9_areRows 30 = .ok (.invokestatic 97, 3) := by decide +kernel
theorem dX9_areRows_33 : decode cX9_areRows 33 = .ok (.ifCond .eq 7, 3) := by decide +kernel
theorem dX9_areRows_36 : decode cX9_areRows 36 = .ok (.iconst 1, 1) := by decide +kernel
theorem dX9_areRows_37 : decode cX9_areRows 37 = .ok (.goto 4, 3) := by decide +kernel
theorem dX9_areRows_40 : decode cX9_areRows 40 = .ok (.iconst 0, 1) := by decide +kernel
theorem dX9_areRows_41 : decode cX9_areRows 41 = .ok (.ireturn, 1) := by decide +kernel
theorem q_X9_areRows : yX9_areRows.cls ≠ "java/lang/invoke/MethodHandle" ∧ yX9_areRows.cls ≠ "java/lang/invoke/VarHandle" ∧ (parseMethodDescriptor yX9_areRows.desc).map (fun d => d.parameters.length) = some 3 := by decide +kernel
theorem dX9_least_0 : decode cX9_least 0 = .ok (.aload_n 0, 1) := by decide +kernel
theorem dX9_least_1 : decode cX9_least 1 = .ok (.iconst 0, 1) := by decide +kernel
theorem dX9_least_2 : decode cX9_least 2 = .ok (.putfield 92, 3) := by decide +kernel
theorem dX9_least_5 : decode cX9_least 5 = .ok (.iload_n 1, 1) := by decide +kernel
theorem dX9_least_6 : decode cX9_least 6 = .ok (.iload_n 2, 1) := by decide +kernel
theorem dX9_least_7 : decode cX9_least 7 = .ok (.iload_n 3, 1) := by decide +kernel
theorem dX9_least_8 : decode cX9_least 8 = .ok (.invokestatic 369, 3) := by decide +kernel
theorem dX9_least_11 : decode cX9_least 11 = .ok (.ifCond .eq 17, 3) := by decide +kernel
theorem dX9_least_14 : decode cX9_least 14 = .ok (.iload 4, 2) := by decide +kernel
theorem dX9_least_16 : decode cX9_least 16 = .ok (.i2l, 1) := by decide +kernel
theorem dX9_least_17 : decode cX9_least 17 = .ok (.lconst 0, 1) := by decide +kernel
theorem dX9_least_18 : decode cX9_least 18 = .ok (.iload_n 1, 1) := by decide +kernel
theorem dX9_least_19 : decode cX9_least 19 = .ok (.iconst 1, 1) := by decide +kernel
theorem dX9_least_20 : decode cX9_least 20 = .ok (.isub, 1) := by decide +kernel
theorem dX9_least_21 : decode cX9_least 21 = .ok (.i2l, 1) := by decide +kernel
theorem dX9_least_22 : decode cX9_least 22 = .ok (.invokestatic 97, 3) := by decide +kernel
theorem dX9_least_25 : decode cX9_least 25 = .ok (.ifCond .ne 6, 3) := by decide +kernel
theorem dX9_least_28 : decode cX9_least 28 = .ok (.bipush (-2), 2) := by decide +kernel
theorem dX9_least_30 : decode cX9_least 30 = .ok (.ireturn, 1) := by decide +kernel
theorem dX9_least_31 : decode cX9_least 31 = .ok (.aload_n 0, 1) := by decide +kernel
theorem dX9_least_32 : decode cX9_least 32 = .ok (.iload_n 1, 1) := by decide +kernel
theorem dX9_least_33 : decode cX9_least 33 = .ok (.iload_n 2, 1) := by decide +kernel
theorem dX9_least_34 : decode cX9_least 34 = .ok (.iload_n 3, 1) := by decide +kernel
theorem dX9_least_35 : decode cX9_least 35 = .ok (.invokevirtual 372, 3) := by decide +kernel
theorem dX9_least_38 : decode cX9_least 38 = .ok (.aload_n 0, 1) := by decide +kernel
theorem dX9_least_39 : decode cX9_least 39 = .ok (.getfield 86, 3) := by decide +kernel
theorem dX9_least_42 : decode cX9_least 42 = .ok (.iconst 0, 1) := by decide +kernel
theorem dX9_least_43 : decode cX9_least 43 = .ok (.iload_n 1, 1) := by decide +kernel
theorem dX9_least_44 : decode cX9_least 44 = .ok (.iload_n 2, 1) := by decide +kernel
theorem dX9_least_45 : decode cX9_least 45 = .ok (.imul, 1) := by decide +kernel
theorem dX9_least_46 : decode cX9_least 46 = .ok (.invokestatic 365, 3) := by decide +kernel
theorem dX9_least_49 : decode cX9_least 49 = .ok (.laload, 1) := by decide +kernel
theorem dX9_least_50 : decode cX9_least 50 = .ok (.lconst 0, 1) := by decide +kernel
theorem dX9_least_51 : decode cX9_least 51 = .ok (.lcmp, 1) := by decide +kernel
theorem dX9_least_52 : decode cX9_least 52 = .ok (.ifCond .ne 5, 3) := by decide +kernel
theorem dX9_least_55 : decode cX9_least 55 = .ok (.iconst (-1), 1) := by decide +kernel
theorem dX9_least_56 : decode cX9_least 56 = .ok (.ireturn, 1) := by decide +kernel
theorem dX9_least_57 : decode cX9_least 57 = .ok (.iconst 0, 1) := by decide +kernel
theorem dX9_least_58 : decode cX9_least 58 = .ok (.istore 5, 2) := by decide +kernel
theorem dX9_least_60 : decode cX9_least 60 = .ok (.iload_n 1, 1) := by decide +kernel
theorem dX9_least_61 : decode cX9_least 61 = .ok (.iload_n 2, 1) := by decide +kernel
theorem dX9_least_62 : decode cX9_least 62 = .ok (.imul, 1) := by decide +kernel
theorem dX9_least_63 : decode cX9_least 63 = .ok (.istore 6, 2) := by decide +kernel
theorem dX9_least_65 : decode cX9_least 65 = .ok (.iconst 0, 1) := by decide +kernel
theorem dX9_least_66 : decode cX9_least 66 = .ok (.istore 7, 2) := by decide +kernel
theorem dX9_least_68 : decode cX9_least 68 = .ok (.iconst 0, 1) := by decide +kernel
theorem dX9_least_69 : decode cX9_least 69 = .ok (.istore 8, 2) := by decide +kernel
theorem dX9_least_71 : decode cX9_least 71 = .ok (.iload 8, 2) := by decide +kernel
theorem dX9_least_73 : decode cX9_least 73 = .ok (.iload 4, 2) := by decide +kernel
theorem dX9_least_75 : decode cX9_least 75 = .ok (.if_icmp .gt 85, 3) := by decide +kernel
theorem dX9_least_78 : decode cX9_least 78 = .ok (.iconst 0, 1) := by decide +kernel
theorem dX9_least_79 : decode cX9_least 79 = .ok (.istore 7, 2) := by decide +kernel
theorem dX9_least_81 : decode cX9_least 81 = .ok (.iload 5, 2) := by decide +kernel
theorem dX9_least_83 : decode cX9_least 83 = .ok (.iload 8, 2) := by decide +kernel
theorem dX9_least_85 : decode cX9_least 85 = .ok (.iload 7, 2) := by decide +kernel
theorem dX9_least_87 : decode cX9_least 87 = .ok (.iadd, 1) := by decide +kernel
theorem dX9_least_88 : decode cX9_least 88 = .ok (.iload_n 1, 1) := by decide +kernel
theorem dX9_least_89 : decode cX9_least 89 = .ok (.irem, 1) := by decide +kernel
theorem dX9_least_90 : decode cX9_least 90 = .ok (.ishr, 1) := by decide +kernel
theorem dX9_least_91 : decode cX9_least 91 = .ok (.iconst 1, 1) := by decide +kernel
theorem dX9_least_92 : decode cX9_least 92 = .ok (.iand, 1) := by decide +kernel
theorem dX9_least_93 : decode cX9_least 93 = .ok (.iconst 1, 1) := by decide +kernel
theorem dX9_least_94 : decode cX9_least 94 = .ok (.if_icmp .eq 33, 3) := by decide +kernel
theorem dX9_least_97 : decode cX9_least 97 = .ok (.aload_n 0, 1) := by decide +kernel
theorem dX9_least_98 : decode cX9_least 98 = .ok (.getfield 86, 3) := by decide +kernel
theorem dX9_least_101 : decode cX9_least 101 = .ok (.iload 5, 2) := by decide +kernel
theorem dX9_least_103 : decode cX9_least 103 = .ok (.iconst 1, 1) := by decide +kernel
theorem dX9_least_104 : decode cX9_least 104 = .ok (.iload 8, 2) := by decide +kernel
theorem dX9_least_106 : decode cX9_least 106 = .ok (.iload 7, 2) := by decide +kernel
theorem dX9_least_108 : decode cX9_least 108 = .ok (.iadd, 1) := by decide +kernel
theorem dX9_least_109 : decode cX9_least 109 = .ok (.iload_n 1, 1) := by decide +kernel
theorem dX9_least_110 : decode cX9_least 110 = .ok (.irem, 1) := by decide +kernel
theorem dX9_least_111 : decode cX9_least 111 = .ok (.ishl, 1) := by decide +kernel
theorem dX9_least_112 : decode cX9_least 112 = .ok (.ior, 1) := by decide +kernel
theorem dX9_least_113 : decode cX9_least 113 = .ok (.iload 6, 2) := by decide +kernel
theorem dX9_least_115 : decode cX9_least 115 = .ok (.iload 7, 2) := by decide +kernel
theorem dX9_least_117 : decode cX9_least 117 = .ok (.isub, 1) := by decide +kernel
theorem dX9_least_118 : decode cX9_least 118 = .ok (.invokestatic 365, 3) := by decide +kernel
theorem dX9_least_121 : decode cX9_least 121 = .ok (.laload, 1) := by decide +kernel
theorem dX9_least_122 : decode cX9_least 122 = .ok (.lconst 0, 1) := by decide +kernel
theorem dX9_least_123 : decode cX9_least 123 = .ok (.lcmp, 1) := by decide +kernel
theorem dX9_least_124 : decode cX9_least 124 = .ok (.ifCond .ne 9, 3) := by decide +kernel
theorem dX9_least_127 : decode cX9_least 127 = .ok (.iinc 7 1, 3) := by decide +kernel
theorem dX9_least_130 : decode cX9_least 130 = .ok (.goto (-49), 3) := by decide +kernel
theorem dX9_least_133 : decode cX9_least 133 = .ok (.iload 5, 2) := by decide +kernel
theorem dX9_least_135 : decode cX9_least 135 = .ok (.iconst 1, 1) := by decide +kernel
theorem dX9_least_136 : decode cX9_least 136 = .ok (.iload 8, 2) := by decide +kernel
theorem dX9_least_138 : decode cX9_least 138 = .ok (.iload 7, 2) := by decide +kernel
theorem dX9_least_140 : decode cX9_least 140 = .ok (.iadd, 1) := by decide +kernel
theorem dX9_least_141 : decode cX9_least 141 = .ok (.iload_n 1, 1) := by decide +kernel
theorem dX9_least_142 : decode cX9_least 142 = .ok (.irem, 1) := by decide +kernel
theorem dX9_least_143 : decode cX9_least 143 = .ok (.ishl, 1) := by decide +kernel
theorem dX9_least_144 : decode cX9_least 144 = .ok (.ior, 1) := by decide +kernel
theorem dX9_least_145 : decode cX9_least 145 = .ok (.istore 5, 2) := by decide +kernel
theorem dX9_least_147 : decode cX9_least 147 = .ok (.iload 6, 2) := by decide +kernel
theorem dX9_least_149 : decode cX9_least 149 = .ok (.iload 7, 2) := by decide +kernel
theorem dX9_least_151 : decode cX9_least 151 = .ok (.isub, 1) := by decide +kernel
theorem dX9_least_152 : decode cX9_least 152 = .ok (.istore 6, 2) := by decide +kernel
theorem dX9_least_154 : decode cX9_least 154 = .ok (.iinc 8 1, 3) := by decide +kernel
theorem dX9_least_157 : decode cX9_least 157 = .ok (.goto (-86), 3) := by decide +kernel
theorem dX9_least_160 : decode cX9_least 160 = .ok (.iload 7, 2) := by decide +kernel
theorem dX9_least_162 : decode cX9_least 162 = .ok (.ireturn, 1) := by decide +kernel
theorem q_X9_least : yX9_least.cls ≠ "java/lang/invoke/MethodHandle" ∧ yX9_least.cls ≠ "java/lang/invoke/VarHandle" ∧ (parseMethodDescriptor yX9_least.desc).map (fun d => d.parameters.length) = some 4 := by decide +kernel
theorem gX9_laysRows_X9_at : GoodIn (ck_ws 151) (va_wsS RX9 365 yX9_at (ck_ws 150)) := hc_g (o := 9) ro208
theorem gX9_laysRows_X9_bitsOf : GoodIn (ck_ws 151) (va_wsS RX9 362 yX9_bitsOf (ck_ws 152)) := hc_g (o := 9) ro207
theorem gX9_areRows_X9_in : GoodIn (ck_ws 153) (va_wsS RX9 97 yX9_in (ck_ws 62)) := hc_g (o := 9) ro156
theorem gX9_least_X9_areRows : GoodIn (ck_ws 155) (va_wsS RX9 369 yX9_areRows (ck_ws 153)) := hc_g (o := 9) ro209
theorem gX9_least_X9_in : GoodIn (ck_ws 155) (va_wsS RX9 97 yX9_in (ck_ws 62)) := hc_g (o := 9) ro156
theorem gX9_least_X9_at : GoodIn (ck_ws 155) (va_wsS RX9 365 yX9_at (ck_ws 150)) := hc_g (o := 9) ro208
theorem gX9_least_X9_laysRows : GoodIn (ck_ws 155) (wsV RX9 372 yX9_laysRows.cls yX9_laysRows (ck_ws 151)) := hc_v (o := 9) ro210
set_option maxRecDepth 100000 in
set_option maxHeartbeats 4000000 in
theorem c_X9_in (l : Launch) (D : va_G) (kp : Nat → ClassId) {n : Nat} {E : Nat → jv_E}  (p1 : Int64) (p2 : Int64) (p3 : Int64) (vi li hi : Int) (e1 : p1.toInt = vi) (e2 : p2.toInt = li) (e3 : p3.toInt = hi) : jv_M l D vwCl kp yX9_in (ck_ws 62) (ck_rm 0 0) ck_NN [.long p1, .long p2, .long p3] n E 0 0 (fun r n1 E1 => ((some (.int 1) = r ∧ li ≤ vi ∧ vi ≤ hi) ∨ (some (.int 0) = r ∧ (vi < li ∨ hi < vi))) ∧ n = n1 ∧ E = E1) := by
  refine jv_of (cc := cX9_in) (maxL := 6) (rt := some .boolean) (by decide) rfl (Nat.le_of_ble_eq_true rfl) (fun G C B hI hnl => ?_)
  show jv_V l D vwCl kp G 0 0 n E 0 [(0, .long p1), (2, .long p2), (4, .long p3)] []
  refine jv_lload_n C dX9_in_0 0 rfl ?_
  refine jv_lload_n C dX9_in_1 1 rfl ?_
  refine jv_lcmp C dX9_in_2 ?_
  refine jv_if_lt (tgt := 17) C dX9_in_3 (by decide) (fun c1 => ?_) (fun c1 => ?_)
  · refine jv_iconst (v := 0) C dX9_in_17 (by decide) ?_
    exact jv_zret C B (by decide) ⟨Or.inr ⟨rfl, by subst e1; subst e2; subst e3; have a0 := jv_lc_lt c1; omega⟩, rfl, rfl⟩ ⟨by decide, by decide⟩ dX9_in_18
  · refine jv_lload_n C dX9_in_6 0 rfl ?_
    refine jv_lload C dX9_in_7 2 rfl ?_
    refine jv_lcmp C dX9_in_9 ?_
    refine jv_if_gt (tgt := 17) C dX9_in_10 (by decide) (fun c2 => ?_) (fun c2 => ?_)
    · refine jv_iconst (v := 0) C dX9_in_17 (by decide) ?_
      exact jv_zret C B (by decide) ⟨Or.inr ⟨rfl, by subst e1; subst e2; subst e3; have a0 := jv_lc_nlt c1; have a1 := jv_lc_gt c2; omega⟩, rfl, rfl⟩ ⟨by decide, by decide⟩ dX9_in_18
    · refine jv_iconst (v := 1) C dX9_in_13 (by decide) ?_
      refine jv_goto (tgt := 18) C dX9_in_14 (by decide) ?_
      exact jv_zret C B (by decide) ⟨Or.inl ⟨rfl, by subst e1; subst e2; subst e3; have a0 := jv_lc_nlt c1; have a1 := jv_lc_ngt c2; omega⟩, rfl, rfl⟩ ⟨by decide, by decide⟩ dX9_in_18
set_option maxRecDepth 100000 in
set_option maxHeartbeats 4000000 in
theorem c_X9_areRows (l : Launch) (D : va_G) (kp : Nat → ClassId) {n : Nat} {E : Nat → jv_E}  (p1 : Int32) (p2 : Int32) (p3 : Int32) : jv_M l D vwCl kp yX9_areRows (ck_ws 153) (ck_rm 1 30) ck_NN [.int p1, .int p2, .int p3] n E 0 0 (fun r n1 E1 => ((some (.int 1) = r ∧ (1 ≤ p1.toInt ∧ p1.toInt ≤ 8 ∧ 0 ≤ p2.toInt ∧ p2.toInt ≤ 9 ∧ 0 ≤ p3.toInt ∧ p3.toInt ≤ 9)) ∨ (some (.int 0) = r ∧ ¬ (1 ≤ p1.toInt ∧ p1.toInt ≤ 8 ∧ 0 ≤ p2.toInt ∧ p2.toInt ≤ 9 ∧ 0 ≤ p3.toInt ∧ p3.toInt ≤ 9))) ∧ n = n1 ∧ E = E1) := by
  refine jv_of (cc := cX9_areRows) (maxL := 3) (rt := some .boolean) (by decide) rfl (Nat.le_of_ble_eq_true rfl) (fun G C B hI hnl => ?_)
  show jv_V l D vwCl kp G 0 0 n E 0 [(0, .int p1), (1, .int p2), (2, .int p3)] []
  refine jv_iload_n C dX9_areRows_0 0 rfl ?_
  refine jv_i2l C dX9_areRows_1 ?_
  refine jv_lconst (v := 1) C dX9_areRows_2 (by decide) ?_
  refine jv_ldc2 (v := 8) C dX9_areRows_3 (by decide +kernel) ?_
  refine jv_callS (na := 3) (As := [.long p1.toInt64, .long 1, .long 8]) (st := []) C (c_X9_in l D kp p1.toInt64 1 8 p1.toInt 1 8 (jv_t64 p1) (by decide) (by decide)) gX9_areRows_X9_in rfl rfl rfl q_X9_in rfl ⟨by decide, by decide⟩ ⟨by decide, by decide⟩ (fun _ h => h) (Nat.le_of_ble_eq_true rfl) rfl dX9_areRows_6 (fun r n1 E_1 hp _ => ?_)
  obtain ⟨⟨rfl, q2⟩ | ⟨rfl, q2⟩, rfl, rfl⟩ := hp
  · show jv_V l D vwCl kp G 0 0 n E 9 [(0, .int p1), (1, .int p2), (2, .int p3)] [.int 1]
    refine jv_if_eq (tgt := 40) C dX9_areRows_9 (by decide) (fun h => absurd h (by decide)) (fun _ => ?_)
    refine jv_iload_n C dX9_areRows_12 1 rfl ?_
    refine jv_i2l C dX9_areRows_13 ?_
    refine jv_lconst (v := 0) C dX9_areRows_14 (by decide) ?_
    refine jv_ldc2 (v := 9) C dX9_areRows_15 (by decide +kernel) ?_
    refine jv_callS (na := 3) (As := [.long p2.toInt64, .long 0, .long 9]) (st := []) C (c_X9_in l D kp p2.toInt64 0 9 p2.toInt 0 9 (jv_t64 p2) (by decide) (by decide)) gX9_areRows_X9_in rfl rfl rfl q_X9_in rfl ⟨by decide, by decide⟩ ⟨by decide, by decide⟩ (fun _ h => h) (Nat.le_of_ble_eq_true rfl) rfl dX9_areRows_18 (fun r n1 E_3 hp _ => ?_)
    obtain ⟨⟨rfl, q4⟩ | ⟨rfl, q4⟩, rfl, rfl⟩ := hp
    · show jv_V l D vwCl kp G 0 0 n E 21 [(0, .int p1), (1, .int p2), (2, .int p3)] [.int 1]
      refine jv_if_eq (tgt := 40) C dX9_areRows_21 (by decide) (fun h => absurd h (by decide)) (fun _ => ?_)
      refine jv_iload_n C dX9_areRows_24 2 rfl ?_
      refine jv_i2l C dX9_areRows_25 ?_
      refine jv_lconst (v := 0) C dX9_areRows_26 (by decide) ?_
      refine jv_ldc2 (v := 9) C dX9_areRows_27 (by decide +kernel) ?_
      refine jv_callS (na := 3) (As := [.long p3.toInt64, .long 0, .long 9]) (st := []) C (c_X9_in l D kp p3.toInt64 0 9 p3.toInt 0 9 (jv_t64 p3) (by decide) (by decide)) gX9_areRows_X9_in rfl rfl rfl q_X9_in rfl ⟨by decide, by decide⟩ ⟨by decide, by decide⟩ (fun _ h => h) (Nat.le_of_ble_eq_true rfl) rfl dX9_areRows_30 (fun r n1 E_5 hp _ => ?_)
      obtain ⟨⟨rfl, q6⟩ | ⟨rfl, q6⟩, rfl, rfl⟩ := hp
      · show jv_V l D vwCl kp G 0 0 n E 33 [(0, .int p1), (1, .int p2), (2, .int p3)] [.int 1]
        refine jv_if_eq (tgt := 40) C dX9_areRows_33 (by decide) (fun h => absurd h (by decide)) (fun _ => ?_)
        refine jv_iconst (v := 1) C dX9_areRows_36 (by decide) ?_
        refine jv_goto (tgt := 41) C dX9_areRows_37 (by decide) ?_
        exact jv_zret C B (by decide) ⟨Or.inl ⟨rfl, by have a0 := q2; have a1 := q4; have a2 := q6; omega⟩, rfl, rfl⟩ ⟨by decide, by decide⟩ dX9_areRows_41
      · show jv_V l D vwCl kp G 0 0 n E 33 [(0, .int p1), (1, .int p2), (2, .int p3)] [.int 0]
        refine jv_if_eq (tgt := 40) C dX9_areRows_33 (by decide) (fun _ => ?_) (fun h => absurd (by decide) h)
        refine jv_iconst (v := 0) C dX9_areRows_40 (by decide) ?_
        exact jv_zret C B (by decide) ⟨Or.inr ⟨rfl, by have a0 := q2; have a1 := q4; have a2 := q6; omega⟩, rfl, rfl⟩ ⟨by decide, by decide⟩ dX9_areRows_41
    · show jv_V l D vwCl kp G 0 0 n E 21 [(0, .int p1), (1, .int p2), (2, .int p3)] [.int 0]
      refine jv_if_eq (tgt := 40) C dX9_areRows_21 (by decide) (fun _ => ?_) (fun h => absurd (by decide) h)
      refine jv_iconst (v := 0) C dX9_areRows_40 (by decide) ?_
      exact jv_zret C B (by decide) ⟨Or.inr ⟨rfl, by have a0 := q2; have a1 := q4; omega⟩, rfl, rfl⟩ ⟨by decide, by decide⟩ dX9_areRows_41
  · show jv_V l D vwCl kp G 0 0 n E 9 [(0, .int p1), (1, .int p2), (2, .int p3)] [.int 0]
    refine jv_if_eq (tgt := 40) C dX9_areRows_9 (by decide) (fun _ => ?_) (fun h => absurd (by decide) h)
    refine jv_iconst (v := 0) C dX9_areRows_40 (by decide) ?_
    exact jv_zret C B (by decide) ⟨Or.inr ⟨rfl, by have a0 := q2; omega⟩, rfl, rfl⟩ ⟨by decide, by decide⟩ dX9_areRows_41
theorem jm_sub {a b : Nat} (h : b ≤ a) : nI a - nI b = nI (a - b) := by
  have e : nI a = nI (a - b) + nI b := by rw [nI_add]; congr 1; omega
  rw [e, Int32.add_sub_cancel]
theorem jm_low : ∀ v, v < 256 → 0 < v → (nI v &&& (nI v - 1)) = nI (v &&& (v - 1)) ∧ (v &&& (v - 1)) < 256 ∧ jw_bc (v &&& (v - 1)) + 1 = jw_bc v := by decide +kernel
theorem jm_bc0 : ∀ v, v < 256 → jw_bc v = 0 → v = 0 := by decide +kernel
theorem jm_bcp : ∀ v, v < 256 → 0 < jw_bc v → 0 < v := by decide +kernel
theorem jm_and : ∀ s, s < 256 → ∀ m, m < 8 → (nI s &&& nI (2 ^ m) = 0 ↔ s.testBit m = false) := by decide +kernel
set_option maxRecDepth 100000 in
set_option maxHeartbeats 8000000 in
theorem lp_bits {l : Launch} {D : va_G} {kp : Nat → ClassId} {G : jv_G} {n t : Nat} {E E0 : Nat → jv_E} {x0 : Int32} {rd : Room} {post : Option Value → Nat → (Nat → jv_E) → Prop} (C : jv_C D vwCl kp G cX9_bitsOf RX9 (ck_ws 152) rd ck_NN) (hnl : jv_nL G = 3)
    (B : jv_R D vwCl kp G E0 (some .int) 0 0 post) (hp : post (some (.int (nI t))) n E) :
    ∀ (f c v : Nat), v < 256 → jw_bc v = f → c + f = t → jv_V l D vwCl kp G 0 0 n E 4 [(2, .int (nI v)), (1, .int (nI c)), (0, .int x0)] [] := by
  intro f
  induction f with
  | zero =>
    intro c v hv hb hc
    have h0 := jm_bc0 v hv hb
    subst h0
    have hc2 : c = t := by omega
    subst hc2
    refine jv_iload_n C dX9_bitsOf_4 0 rfl ?_
    refine jv_if_eq (tgt := 20) C dX9_bitsOf_5 (by decide) (fun _ => ?_) (fun h => absurd nI_0 h)
    refine jv_iload_n C dX9_bitsOf_20 1 rfl ?_
    exact jv_iret C B hp ⟨by decide, by decide⟩ dX9_bitsOf_21
  | succ f ih =>
    intro c v hv hb hc
    have h0 := jm_bcp v hv (by omega)
    obtain ⟨e1, e2, e3⟩ := jm_low v hv h0
    refine jv_iload_n C dX9_bitsOf_4 0 rfl ?_
    refine jv_if_eq (tgt := 20) C dX9_bitsOf_5 (by decide) (fun h => absurd h (nI_ne0 h0 (by omega))) (fun _ => ?_)
    refine jv_iinc (v := nI (c + 1)) (lv2 := [(1, .int (nI (c + 1))), (2, .int (nI v)), (0, .int x0)]) C dX9_bitsOf_8 hnl 1 rfl (nI_1 c) (by decide) rfl ?_
    refine jv_iload_n C dX9_bitsOf_11 1 rfl ?_
    refine jv_iload_n C dX9_bitsOf_12 1 rfl ?_
    refine jv_iconst (v := 1) C dX9_bitsOf_13 (by decide) ?_
    refine jv_isub C dX9_bitsOf_14 ?_
    refine jv_iand C dX9_bitsOf_15 ?_
    refine jv_ti e1 ?_
    refine jv_istore_n (lv2 := [(2, .int (nI (v &&& (v - 1)))), (1, .int (nI (c + 1))), (0, .int x0)]) C dX9_bitsOf_16 rfl hnl (by decide) rfl ?_
    refine jv_goto (tgt := 4) C dX9_bitsOf_17 (by decide) ?_
    exact ih (c + 1) _ e2 (by omega) (by omega)
set_option maxRecDepth 100000 in
set_option maxHeartbeats 8000000 in
theorem c_X9_bitsOf (l : Launch) (D : va_G) (kp : Nat → ClassId) {n : Nat} {E : Nat → jv_E} {s : Nat} (hs : s < 256) :
    jv_M l D vwCl kp yX9_bitsOf (ck_ws 152) (ck_rm 0 0) ck_NN [.int (nI s)] n E 0 0 (fun r n1 E1 => some (.int (nI (jw_bc s))) = r ∧ n = n1 ∧ E = E1) := by
  refine jv_of (cc := cX9_bitsOf) (maxL := 3) (rt := some .int) (by decide) rfl (Nat.le_of_ble_eq_true rfl) (fun G C B hI hnl => ?_)
  show jv_V l D vwCl kp G 0 0 n E 0 [(0, .int (nI s))] []
  refine jv_iconst (v := 0) C dX9_bitsOf_0 (by decide) ?_
  refine jv_istore_n (lv2 := [(1, .int 0), (0, .int (nI s))]) C dX9_bitsOf_1 rfl hnl (by decide) rfl ?_
  refine jv_iload_n C dX9_bitsOf_2 1 rfl ?_
  refine jv_istore_n (lv2 := [(2, .int (nI s)), (1, .int 0), (0, .int (nI s))]) C dX9_bitsOf_3 rfl hnl (by decide) rfl ?_
  exact lp_bits C hnl B ⟨rfl, rfl, rfl⟩ (jw_bc s) 0 s hs rfl (by omega)
set_option maxRecDepth 100000 in
set_option maxHeartbeats 8000000 in
theorem c_X9_at (l : Launch) (D : va_G) (kp : Nat → ClassId) {n : Nat} {E : Nat → jv_E} (s x : Nat) :
    jv_M l D vwCl kp yX9_at (ck_ws 150) (ck_rm 0 0) ck_NN [.int (nI s), .int (nI x)] n E 0 0 (fun r n1 E1 => some (.int (nI (73 * s + x))) = r ∧ n = n1 ∧ E = E1) := by
  refine jv_of (cc := cX9_at) (maxL := 2) (rt := some .int) (by decide) rfl (Nat.le_of_ble_eq_true rfl) (fun G C B hI hnl => ?_)
  show jv_V l D vwCl kp G 0 0 n E 0 [(0, .int (nI s)), (1, .int (nI x))] []
  refine jv_bipush (v := nI 73) C dX9_at_0 (by decide) ?_
  refine jv_iload_n C dX9_at_2 0 rfl ?_
  refine jv_imul C dX9_at_3 ?_
  refine jv_ti (pk_mul 73 s) ?_
  refine jv_iload_n C dX9_at_4 1 rfl ?_
  refine jv_iadd C dX9_at_5 ?_
  refine jv_ti (nI_add (73 * s) x) ?_
  exact jv_iret C B ⟨rfl, rfl, rfl⟩ ⟨by decide, by decide⟩ dX9_at_6
def jm_term (P T k x : Nat) : Nat → Nat := fun h => if k.testBit ((P - jw_U P k + h) % P) then 0 else jw_M P T (jw_U P k - 1) (k ||| 2 ^ ((P - jw_U P k + h) % P)) ((x : Int) - (h : Int))
theorem jm_M {P T k x : Nat} (h : 0 < jw_U P k) : jw_M P T (jw_U P k) k (x : Int) = jw_sum (jm_term P T k x) (T + 1) := by
  obtain ⟨r, hr⟩ : ∃ r, jw_U P k = r + 1 := ⟨jw_U P k - 1, by omega⟩
  unfold jm_term
  rw [hr, jw_M]
  rfl
theorem jm_ext {f : Nat → Nat} {h : Nat} : ∀ {m : Nat}, h ≤ m → (∀ j, h ≤ j → j < m → f j = 0) → jw_sum f m = jw_sum f h
  | 0, h1, _ => by have e : h = 0 := by omega
                   rw [e]
  | m + 1, h1, h2 => by
    by_cases e : h = m + 1
    · rw [e]
    · rw [jw_sum, h2 m (by omega) (by omega), Nat.add_zero]
      exact jm_ext (by omega) (fun j a b => h2 j a (by omega))
theorem jm_over {P T k x h : Nat} (hx : x < h) : jm_term P T k x h = 0 := by
  unfold jm_term
  by_cases q : k.testBit ((P - jw_U P k + h) % P) = true
  · rw [if_pos q]
  · rw [if_neg q]
    exact jw_Mneg _ _ _ _ _ (by omega)
def jm_I (P T X k : Nat) (gl : Nat → Int64) : Prop := ∀ s, k ≤ s → s < 2 ^ P → ∀ x, x ≤ X → gl (73 * s + x) = lN (jw_M P T (jw_U P s) s (x : Int))
def jm_J (P T X k x : Nat) (gl : Nat → Int64) : Prop := jm_I P T X (k + 1) gl ∧ ∀ y, y < x → gl (73 * k + y) = lN (jw_M P T (jw_U P k) k (y : Int))
theorem jm_JI {P T X k : Nat} {gl : Nat → Int64} (h : jm_J P T X k (X + 1) gl) : jm_I P T X k gl := fun s h1 h2 x hx => by
  by_cases e : s = k
  · subst e; exact h.2 x (by omega)
  · exact h.1 s (by omega) h2 x hx
theorem jm_upd {P T X k x : Nat} {gl : Nat → Int64} (hX : X ≤ 72) (hx : x ≤ X) (h : jm_J P T X k x gl) : jm_J P T X k (x + 1) (vp_updL gl (73 * k + x) (lN (jw_M P T (jw_U P k) k (x : Int)))) := by
  refine ⟨fun s h1 h2 y hy => ?_, fun y hy => ?_⟩
  · unfold vp_updL
    rw [if_neg (by omega)]
    exact h.1 s h1 h2 y hy
  · unfold vp_updL
    by_cases e : y = x
    · subst e; rw [if_pos rfl]
    · rw [if_neg (by omega)]
      exact h.2 y (by omega)
set_option maxRecDepth 100000 in
set_option maxHeartbeats 8000000 in
theorem lp_M124 {l : Launch} {D : va_G} {kp : Nat → ClassId} {G : jv_G} {n : Nat} {P T B X k x : Nat} {fv bv hv : Int32} (C : jv_C D vwCl kp G cX9_laysRows RX9 (ck_ws 151) (ck_rm 1 30) ck_NN) {Eo : Nat → jv_E} {fs : List Value} (ho : Eo 58 = .inr (9, fs)) (h40 : fs[40]? = some (.ref 82)) (hnl : jv_nL G = 12) (hX : X ≤ 72) (hx : x ≤ X) (hk : k < 256)
    (kk : ∀ (E : Nat → jv_E) (gl : Nat → Int64), (∀ k, k ≠ 82 → E k = Eo k) → E 82 = .inl (3, 18688, .inr (.inl gl)) → jm_J P T X k (x + 1) gl → jv_V l D vwCl kp G 0 0 n E 26 [(7, .int (nI (x + 1))), (6, .int bv), (5, .int (nI k)), (4, .int fv), (0, .ref 58), (1, .int (nI P)), (2, .int (nI B)), (3, .int (nI T))] []) {E : Nat → jv_E} {gl : Nat → Int64} (h58 : (∀ k, k ≠ 82 → E k = Eo k)) (h82 : E 82 = .inl (3, 18688, .inr (.inl gl))) (hJ : jm_J P T X k x gl) :
    jv_V l D vwCl kp G 0 0 n E 124 [(10, .int hv), (8, .long (lN (jw_M P T (jw_U P k) k (x : Int)))), (7, .int (nI x)), (6, .int bv), (5, .int (nI k)), (4, .int fv), (0, .ref 58), (1, .int (nI P)), (2, .int (nI B)), (3, .int (nI T))] [] := by
  refine jv_aload_n C dX9_laysRows_124 6 rfl ?_
  refine jv_getf (fk := 40) C (by decide) ((h58 58 (by decide)).trans ho) rfl hc_in (by decide) hc_f40 rfl h40 dX9_laysRows_125 ?_
  refine jv_iload C dX9_laysRows_128 4 rfl ?_
  refine jv_iload C dX9_laysRows_130 2 rfl ?_
  refine jv_callS (na := 2) (As := [.int (nI k), .int (nI x)]) (st := [.ref 82]) C (c_X9_at l D kp k x) gX9_laysRows_X9_at rfl rfl rfl q_X9_at rfl ⟨by decide, by decide⟩ ⟨by decide, by decide⟩ (fun _ h => h) (Nat.le_of_ble_eq_true rfl) rfl dX9_laysRows_132 (fun r n1 E1 hp _ => ?_)
  obtain ⟨rfl, rfl, rfl⟩ := hp
  show jv_V l D vwCl kp G 0 0 n E 135 [(10, .int hv), (8, .long (lN (jw_M P T (jw_U P k) k (x : Int)))), (7, .int (nI x)), (6, .int bv), (5, .int (nI k)), (4, .int fv), (0, .ref 58), (1, .int (nI P)), (2, .int (nI B)), (3, .int (nI T))] [.int (nI (73 * k + x)), .ref 82]
  refine jv_lload C dX9_laysRows_135 1 rfl ?_
  refine jv_last C (by decide) h82 (jb_in (by omega) (by decide)) dX9_laysRows_137 ?_
  refine jv_iinc (v := nI (x + 1)) (lv2 := [(7, .int (nI (x + 1))), (10, .int hv), (8, .long (lN (jw_M P T (jw_U P k) k (x : Int)))), (6, .int bv), (5, .int (nI k)), (4, .int fv), (0, .ref 58), (1, .int (nI P)), (2, .int (nI B)), (3, .int (nI T))]) C dX9_laysRows_138 hnl 2 rfl (nI_1 x) (by decide) rfl ?_
  refine jv_goto (tgt := 26) C dX9_laysRows_141 (by decide) ?_
  refine jv_lpk [0, 3, 4, 5, 6, 7, 8, 9] rfl ?_
  refine kk _ _ (fun k hk => (va_up_ne _ _ hk).trans (h58 k hk)) (va_up_self _ _ _) ?_
  rw [jb_cl (by omega)]
  exact jm_upd hX hx hJ
set_option maxRecDepth 100000 in
set_option maxHeartbeats 8000000 in
theorem lp_M56 {l : Launch} {D : va_G} {kp : Nat → ClassId} {G : jv_G} {n : Nat} {P T B X k x : Nat} {E : Nat → jv_E} {gl : Nat → Int64} (C : jv_C D vwCl kp G cX9_laysRows RX9 (ck_ws 151) (ck_rm 1 30) ck_NN) {Eo : Nat → jv_E} {fs : List Value} (ho : Eo 58 = .inr (9, fs)) (h40 : fs[40]? = some (.ref 82)) (hnl : jv_nL G = 12) (hP : 1 ≤ P) (hP2 : P < 9) (hT : T < 10) (hX : X ≤ 72) (hx : x ≤ X) (hk : k < 2 ^ P - 1) (h58 : (∀ k, k ≠ 82 → E k = Eo k)) (h82 : E 82 = .inl (3, 18688, .inr (.inl gl))) (hJ : jm_J P T X k x gl)
    (kk : ∀ (hv : Int32), jv_V l D vwCl kp G 0 0 n E 124 [(10, .int hv), (8, .long (lN (jw_M P T (jw_U P k) k (x : Int)))), (7, .int (nI x)), (6, .int (nI (jw_bc k))), (5, .int (nI k)), (4, .int (nI (2 ^ P - 1))), (0, .ref 58), (1, .int (nI P)), (2, .int (nI B)), (3, .int (nI T))] []) :
    ∀ (f h : Nat), h + f = T + 1 → h ≤ x + 1 → jv_V l D vwCl kp G 0 0 n E 56 [(10, .int (nI h)), (8, .long (lN (jw_sum (jm_term P T k x) h))), (7, .int (nI x)), (6, .int (nI (jw_bc k))), (5, .int (nI k)), (4, .int (nI (2 ^ P - 1))), (0, .ref 58), (1, .int (nI P)), (2, .int (nI B)), (3, .int (nI T))] [] := by
  have hU := jb_U0 P hP2 k hk
  have hp2 := jb_p2 P hP2
  have hUb := jb_U P hP2 k (by omega)
  intro f
  induction f with
  | zero =>
    intro h h1 h2
    have e : h = T + 1 := by omega
    subst e
    refine jv_iload C dX9_laysRows_56 0 rfl ?_
    refine jv_iload_n C dX9_laysRows_58 9 rfl ?_
    refine jv_icmp_gt (tgt := 124) C dX9_laysRows_59 (by decide) (fun _ => ?_) (fun h => absurd (nI_lt (by omega) (by omega)) h)
    rw [← jm_M hU]
    exact kk _
  | succ f ih =>
    intro h h1 h2
    refine jv_iload C dX9_laysRows_56 0 rfl ?_
    refine jv_iload_n C dX9_laysRows_58 9 rfl ?_
    refine jv_icmp_gt (tgt := 124) C dX9_laysRows_59 (by decide) (fun q => absurd q (nI_nlt (by omega) (by omega))) (fun _ => ?_)
    refine jv_iload C dX9_laysRows_62 0 rfl ?_
    refine jv_iload C dX9_laysRows_64 2 rfl ?_
    by_cases hh : h = x + 1
    · refine jv_icmp_gt (tgt := 124) C dX9_laysRows_66 (by decide) (fun _ => ?_) (fun q => absurd (nI_lt (by omega) (by omega)) q)
      rw [← jm_ext (m := T + 1) (by omega) (fun j a _ => jm_over (by omega)), ← jm_M hU]
      exact kk _
    have hm : (jw_bc k + h) % P < P := Nat.mod_lt _ (by omega)
    have eb : jw_bc k = P - jw_U P k := by omega
    have h8 : jw_bc k ≤ 8 := by omega
    obtain ⟨o1, o2, o3⟩ := jb_or P hP2 k (by omega) _ hm
    have ha := jm_and k (by omega) _ (Nat.lt_of_lt_of_le hm (by omega))
    refine jv_icmp_gt (tgt := 124) C dX9_laysRows_66 (by decide) (fun q => absurd q (nI_nlt (by omega) (by omega))) (fun _ => ?_)
    refine jv_iload C dX9_laysRows_69 4 rfl ?_
    refine jv_iload C dX9_laysRows_71 5 rfl ?_
    refine jv_icmp_eq (tgt := 124) C dX9_laysRows_73 (by decide) (fun q => absurd ((nI_eq (by omega) (by omega)).mp q) (by omega)) (fun _ => ?_)
    refine jv_iconst (v := 1) C dX9_laysRows_76 (by decide) ?_
    refine jv_iload C dX9_laysRows_77 3 rfl ?_
    refine jv_iload C dX9_laysRows_79 0 rfl ?_
    refine jv_iadd C dX9_laysRows_81 ?_
    refine jv_ti (nI_add (jw_bc k) h) ?_
    refine jv_iload_n C dX9_laysRows_82 7 rfl ?_
    refine jv_irem C dX9_laysRows_83 (jb_ne0 hP (by omega)) ?_
    refine jv_ti (pk_rem (by omega) (by omega) (by omega)) ?_
    refine jv_ishl C dX9_laysRows_84 ?_
    refine jv_ti (jb_sh ((jw_bc k + h) % P) (by omega)) ?_
    obtain ⟨m, em⟩ : ∃ m, (jw_bc k + h) % P = m := ⟨_, rfl⟩
    have et : jm_term P T k x h = if k.testBit m then 0 else jw_M P T (jw_U P k - 1) (k ||| 2 ^ m) ((x : Int) - (h : Int)) := by
      unfold jm_term
      rw [← eb, em]
    rw [em] at hm o1 o2 o3 ha ⊢
    refine jv_istore (lv2 := [(11, .int (nI (2 ^ m))), (10, .int (nI h)), (8, .long (lN (jw_sum (jm_term P T k x) h))), (7, .int (nI x)), (6, .int (nI (jw_bc k))), (5, .int (nI k)), (4, .int (nI (2 ^ P - 1))), (0, .ref 58), (1, .int (nI P)), (2, .int (nI B)), (3, .int (nI T))]) C dX9_laysRows_85 hnl (by decide) rfl ?_
    refine jv_iload C dX9_laysRows_87 5 rfl ?_
    refine jv_iload C dX9_laysRows_89 0 rfl ?_
    refine jv_iand C dX9_laysRows_91 ?_
    refine jv_if_ne (tgt := 118) C dX9_laysRows_92 (by decide) (fun q => ?_) (fun q => ?_)
    · refine jv_iinc (v := nI (h + 1)) (lv2 := [(10, .int (nI (h + 1))), (11, .int (nI (2 ^ m))), (8, .long (lN (jw_sum (jm_term P T k x) h))), (7, .int (nI x)), (6, .int (nI (jw_bc k))), (5, .int (nI k)), (4, .int (nI (2 ^ P - 1))), (0, .ref 58), (1, .int (nI P)), (2, .int (nI B)), (3, .int (nI T))]) C dX9_laysRows_118 hnl 1 rfl (nI_1 h) (by decide) rfl ?_
      refine jv_goto (tgt := 56) C dX9_laysRows_121 (by decide) ?_
      refine jv_lpk [0, 2, 3, 4, 5, 6, 7, 8, 9, 10] rfl ?_
      have tb : k.testBit m = true := by
        cases e : k.testBit m
        · exact absurd (ha.mpr e) q
        · rfl
      have es : jw_sum (jm_term P T k x) h = jw_sum (jm_term P T k x) (h + 1) := by rw [jw_sum, et, if_pos tb, Nat.add_zero]
      rw [es]
      exact ih (h + 1) (by omega) (by omega)
    · have tb : k.testBit m = false := ha.mp q
      have tb2 := o3 tb
      obtain ⟨f1, f2, f3⟩ := jw_fin P hP2 k (by omega) _ hm tb
      refine jv_lload C dX9_laysRows_95 2 rfl ?_
      refine jv_aload_n C dX9_laysRows_97 7 rfl ?_
      refine jv_getf (fk := 40) C (by decide) ((h58 58 (by decide)).trans ho) rfl hc_in (by decide) hc_f40 rfl h40 dX9_laysRows_98 ?_
      refine jv_iload C dX9_laysRows_101 5 rfl ?_
      refine jv_iload C dX9_laysRows_103 0 rfl ?_
      refine jv_ior C dX9_laysRows_105 ?_
      refine jv_ti (jb_nor k (2 ^ m)) ?_
      refine jv_iload C dX9_laysRows_106 3 rfl ?_
      refine jv_iload C dX9_laysRows_108 1 rfl ?_
      refine jv_isub C dX9_laysRows_110 ?_
      refine jv_ti (jm_sub (a := x) (b := h) (by omega)) ?_
      refine jv_callS (na := 2) (As := [.int (nI (k ||| 2 ^ m)), .int (nI (x - h))]) (st := [.ref 82, .long (lN (jw_sum (jm_term P T k x) h))]) C (c_X9_at l D kp (k ||| 2 ^ m) (x - h)) gX9_laysRows_X9_at rfl rfl rfl q_X9_at rfl ⟨by decide, by decide⟩ ⟨by decide, by decide⟩ (fun _ h => h) (Nat.le_of_ble_eq_true rfl) rfl dX9_laysRows_111 (fun r n1 E1 hp _ => ?_)
      obtain ⟨rfl, rfl, rfl⟩ := hp
      show jv_V l D vwCl kp G 0 0 n E 114 [(11, .int (nI (2 ^ m))), (10, .int (nI h)), (8, .long (lN (jw_sum (jm_term P T k x) h))), (7, .int (nI x)), (6, .int (nI (jw_bc k))), (5, .int (nI k)), (4, .int (nI (2 ^ P - 1))), (0, .ref 58), (1, .int (nI P)), (2, .int (nI B)), (3, .int (nI T))] [.int (nI (73 * (k ||| 2 ^ m) + (x - h))), .ref 82, .long (lN (jw_sum (jm_term P T k x) h))]
      refine jv_lald C (by decide) h82 (jb_in (by omega) (by decide)) dX9_laysRows_114 ?_
      refine jv_tl (y := lN (jm_term P T k x h)) (by
        rw [jb_cl (by omega), hJ.1 _ (by omega) o1 _ (by omega), et, if_neg (by rw [tb]; decide)]
        congr 2
        · omega
        · exact Int.ofNat_sub (by omega)) ?_
      refine jv_ladd C dX9_laysRows_115 ?_
      refine jv_tl (y := lN (jw_sum (jm_term P T k x) (h + 1))) (by rw [lN_add]; rfl) ?_
      refine jv_lstore (lv2 := [(8, .long (lN (jw_sum (jm_term P T k x) (h + 1)))), (11, .int (nI (2 ^ m))), (10, .int (nI h)), (7, .int (nI x)), (6, .int (nI (jw_bc k))), (5, .int (nI k)), (4, .int (nI (2 ^ P - 1))), (0, .ref 58), (1, .int (nI P)), (2, .int (nI B)), (3, .int (nI T))]) C dX9_laysRows_116 hnl (by decide) rfl ?_
      refine jv_iinc (v := nI (h + 1)) (lv2 := [(10, .int (nI (h + 1))), (8, .long (lN (jw_sum (jm_term P T k x) (h + 1)))), (11, .int (nI (2 ^ m))), (7, .int (nI x)), (6, .int (nI (jw_bc k))), (5, .int (nI k)), (4, .int (nI (2 ^ P - 1))), (0, .ref 58), (1, .int (nI P)), (2, .int (nI B)), (3, .int (nI T))]) C dX9_laysRows_118 hnl 2 rfl (nI_1 h) (by decide) rfl ?_
      refine jv_goto (tgt := 56) C dX9_laysRows_121 (by decide) ?_
      refine jv_lpk [0, 1, 3, 4, 5, 6, 7, 8, 9, 10] rfl ?_
      exact ih (h + 1) (by omega) (by omega)
set_option maxRecDepth 100000 in
set_option maxHeartbeats 8000000 in
/-- one cell of the table, from the first value on -/
theorem lp_M51 {l : Launch} {D : va_G} {kp : Nat → ClassId} {G : jv_G} {n : Nat} {P T B X k x : Nat} {E : Nat → jv_E} {gl : Nat → Int64} (C : jv_C D vwCl kp G cX9_laysRows RX9 (ck_ws 151) (ck_rm 1 30) ck_NN) {Eo : Nat → jv_E} {fs : List Value} (ho : Eo 58 = .inr (9, fs)) (h40 : fs[40]? = some (.ref 82)) (hnl : jv_nL G = 12) (hP : 1 ≤ P) (hP2 : P < 9) (hT : T < 10) (hX : X ≤ 72) (hx : x ≤ X) (hk : k < 2 ^ P) (h58 : (∀ k, k ≠ 82 → E k = Eo k)) (h82 : E 82 = .inl (3, 18688, .inr (.inl gl))) (hJ : jm_J P T X k x gl)
    (kk : ∀ (E : Nat → jv_E) (gl : Nat → Int64), (∀ k, k ≠ 82 → E k = Eo k) → E 82 = .inl (3, 18688, .inr (.inl gl)) → jm_J P T X k (x + 1) gl → jv_V l D vwCl kp G 0 0 n E 26 [(7, .int (nI (x + 1))), (6, .int (nI (jw_bc k))), (5, .int (nI k)), (4, .int (nI (2 ^ P - 1))), (0, .ref 58), (1, .int (nI P)), (2, .int (nI B)), (3, .int (nI T))] []) :
    jv_V l D vwCl kp G 0 0 n E 51 [(7, .int (nI x)), (6, .int (nI (jw_bc k))), (5, .int (nI k)), (4, .int (nI (2 ^ P - 1))), (0, .ref 58), (1, .int (nI P)), (2, .int (nI B)), (3, .int (nI T))] [.long (lN (if k = 2 ^ P - 1 ∧ x = 0 then 1 else 0))] := by
  have hp2 := jb_p2 P hP2
  have K := fun hv => lp_M124 (hv := hv) (E := E) C ho h40 hnl hX hx (by omega) kk h58 h82 hJ
  by_cases hf : k = 2 ^ P - 1
  · have ev : (if k = 2 ^ P - 1 ∧ x = 0 then 1 else 0) = jw_M P T (jw_U P k) k (x : Int) := by
      have hu : jw_U P k = 0 := by rw [hf]; exact jb_Uf P hP2
      rw [hu, jw_M]
      by_cases e : x = 0
      · rw [if_pos ⟨hf, e⟩, if_pos (by omega)]
      · rw [if_neg (fun q => e q.2), if_neg (by omega)]
    rw [ev]
    refine jv_lstore (lv2 := [(8, .long (lN (jw_M P T (jw_U P k) k (x : Int)))), (7, .int (nI x)), (6, .int (nI (jw_bc k))), (5, .int (nI k)), (4, .int (nI (2 ^ P - 1))), (0, .ref 58), (1, .int (nI P)), (2, .int (nI B)), (3, .int (nI T))]) C dX9_laysRows_51 hnl (by decide) rfl ?_
    refine jv_iconst (v := nI 0) C dX9_laysRows_53 (by decide) ?_
    refine jv_istore (lv2 := [(10, .int (nI 0)), (8, .long (lN (jw_M P T (jw_U P k) k (x : Int)))), (7, .int (nI x)), (6, .int (nI (jw_bc k))), (5, .int (nI k)), (4, .int (nI (2 ^ P - 1))), (0, .ref 58), (1, .int (nI P)), (2, .int (nI B)), (3, .int (nI T))]) C dX9_laysRows_54 hnl (by decide) rfl ?_
    refine jv_iload C dX9_laysRows_56 0 rfl ?_
    refine jv_iload_n C dX9_laysRows_58 9 rfl ?_
    refine jv_icmp_gt (tgt := 124) C dX9_laysRows_59 (by decide) (fun q => absurd q (nI_nlt (by omega) (by omega))) (fun _ => ?_)
    refine jv_iload C dX9_laysRows_62 0 rfl ?_
    refine jv_iload C dX9_laysRows_64 2 rfl ?_
    refine jv_icmp_gt (tgt := 124) C dX9_laysRows_66 (by decide) (fun q => absurd q (nI_nlt (by omega) (by omega))) (fun _ => ?_)
    refine jv_iload C dX9_laysRows_69 4 rfl ?_
    refine jv_iload C dX9_laysRows_71 5 rfl ?_
    refine jv_icmp_eq (tgt := 124) C dX9_laysRows_73 (by decide) (fun _ => K _) (fun q => absurd (by rw [hf]) q)
  · have ev : (if k = 2 ^ P - 1 ∧ x = 0 then 1 else 0) = jw_sum (jm_term P T k x) 0 := by rw [if_neg (fun q => hf q.1)]; rfl
    rw [ev]
    refine jv_lstore (lv2 := [(8, .long (lN (jw_sum (jm_term P T k x) 0))), (7, .int (nI x)), (6, .int (nI (jw_bc k))), (5, .int (nI k)), (4, .int (nI (2 ^ P - 1))), (0, .ref 58), (1, .int (nI P)), (2, .int (nI B)), (3, .int (nI T))]) C dX9_laysRows_51 hnl (by decide) rfl ?_
    refine jv_iconst (v := nI 0) C dX9_laysRows_53 (by decide) ?_
    refine jv_istore (lv2 := [(10, .int (nI 0)), (8, .long (lN (jw_sum (jm_term P T k x) 0))), (7, .int (nI x)), (6, .int (nI (jw_bc k))), (5, .int (nI k)), (4, .int (nI (2 ^ P - 1))), (0, .ref 58), (1, .int (nI P)), (2, .int (nI B)), (3, .int (nI T))]) C dX9_laysRows_54 hnl (by decide) rfl ?_
    exact lp_M56 C ho h40 hnl hP hP2 hT hX hx (by omega) h58 h82 hJ K (T + 1) 0 (by omega) (by omega)
set_option maxRecDepth 100000 in
set_option maxHeartbeats 8000000 in
theorem lp_M26 {l : Launch} {D : va_G} {kp : Nat → ClassId} {G : jv_G} {n : Nat} {P T B k : Nat} (C : jv_C D vwCl kp G cX9_laysRows RX9 (ck_ws 151) (ck_rm 1 30) ck_NN) {Eo : Nat → jv_E} {fs : List Value} (ho : Eo 58 = .inr (9, fs)) (h40 : fs[40]? = some (.ref 82)) (hnl : jv_nL G = 12) (hP : 1 ≤ P) (hP2 : P < 9) (hB : B < 10) (hT : T < 10) (hX : P * B ≤ 72) (hk : k < 2 ^ P)
    (kk : ∀ (E : Nat → jv_E) (gl : Nat → Int64) (xv : Int32), (∀ k, k ≠ 82 → E k = Eo k) → E 82 = .inl (3, 18688, .inr (.inl gl)) → jm_I P T (P * B) k gl → jv_V l D vwCl kp G 0 0 n E 144 [(7, .int xv), (6, .int (nI (jw_bc k))), (5, .int (nI k)), (4, .int (nI (2 ^ P - 1))), (0, .ref 58), (1, .int (nI P)), (2, .int (nI B)), (3, .int (nI T))] []) :
    ∀ (f x : Nat) (E : Nat → jv_E) (gl : Nat → Int64), x + f = P * B + 1 → (∀ k, k ≠ 82 → E k = Eo k) → E 82 = .inl (3, 18688, .inr (.inl gl)) → jm_J P T (P * B) k x gl → jv_V l D vwCl kp G 0 0 n E 26 [(7, .int (nI x)), (6, .int (nI (jw_bc k))), (5, .int (nI k)), (4, .int (nI (2 ^ P - 1))), (0, .ref 58), (1, .int (nI P)), (2, .int (nI B)), (3, .int (nI T))] [] := by
  have hp2 := jb_p2 P hP2
  intro f
  induction f with
  | zero =>
    intro x E gl h1 h58 h82 hJ
    have e : x = P * B + 1 := by omega
    subst e
    refine jv_iload C dX9_laysRows_26 0 rfl ?_
    refine jv_iload_n C dX9_laysRows_28 5 rfl ?_
    refine jv_iload_n C dX9_laysRows_29 6 rfl ?_
    refine jv_imul C dX9_laysRows_30 ?_
    refine jv_ti (pk_mul P B) ?_
    refine jv_icmp_gt (tgt := 144) C dX9_laysRows_31 (by decide) (fun _ => ?_) (fun h => absurd (nI_lt (by omega) (by omega)) h)
    exact kk E gl _ h58 h82 (jm_JI hJ)
  | succ f ih =>
    intro x E gl h1 h58 h82 hJ
    have K := fun E1 gl1 a b c => ih (x + 1) E1 gl1 (by omega) a b c
    have W := lp_M51 C ho h40 hnl hP hP2 hT hX (x := x) (by omega) hk h58 h82 hJ K
    refine jv_iload C dX9_laysRows_26 0 rfl ?_
    refine jv_iload_n C dX9_laysRows_28 5 rfl ?_
    refine jv_iload_n C dX9_laysRows_29 6 rfl ?_
    refine jv_imul C dX9_laysRows_30 ?_
    refine jv_ti (pk_mul P B) ?_
    refine jv_icmp_gt (tgt := 144) C dX9_laysRows_31 (by decide) (fun q => absurd q (nI_nlt (by omega) (by omega))) (fun _ => ?_)
    refine jv_iload C dX9_laysRows_34 2 rfl ?_
    refine jv_iload C dX9_laysRows_36 3 rfl ?_
    refine jv_icmp_ne (tgt := 50) C dX9_laysRows_38 (by decide) (fun q => ?_) (fun q => ?_)
    · rw [if_neg (fun z => q (by rw [z.1]))] at W
      exact jv_lconst (v := lN 0) C dX9_laysRows_50 (by decide) W
    · have q2 := (nI_eq (by omega) (by omega)).mp q
      refine jv_iload C dX9_laysRows_41 0 rfl ?_
      refine jv_if_ne (tgt := 50) C dX9_laysRows_43 (by decide) (fun z => ?_) (fun z => ?_)
      · rw [if_neg (fun a => z (by rw [a.2]; exact nI_0))] at W
        exact jv_lconst (v := lN 0) C dX9_laysRows_50 (by decide) W
      · have z2 : x = 0 := (nI_eq (a := x) (b := 0) (by omega) (by omega)).mp (z.trans nI_0.symm)
        rw [if_pos ⟨q2, z2⟩] at W
        refine jv_lconst (v := lN 1) C dX9_laysRows_46 (by decide) ?_
        exact jv_goto (tgt := 51) C dX9_laysRows_47 (by decide) W
set_option maxRecDepth 100000 in
set_option maxHeartbeats 8000000 in
theorem lp_M11 {l : Launch} {D : va_G} {kp : Nat → ClassId} {G : jv_G} {n : Nat} {E0 : Nat → jv_E} {P T B : Nat} {post : Option Value → Nat → (Nat → jv_E) → Prop} (C : jv_C D vwCl kp G cX9_laysRows RX9 (ck_ws 151) (ck_rm 1 30) ck_NN) {Eo : Nat → jv_E} {fs : List Value} (ho : Eo 58 = .inr (9, fs)) (h40 : fs[40]? = some (.ref 82)) (hnl : jv_nL G = 12) (Bk : jv_R D vwCl kp G E0 none 0 0 post)
    (hpost : ∀ (E : Nat → jv_E) (gl : Nat → Int64), (∀ k, k ≠ 82 → E k = Eo k) → E 82 = .inl (3, 18688, .inr (.inl gl)) → jm_I P T (P * B) 0 gl → post none n E) (hP : 1 ≤ P) (hP2 : P < 9) (hB : B < 10) (hT : T < 10) (hX : P * B ≤ 72) :
    ∀ (k : Nat) (E : Nat → jv_E) (gl : Nat → Int64), k ≤ 2 ^ P → (∀ k, k ≠ 82 → E k = Eo k) → E 82 = .inl (3, 18688, .inr (.inl gl)) → jm_I P T (P * B) k gl → jv_V l D vwCl kp G 0 0 n E 11 [(5, .int (nI k + (-1))), (4, .int (nI (2 ^ P - 1))), (0, .ref 58), (1, .int (nI P)), (2, .int (nI B)), (3, .int (nI T))] [] := by
  have hp2 := jb_p2 P hP2
  intro k
  induction k with
  | zero =>
    intro E gl hk h58 h82 hI
    refine jv_iload C dX9_laysRows_11 0 rfl ?_
    refine jv_ti (y := -1) (by decide) ?_
    refine jv_if_lt (tgt := 150) C dX9_laysRows_13 (by decide) (fun _ => ?_) (fun h => absurd (by decide) h)
    exact jv_vret C Bk (hpost E gl h58 h82 hI) ⟨by decide, by decide⟩ dX9_laysRows_150
  | succ k ih =>
    intro E gl hk h58 h82 hI
    rw [pk_m1]
    refine jv_iload C dX9_laysRows_11 0 rfl ?_
    refine jv_if_lt (tgt := 150) C dX9_laysRows_13 (by decide) (fun h => absurd h (nI_pos (by omega))) (fun _ => ?_)
    refine jv_iload C dX9_laysRows_16 0 rfl ?_
    refine jv_callS (na := 1) (As := [.int (nI k)]) (st := []) C (c_X9_bitsOf l D kp (s := k) (by omega)) gX9_laysRows_X9_bitsOf rfl rfl rfl q_X9_bitsOf rfl ⟨by decide, by decide⟩ ⟨by decide, by decide⟩ (fun _ h => h) (Nat.le_of_ble_eq_true rfl) rfl dX9_laysRows_18 (fun r n1 E1 hp _ => ?_)
    obtain ⟨rfl, rfl, rfl⟩ := hp
    show jv_V l D vwCl kp G 0 0 n E 21 [(5, .int (nI k)), (4, .int (nI (2 ^ P - 1))), (0, .ref 58), (1, .int (nI P)), (2, .int (nI B)), (3, .int (nI T))] [.int (nI (jw_bc k))]
    refine jv_istore (lv2 := [(6, .int (nI (jw_bc k))), (5, .int (nI k)), (4, .int (nI (2 ^ P - 1))), (0, .ref 58), (1, .int (nI P)), (2, .int (nI B)), (3, .int (nI T))]) C dX9_laysRows_21 hnl (by decide) rfl ?_
    refine jv_iconst (v := nI 0) C dX9_laysRows_23 (by decide) ?_
    refine jv_istore (lv2 := [(7, .int (nI 0)), (6, .int (nI (jw_bc k))), (5, .int (nI k)), (4, .int (nI (2 ^ P - 1))), (0, .ref 58), (1, .int (nI P)), (2, .int (nI B)), (3, .int (nI T))]) C dX9_laysRows_24 hnl (by decide) rfl ?_
    refine lp_M26 C ho h40 hnl hP hP2 hB hT hX (by omega) (fun E1 gl1 xv k58 k82 kI => ?_) (P * B + 1) 0 E gl (by omega) h58 h82 ⟨hI, fun y hy => absurd hy (Nat.not_lt_zero y)⟩
    refine jv_iinc (v := nI k + (-1)) (lv2 := [(5, .int (nI k + (-1))), (7, .int xv), (6, .int (nI (jw_bc k))), (4, .int (nI (2 ^ P - 1))), (0, .ref 58), (1, .int (nI P)), (2, .int (nI B)), (3, .int (nI T))]) C dX9_laysRows_144 hnl 2 rfl rfl (by decide) rfl ?_
    refine jv_goto (tgt := 11) C dX9_laysRows_147 (by decide) ?_
    refine jv_lpk [0, 3, 4, 5, 6, 7] rfl ?_
    exact ih E1 gl1 (by omega) k58 k82 kI
theorem jm_72 {P B : Nat} (hP : P < 9) (hB : B < 10) : P * B ≤ 72 := Nat.mul_le_mul (show P ≤ 8 by omega) (show B ≤ 9 by omega)
set_option maxRecDepth 100000 in
set_option maxHeartbeats 8000000 in
theorem c_X9_laysRows (l : Launch) (D : va_G) (kp : Nat → ClassId) {n : Nat} {E : Nat → jv_E} {P B T : Nat} {gl : Nat → Int64} {fs : List Value} (ho : E 58 = .inr (9, fs)) (h40 : fs[40]? = some (.ref 82)) (h82 : E 82 = .inl (3, 18688, .inr (.inl gl))) (hP : 1 ≤ P) (hP2 : P < 9) (hB : B < 10) (hT : T < 10) :
    jv_M l D vwCl kp yX9_laysRows (ck_ws 151) (ck_rm 1 30) ck_NN [.ref 58, .int (nI P), .int (nI B), .int (nI T)] n E 0 0 (fun r n1 E1 => none = r ∧ n = n1 ∧ (∀ k, k ≠ 82 → E1 k = E k) ∧ ∃ gl, E1 82 = .inl (3, 18688, .inr (.inl gl)) ∧ jm_I P T (P * B) 0 gl) := by
  have hp2 := jb_p2 P hP2
  refine jv_of (cc := cX9_laysRows) (maxL := 12) (rt := none) (by decide) rfl (Nat.le_of_ble_eq_true rfl) (fun G C Bk hI hnl => ?_)
  show jv_V l D vwCl kp G 0 0 n E 0 [(0, .ref 58), (1, .int (nI P)), (2, .int (nI B)), (3, .int (nI T))] []
  refine jv_iconst (v := 1) C dX9_laysRows_0 (by decide) ?_
  refine jv_iload_n C dX9_laysRows_1 1 rfl ?_
  refine jv_ishl C dX9_laysRows_2 ?_
  refine jv_ti (jb_sh P hP2) ?_
  refine jv_iconst (v := 1) C dX9_laysRows_3 (by decide) ?_
  refine jv_isub C dX9_laysRows_4 ?_
  refine jv_ti (jm_sub (a := 2 ^ P) (b := 1) hp2.1) ?_
  refine jv_istore (lv2 := [(4, .int (nI (2 ^ P - 1))), (0, .ref 58), (1, .int (nI P)), (2, .int (nI B)), (3, .int (nI T))]) C dX9_laysRows_5 hnl (by decide) rfl ?_
  refine jv_iload C dX9_laysRows_7 0 rfl ?_
  have e : nI (2 ^ P - 1) = nI (2 ^ P) + (-1) := by
    have h := pk_m1 (2 ^ P - 1)
    rw [show 2 ^ P - 1 + 1 = 2 ^ P by omega] at h
    exact h.symm
  refine jv_ti e ?_
  refine jv_istore (lv2 := [(5, .int (nI (2 ^ P) + (-1))), (4, .int (nI (2 ^ P - 1))), (0, .ref 58), (1, .int (nI P)), (2, .int (nI B)), (3, .int (nI T))]) C dX9_laysRows_9 hnl (by decide) rfl ?_
  exact lp_M11 C ho h40 hnl Bk (fun E1 g1 a b c => ⟨rfl, rfl, a, g1, b, c⟩) hP hP2 hB hT (jm_72 hP2 hB) (2 ^ P) E gl (Nat.le_refl _) (fun _ _ => rfl) h82 (fun s h1 h2 => absurd h2 (by omega))
theorem jl_first_ok {F : Nat → Nat} {T : Nat} : ∀ (f h : Nat), h + f = T → (∃ j, h ≤ j ∧ j ≤ T ∧ F j ≠ 0) → jl_first F f h ≤ T ∧ F (jl_first F f h) ≠ 0 ∧ ∀ j, h ≤ j → j < jl_first F f h → F j = 0
  | 0, h, e, ⟨j, h1, h2, h3⟩ => by
    have ej : j = h := by omega
    subst ej
    rw [jl_first]
    exact ⟨by omega, h3, fun i a b => absurd a (by omega)⟩
  | f + 1, h, e, ⟨j, h1, h2, h3⟩ => by
    rw [jl_first]
    by_cases q : F h = 0
    · rw [if_pos q]
      have hj : h ≠ j := fun z => h3 (z ▸ q)
      obtain ⟨a, b, c⟩ := jl_first_ok f (h + 1) (by omega) ⟨j, by omega, h2, h3⟩
      refine ⟨a, b, fun i i1 i2 => ?_⟩
      by_cases z : i = h
      · rw [z]; exact q
      · exact c i (by omega) i2
    · rw [if_neg q]
      exact ⟨by omega, q, fun i a b => absurd a (by omega)⟩
theorem jl_pos {f : Nat → Nat} : ∀ {n : Nat}, 0 < jw_sum f n → ∃ j, j < n ∧ f j ≠ 0
  | 0, h => by rw [jw_sum] at h; omega
  | n + 1, h => by
    by_cases q : f n = 0
    · rw [jw_sum, q] at h
      obtain ⟨j, a, b⟩ := jl_pos (n := n) (by omega)
      exact ⟨j, by omega, b⟩
    · exact ⟨n, by omega, q⟩
def jl_inv (P T i s t : Nat) : Prop := s < 2 ^ P ∧ jw_U P s + i = P ∧ t < 10 ∧ 0 < jw_W P T (jw_U P s) s (t : Int)
def jl_x (P s t x : Nat) : Prop := (x : Int) = (P : Int) * (t : Int) + (jw_D P s : Int) - (jw_I P (jw_U P s) : Int)
theorem jl_term {P T i s t h : Nat} (hu : jw_U P s + i = P) : jb_term P T s t h = if s.testBit ((i + h) % P) then 0 else jw_W P T (jw_U P s - 1) (s ||| 2 ^ ((i + h) % P)) ((t : Int) - (((i + h) / P : Nat) : Int)) := by
  unfold jb_term
  rw [show P - jw_U P s = i by omega]
theorem jl_termM {P T i s x h : Nat} (hu : jw_U P s + i = P) : jm_term P T s x h = if s.testBit ((i + h) % P) then 0 else jw_M P T (jw_U P s - 1) (s ||| 2 ^ ((i + h) % P)) ((x : Int) - (h : Int)) := by
  unfold jm_term
  rw [show P - jw_U P s = i by omega]
theorem jl_bd {P T s t h : Nat} (hP2 : P < 9) (hT : T < 10) (hu : jw_U P s ≤ P) : jb_term P T s t h < 2 ^ 31 := by
  unfold jb_term
  by_cases q : s.testBit ((P - jw_U P s + h) % P) = true
  · rw [if_pos q]; omega
  · rw [if_neg q]
    have h1 := jw_bd (p := P) (top := T) (by omega) (jw_U P s - 1) (s ||| 2 ^ ((P - jw_U P s + h) % P)) ((t : Int) - (((P - jw_U P s + h) / P : Nat) : Int))
    have h2 : 10 ^ (jw_U P s - 1) ≤ 10 ^ 8 := Nat.pow_le_pow_right (by omega) (by omega)
    omega
theorem jl_eq {P T i s t x h : Nat} (hP : 1 ≤ P) (hP2 : P < 9) (hi : i < P) (hs : s < 2 ^ P) (hu : jw_U P s + i = P) (hx : jl_x P s t x) : jm_term P T s x h = jb_term P T s t h := by
  have hp2 := jb_p2 P hP2
  rw [jl_term hu, jl_termM hu]
  by_cases q : s.testBit ((i + h) % P) = true
  · rw [if_pos q, if_pos q]
  · rw [if_neg q, if_neg q]
    have hm : (i + h) % P < P := Nat.mod_lt _ hP
    obtain ⟨f1, f2, f3⟩ := jw_fin P hP2 s (by omega) _ hm (by simpa using q)
    rw [jw_WM hP hP2 (jw_U P s - 1) _ _ f1 (by omega) (by omega)]
    have hd : (P : Int) * (((i + h) / P : Nat) : Int) + (((i + h) % P : Nat) : Int) = ((i + h : Nat) : Int) := by exact_mod_cast Nat.div_add_mod (i + h) P
    congr 1
    rw [Int.mul_sub]
    have hI : jw_I P (jw_U P s) = jw_I P (jw_U P s - 1) + i := by
      obtain ⟨r, hr⟩ : ∃ r, jw_U P s = r + 1 := ⟨jw_U P s - 1, by omega⟩
      rw [hr]
      show jw_I P r + (P - (r + 1)) = jw_I P r + i
      omega
    unfold jl_x at hx
    omega
/-- one throw of the least row -/
theorem jl_step {P T i s t : Nat} (hP : 1 ≤ P) (hP2 : P < 9) (hi : i < P) (h : jl_inv P T i s t) : ∃ r, jl_first (jb_term P T s t) T 0 = r ∧ r ≤ T ∧ s.testBit ((i + r) % P) = false ∧ (i + r) / P ≤ t ∧ jb_term P T s t r ≠ 0 ∧ (∀ j, j < r → jb_term P T s t j = 0) ∧ jl_inv P T (i + 1) (s ||| 2 ^ ((i + r) % P)) (t - (i + r) / P) := by
  obtain ⟨h1, h2, h3, h4⟩ := h
  have hp2 := jb_p2 P hP2
  rw [jb_W (by omega)] at h4
  obtain ⟨j, j1, j2⟩ := jl_pos h4
  obtain ⟨a, b, c⟩ := jl_first_ok (F := jb_term P T s t) (T := T) T 0 (by omega) ⟨j, by omega, by omega, j2⟩
  obtain ⟨r, er⟩ : ∃ r, jl_first (jb_term P T s t) T 0 = r := ⟨_, rfl⟩
  rw [er] at a b c
  have hb := b
  rw [jl_term h2] at hb
  have hm : (i + r) % P < P := Nat.mod_lt _ hP
  by_cases q : s.testBit ((i + r) % P) = true
  · rw [if_pos q] at hb; exact absurd rfl hb
  · rw [if_neg q] at hb
    have q0 : s.testBit ((i + r) % P) = false := by simpa using q
    obtain ⟨f1, f2, f3⟩ := jw_fin P hP2 s (by omega) _ hm q0
    obtain ⟨o1, o2, o3⟩ := jb_or P hP2 s h1 _ hm
    have ht : (i + r) / P ≤ t := by
      rcases Nat.lt_or_ge t ((i + r) / P) with z | z
      · exact absurd (jw_neg _ _ _ _ _ (by omega)) hb
      · exact z
    refine ⟨r, er, a, q0, ht, b, fun j hj => c j (Nat.zero_le _) hj, o1, by omega, Nat.lt_of_le_of_lt (Nat.sub_le _ _) h3, ?_⟩
    rw [Int.ofNat_sub ht, show jw_U P (s ||| 2 ^ ((i + r) % P)) = jw_U P s - 1 by omega]
    exact Nat.pos_of_ne_zero hb
theorem jl_xs {P T i s t x r : Nat} (hP : 1 ≤ P) (hP2 : P < 9) (hi : i < P) (hs : s < 2 ^ P) (hu : jw_U P s + i = P) (hq : s.testBit ((i + r) % P) = false) (ht : (i + r) / P ≤ t) (hb : jb_term P T s t r ≠ 0) (hx : jl_x P s t x) : r ≤ x ∧ jl_x P (s ||| 2 ^ ((i + r) % P)) (t - (i + r) / P) (x - r) := by
  have hp2 := jb_p2 P hP2
  have hm : (i + r) % P < P := Nat.mod_lt _ hP
  obtain ⟨f1, f2, f3⟩ := jw_fin P hP2 s (by omega) _ hm hq
  have hr : r ≤ x := by
    rcases Nat.lt_or_ge x r with z | z
    · rw [← jl_eq hP hP2 hi hs hu hx] at hb
      exact absurd (jm_over z) hb
    · exact z
  refine ⟨hr, ?_⟩
  have hd : (P : Int) * (((i + r) / P : Nat) : Int) + (((i + r) % P : Nat) : Int) = ((i + r : Nat) : Int) := by exact_mod_cast Nat.div_add_mod (i + r) P
  have hI : jw_I P (jw_U P s) = jw_I P (jw_U P s - 1) + i := by
    obtain ⟨r, hr⟩ : ∃ r, jw_U P s = r + 1 := ⟨jw_U P s - 1, by omega⟩
    rw [hr]
    show jw_I P r + (P - (r + 1)) = jw_I P r + i
    omega
  unfold jl_x at hx ⊢
  rw [show jw_U P (s ||| 2 ^ ((i + r) % P)) = jw_U P s - 1 by omega, Int.ofNat_sub ht, Int.ofNat_sub hr, Int.mul_sub]
  omega
theorem jr_least_in {P B T m : Nat} (hP2 : P < 9) (hP : 1 ≤ P) (hB : B < 10) (hT : T < 10) (hm : m < P) : jr_least (nI P) (nI B) (nI T) (nI m) = if jw_W P T P 0 (B : Int) = 0 then -1 else nI (jl_run P T B (m + 1)).2.2 := by
  unfold jr_least
  rw [nI_toInt (by omega), nI_toInt (by omega), nI_toInt (by omega), nI_toInt (by omega), if_pos (by omega)]
  rfl
theorem jl_0 {P T b : Nat} (hP2 : P < 9) (hb : b < 10) (hw : jw_W P T P 0 (b : Int) ≠ 0) : jl_inv P T 0 0 b := by
  have hp2 := jb_p2 P hP2
  obtain ⟨h1, h2⟩ := jw_start P hP2
  exact ⟨by omega, by omega, hb, by rw [h1]; exact Nat.pos_of_ne_zero hw⟩
theorem jm_shr : ∀ s, s < 256 → ∀ m, m < 8 → ((nI s >>> (nI m &&& 31)) &&& 1) = if s.testBit m then 1 else 0 := by decide +kernel
theorem jl_cmp0 {w : Nat} (h : w < 2 ^ 31) : lg_cmp (lN w) 0 = 0 ↔ w = 0 := by
  constructor
  · intro q
    have a := jv_lc_eq q
    rw [lN_toInt h] at a
    have z : (0 : Int64).toInt = 0 := by decide
    omega
  · intro q
    rw [q]
    exact jv_lc_self 0
set_option maxRecDepth 100000 in
set_option maxHeartbeats 8000000 in
theorem lp_l81 {l : Launch} {D : va_G} {kp : Nat → ClassId} {G : jv_G} {n : Nat} {E : Nat → jv_E} {P T b m i s t x r : Nat} {gl : Nat → Int64} (C : jv_C D vwCl kp G cX9_least RX9 (ck_ws 155) (ck_rm 2 70) ck_NN) {Eo : Nat → jv_E} {fs : List Value} (ho : Eo 58 = .inr (9, fs)) (h40 : fs[40]? = some (.ref 82)) (hnl : jv_nL G = 9)
    (h58 : (∀ k, k ≠ 82 → E k = Eo k)) (h82 : E 82 = .inl (3, 18688, .inr (.inl gl))) (hg : jm_I P T (P * b) 0 gl) (hP : 1 ≤ P) (hP2 : P < 9) (hT : T < 10) (hb : b < 10) (hi : i < P) (hs : s < 2 ^ P) (hu : jw_U P s + i = P) (hx : jl_x P s t x) (hxX : x ≤ P * b) (hr : r ≤ x) (hrT : r ≤ T) (hr0 : jb_term P T s t r ≠ 0) (hrj : ∀ j, j < r → jb_term P T s t j = 0)
    (kk : jv_V l D vwCl kp G 0 0 n E 133 [(7, .int (nI r)), (8, .int (nI i)), (6, .int (nI x)), (5, .int (nI s)), (0, .ref 58), (1, .int (nI P)), (2, .int (nI b)), (3, .int (nI T)), (4, .int (nI m))] []) :
    ∀ (f h : Nat), h + f = r → jv_V l D vwCl kp G 0 0 n E 81 [(7, .int (nI h)), (8, .int (nI i)), (6, .int (nI x)), (5, .int (nI s)), (0, .ref 58), (1, .int (nI P)), (2, .int (nI b)), (3, .int (nI T)), (4, .int (nI m))] [] := by
  have hp2 := jb_p2 P hP2
  have hX := jm_72 hP2 hb
  intro f
  induction f with
  | zero =>
    intro h h1
    have e : h = r := by omega
    subst e
    have hm : (i + h) % P < P := Nat.mod_lt _ hP
    obtain ⟨o1, o2, o3⟩ := jb_or P hP2 s hs _ hm
    have et := jl_termM (T := T) (x := x) (h := h) hu
    rw [jl_eq (t := t) hP hP2 hi hs hu hx] at et
    have hbd := jl_bd (T := T) (s := s) (t := t) (h := h) hP2 hT (by omega)
    have hsh := jm_shr s (by omega) _ (Nat.lt_of_lt_of_le hm (by omega))
    refine jv_iload C dX9_least_81 3 rfl ?_
    refine jv_iload C dX9_least_83 1 rfl ?_
    refine jv_iload C dX9_least_85 0 rfl ?_
    refine jv_iadd C dX9_least_87 ?_
    refine jv_ti (nI_add i h) ?_
    refine jv_iload_n C dX9_least_88 5 rfl ?_
    refine jv_irem C dX9_least_89 (jb_ne0 hP (by omega)) ?_
    refine jv_ti (pk_rem (by omega) (by omega) (by omega)) ?_
    refine jv_ishr C dX9_least_90 ?_
    refine jv_iconst (v := 1) C dX9_least_91 (by decide) ?_
    refine jv_iand C dX9_least_92 ?_
    refine jv_ti hsh ?_
    refine jv_iconst (v := 1) C dX9_least_93 (by decide) ?_
    have tb : s.testBit ((i + h) % P) = false := by
      cases tb : s.testBit ((i + h) % P)
      · rfl
      · rw [if_pos tb] at et; exact absurd et hr0
    rw [if_neg (by rw [tb]; decide)] at et
    obtain ⟨f1, f2, f3⟩ := jw_fin P hP2 s (by omega) _ hm tb
    refine jv_icmp_eq (tgt := 127) C dX9_least_94 (by decide) (fun q => absurd q (by rw [tb]; decide)) (fun _ => ?_)
    refine jv_aload_n C dX9_least_97 4 rfl ?_
    refine jv_getf (fk := 40) C (by decide) ((h58 58 (by decide)).trans ho) rfl hc_in (by decide) hc_f40 rfl h40 dX9_least_98 ?_
    refine jv_iload C dX9_least_101 3 rfl ?_
    refine jv_iconst (v := 1) C dX9_least_103 (by decide) ?_
    refine jv_iload C dX9_least_104 1 rfl ?_
    refine jv_iload C dX9_least_106 0 rfl ?_
    refine jv_iadd C dX9_least_108 ?_
    refine jv_ti (nI_add i h) ?_
    refine jv_iload_n C dX9_least_109 5 rfl ?_
    refine jv_irem C dX9_least_110 (jb_ne0 hP (by omega)) ?_
    refine jv_ti (pk_rem (by omega) (by omega) (by omega)) ?_
    refine jv_ishl C dX9_least_111 ?_
    refine jv_ti (jb_sh _ (by omega)) ?_
    refine jv_ior C dX9_least_112 ?_
    refine jv_ti (jb_nor s _) ?_
    refine jv_iload C dX9_least_113 2 rfl ?_
    refine jv_iload C dX9_least_115 0 rfl ?_
    refine jv_isub C dX9_least_117 ?_
    refine jv_ti (jm_sub (a := x) (b := h) hr) ?_
    refine jv_callS (na := 2) (As := [.int (nI (s ||| 2 ^ ((i + h) % P))), .int (nI (x - h))]) (st := [.ref 82]) C (c_X9_at l D kp (s ||| 2 ^ ((i + h) % P)) (x - h)) gX9_least_X9_at rfl rfl rfl q_X9_at rfl ⟨by decide, by decide⟩ ⟨by decide, by decide⟩ (fun _ h => h) (Nat.le_of_ble_eq_true rfl) rfl dX9_least_118 (fun q n1 E1 hp _ => ?_)
    obtain ⟨rfl, rfl, rfl⟩ := hp
    show jv_V l D vwCl kp G 0 0 n E 121 [(7, .int (nI h)), (8, .int (nI i)), (6, .int (nI x)), (5, .int (nI s)), (0, .ref 58), (1, .int (nI P)), (2, .int (nI b)), (3, .int (nI T)), (4, .int (nI m))] [.int (nI (73 * (s ||| 2 ^ ((i + h) % P)) + (x - h))), .ref 82]
    refine jv_lald C (by decide) h82 (jb_in (by omega) (by decide)) dX9_least_121 ?_
    refine jv_tl (y := lN (jb_term P T s t h)) (by
      rw [jb_cl (by omega), hg _ (by omega) o1 _ (by omega), et]
      congr 2
      · omega
      · exact Int.ofNat_sub hr) ?_
    refine jv_lconst (v := 0) C dX9_least_122 (by decide) ?_
    refine jv_lcmp C dX9_least_123 ?_
    exact jv_if_ne (tgt := 133) C dX9_least_124 (by decide) (fun _ => kk) (fun q => absurd ((jl_cmp0 hbd).mp q) hr0)
  | succ f ih =>
    intro h h1
    have hm : (i + h) % P < P := Nat.mod_lt _ hP
    obtain ⟨o1, o2, o3⟩ := jb_or P hP2 s hs _ hm
    have et := jl_termM (T := T) (x := x) (h := h) hu
    rw [jl_eq (t := t) hP hP2 hi hs hu hx] at et
    have hz := hrj h (by omega)
    have hbd := jl_bd (T := T) (s := s) (t := t) (h := h) hP2 hT (by omega)
    have hsh := jm_shr s (by omega) _ (Nat.lt_of_lt_of_le hm (by omega))
    have go : jv_V l D vwCl kp G 0 0 n E 127 [(7, .int (nI h)), (8, .int (nI i)), (6, .int (nI x)), (5, .int (nI s)), (0, .ref 58), (1, .int (nI P)), (2, .int (nI b)), (3, .int (nI T)), (4, .int (nI m))] [] := by
      refine jv_iinc (v := nI (h + 1)) (lv2 := [(7, .int (nI (h + 1))), (8, .int (nI i)), (6, .int (nI x)), (5, .int (nI s)), (0, .ref 58), (1, .int (nI P)), (2, .int (nI b)), (3, .int (nI T)), (4, .int (nI m))]) C dX9_least_127 hnl 0 rfl (nI_1 h) (by decide) rfl ?_
      refine jv_goto (tgt := 81) C dX9_least_130 (by decide) ?_
      exact ih (h + 1) (by omega)
    refine jv_iload C dX9_least_81 3 rfl ?_
    refine jv_iload C dX9_least_83 1 rfl ?_
    refine jv_iload C dX9_least_85 0 rfl ?_
    refine jv_iadd C dX9_least_87 ?_
    refine jv_ti (nI_add i h) ?_
    refine jv_iload_n C dX9_least_88 5 rfl ?_
    refine jv_irem C dX9_least_89 (jb_ne0 hP (by omega)) ?_
    refine jv_ti (pk_rem (by omega) (by omega) (by omega)) ?_
    refine jv_ishr C dX9_least_90 ?_
    refine jv_iconst (v := 1) C dX9_least_91 (by decide) ?_
    refine jv_iand C dX9_least_92 ?_
    refine jv_ti hsh ?_
    refine jv_iconst (v := 1) C dX9_least_93 (by decide) ?_
    refine jv_icmp_eq (tgt := 127) C dX9_least_94 (by decide) (fun _ => go) (fun q => ?_)
    have tb : s.testBit ((i + h) % P) = false := by
      cases tb : s.testBit ((i + h) % P)
      · rfl
      · exact absurd (if_pos tb) q
    rw [if_neg (by rw [tb]; decide)] at et
    obtain ⟨f1, f2, f3⟩ := jw_fin P hP2 s (by omega) _ hm tb
    refine jv_aload_n C dX9_least_97 4 rfl ?_
    refine jv_getf (fk := 40) C (by decide) ((h58 58 (by decide)).trans ho) rfl hc_in (by decide) hc_f40 rfl h40 dX9_least_98 ?_
    refine jv_iload C dX9_least_101 3 rfl ?_
    refine jv_iconst (v := 1) C dX9_least_103 (by decide) ?_
    refine jv_iload C dX9_least_104 1 rfl ?_
    refine jv_iload C dX9_least_106 0 rfl ?_
    refine jv_iadd C dX9_least_108 ?_
    refine jv_ti (nI_add i h) ?_
    refine jv_iload_n C dX9_least_109 5 rfl ?_
    refine jv_irem C dX9_least_110 (jb_ne0 hP (by omega)) ?_
    refine jv_ti (pk_rem (by omega) (by omega) (by omega)) ?_
    refine jv_ishl C dX9_least_111 ?_
    refine jv_ti (jb_sh _ (by omega)) ?_
    refine jv_ior C dX9_least_112 ?_
    refine jv_ti (jb_nor s _) ?_
    refine jv_iload C dX9_least_113 2 rfl ?_
    refine jv_iload C dX9_least_115 0 rfl ?_
    refine jv_isub C dX9_least_117 ?_
    refine jv_ti (jm_sub (a := x) (b := h) (by omega)) ?_
    refine jv_callS (na := 2) (As := [.int (nI (s ||| 2 ^ ((i + h) % P))), .int (nI (x - h))]) (st := [.ref 82]) C (c_X9_at l D kp (s ||| 2 ^ ((i + h) % P)) (x - h)) gX9_least_X9_at rfl rfl rfl q_X9_at rfl ⟨by decide, by decide⟩ ⟨by decide, by decide⟩ (fun _ h => h) (Nat.le_of_ble_eq_true rfl) rfl dX9_least_118 (fun q n1 E1 hp _ => ?_)
    obtain ⟨rfl, rfl, rfl⟩ := hp
    show jv_V l D vwCl kp G 0 0 n E 121 [(7, .int (nI h)), (8, .int (nI i)), (6, .int (nI x)), (5, .int (nI s)), (0, .ref 58), (1, .int (nI P)), (2, .int (nI b)), (3, .int (nI T)), (4, .int (nI m))] [.int (nI (73 * (s ||| 2 ^ ((i + h) % P)) + (x - h))), .ref 82]
    refine jv_lald C (by decide) h82 (jb_in (by omega) (by decide)) dX9_least_121 ?_
    refine jv_tl (y := lN (jb_term P T s t h)) (by
      rw [jb_cl (by omega), hg _ (by omega) o1 _ (by omega), et]
      congr 2
      · omega
      · exact Int.ofNat_sub (by omega)) ?_
    refine jv_lconst (v := 0) C dX9_least_122 (by decide) ?_
    refine jv_lcmp C dX9_least_123 ?_
    exact jv_if_ne (tgt := 133) C dX9_least_124 (by decide) (fun q => absurd ((jl_cmp0 hbd).mpr hz) q) (fun _ => go)
set_option maxRecDepth 100000 in
set_option maxHeartbeats 8000000 in
theorem lp_l71 {l : Launch} {D : va_G} {kp : Nat → ClassId} {G : jv_G} {n : Nat} {E E0 : Nat → jv_E} {P T b m : Nat} {gl : Nat → Int64} {post : Option Value → Nat → (Nat → jv_E) → Prop} (C : jv_C D vwCl kp G cX9_least RX9 (ck_ws 155) (ck_rm 2 70) ck_NN) {Eo : Nat → jv_E} {fs : List Value} (ho : Eo 58 = .inr (9, fs)) (h40 : fs[40]? = some (.ref 82)) (hnl : jv_nL G = 9) (B : jv_R D vwCl kp G E0 (some .int) 0 0 post)
    (h58 : (∀ k, k ≠ 82 → E k = Eo k)) (h82 : E 82 = .inl (3, 18688, .inr (.inl gl))) (hg : jm_I P T (P * b) 0 gl) (hP : 1 ≤ P) (hP2 : P < 9) (hT : T < 10) (hb : b < 10) (hm : m < P) (hp : post (some (.int (nI (jl_run P T b (m + 1)).2.2))) n E) :
    ∀ (f i s t h x : Nat), i + f = m + 1 → jl_run P T b i = (s, t, h) → jl_inv P T i s t → jl_x P s t x → x ≤ P * b → jv_V l D vwCl kp G 0 0 n E 71 [(8, .int (nI i)), (7, .int (nI h)), (6, .int (nI x)), (5, .int (nI s)), (0, .ref 58), (1, .int (nI P)), (2, .int (nI b)), (3, .int (nI T)), (4, .int (nI m))] [] := by
  have hp2 := jb_p2 P hP2
  intro f
  induction f with
  | zero =>
    intro i s t h x h1 e hv hx hxX
    have ei : i = m + 1 := by omega
    subst ei
    rw [e] at hp
    refine jv_iload C dX9_least_71 0 rfl ?_
    refine jv_iload C dX9_least_73 8 rfl ?_
    refine jv_icmp_gt (tgt := 160) C dX9_least_75 (by decide) (fun _ => ?_) (fun q => absurd (nI_lt (by omega) (by omega)) q)
    refine jv_iload C dX9_least_160 1 rfl ?_
    exact jv_iret C B hp ⟨by decide, by decide⟩ dX9_least_162
  | succ f ih =>
    intro i s t h x h1 e hv hx hxX
    obtain ⟨r, er, r1, r2, r3, r4, r5, r6⟩ := jl_step hP hP2 (by omega) hv
    have e2 : jl_run P T b (i + 1) = (s ||| 2 ^ ((i + r) % P), t - (i + r) / P, r) := by simp only [jl_run, e, er]
    obtain ⟨v1, v2, v3, v4⟩ := hv
    obtain ⟨x1, x2⟩ := jl_xs hP hP2 (by omega) v1 v2 r2 r3 r4 hx
    have hmm : (i + r) % P < P := Nat.mod_lt _ hP
    refine jv_iload C dX9_least_71 0 rfl ?_
    refine jv_iload C dX9_least_73 8 rfl ?_
    refine jv_icmp_gt (tgt := 160) C dX9_least_75 (by decide) (fun q => absurd q (nI_nlt (by omega) (by omega))) (fun _ => ?_)
    refine jv_iconst (v := nI 0) C dX9_least_78 (by decide) ?_
    refine jv_istore (lv2 := [(7, .int (nI 0)), (8, .int (nI i)), (6, .int (nI x)), (5, .int (nI s)), (0, .ref 58), (1, .int (nI P)), (2, .int (nI b)), (3, .int (nI T)), (4, .int (nI m))]) C dX9_least_79 hnl (by decide) rfl ?_
    refine lp_l81 C ho h40 hnl h58 h82 hg hP hP2 hT hb (by omega) v1 v2 hx hxX x1 r1 r4 r5 ?_ r 0 (by omega)
    refine jv_iload C dX9_least_133 3 rfl ?_
    refine jv_iconst (v := 1) C dX9_least_135 (by decide) ?_
    refine jv_iload C dX9_least_136 1 rfl ?_
    refine jv_iload C dX9_least_138 0 rfl ?_
    refine jv_iadd C dX9_least_140 ?_
    refine jv_ti (nI_add i r) ?_
    refine jv_iload_n C dX9_least_141 5 rfl ?_
    refine jv_irem C dX9_least_142 (jb_ne0 hP (by omega)) ?_
    refine jv_ti (pk_rem (by omega) (by omega) (by omega)) ?_
    refine jv_ishl C dX9_least_143 ?_
    refine jv_ti (jb_sh _ (by omega)) ?_
    refine jv_ior C dX9_least_144 ?_
    refine jv_ti (jb_nor s _) ?_
    refine jv_istore (lv2 := [(5, .int (nI (s ||| 2 ^ ((i + r) % P)))), (7, .int (nI r)), (8, .int (nI i)), (6, .int (nI x)), (0, .ref 58), (1, .int (nI P)), (2, .int (nI b)), (3, .int (nI T)), (4, .int (nI m))]) C dX9_least_145 hnl (by decide) rfl ?_
    refine jv_iload C dX9_least_147 3 rfl ?_
    refine jv_iload C dX9_least_149 1 rfl ?_
    refine jv_isub C dX9_least_151 ?_
    refine jv_ti (jm_sub (a := x) (b := r) x1) ?_
    refine jv_istore (lv2 := [(6, .int (nI (x - r))), (5, .int (nI (s ||| 2 ^ ((i + r) % P)))), (7, .int (nI r)), (8, .int (nI i)), (0, .ref 58), (1, .int (nI P)), (2, .int (nI b)), (3, .int (nI T)), (4, .int (nI m))]) C dX9_least_152 hnl (by decide) rfl ?_
    refine jv_iinc (v := nI (i + 1)) (lv2 := [(8, .int (nI (i + 1))), (6, .int (nI (x - r))), (5, .int (nI (s ||| 2 ^ ((i + r) % P)))), (7, .int (nI r)), (0, .ref 58), (1, .int (nI P)), (2, .int (nI b)), (3, .int (nI T)), (4, .int (nI m))]) C dX9_least_154 hnl 3 rfl (nI_1 i) (by decide) rfl ?_
    refine jv_goto (tgt := 71) C dX9_least_157 (by decide) ?_
    refine jv_lpk [0, 3, 1, 2, 4, 5, 6, 7, 8] rfl ?_
    exact ih (i + 1) _ _ _ _ (by omega) e2 r6 x2 (by omega)
set_option maxRecDepth 100000 in
set_option maxHeartbeats 8000000 in
theorem c_X9_least (l : Launch) (D : va_G) (kp : Nat → ClassId) {n : Nat} {E : Nat → jv_E} {fs : List Value} {g0 : Nat → Int64} {post : Option Value → Nat → (Nat → jv_E) → Prop} (h58 : E 58 = .inr (9, fs)) (h40 : fs[40]? = some (.ref 82)) (hlen : 0 < fs.length) (h82 : E 82 = .inl (3, 18688, .inr (.inl g0))) (p1 p2 p3 p4 : Int32)
    (hpo : ∀ (E1 : Nat → jv_E) (gl : Nat → Int64), E1 58 = .inr (9, fs.set 0 (.int 0)) → E1 82 = .inl (3, 18688, .inr (.inl gl)) → (∀ k, k ≠ 58 → k ≠ 82 → E1 k = E k) → post (some (.int (jr_least p1 p2 p3 p4))) n E1) :
    jv_M l D vwCl kp yX9_least (ck_ws 155) (ck_rm 2 70) ck_NN [.ref 58, .int p1, .int p2, .int p3, .int p4] n E 0 0 post := by
  refine jv_of (cc := cX9_least) (maxL := 9) (rt := some .int) (by decide) rfl (Nat.le_of_ble_eq_true rfl) (fun G C B hI hnl => ?_)
  show jv_V l D vwCl kp G 0 0 n E 0 [(0, .ref 58), (1, .int p1), (2, .int p2), (3, .int p3), (4, .int p4)] []
  have h41 : (fs.set 0 (.int 0))[40]? = some (.ref 82) := by rw [List.getElem?_set_ne (by decide)]; exact h40
  have hq : ∀ E1 : Nat → jv_E, (∀ k, k ≠ 82 → E1 k = va_up E 58 (.inr (9, fs.set 0 (.int 0))) k) → E1 58 = .inr (9, fs.set 0 (.int 0)) ∧ ∀ k, k ≠ 58 → k ≠ 82 → E1 k = E k := fun E1 h => ⟨(h 58 (by decide)).trans (va_up_self _ _ _), fun k a b => (h k b).trans (va_up_ne _ _ a)⟩
  have no : jr_least p1 p2 p3 p4 = -2 → jv_V l D vwCl kp G 0 0 n (va_up E 58 (.inr (9, fs.set 0 (.int 0)))) 28 [(0, .ref 58), (1, .int p1), (2, .int p2), (3, .int p3), (4, .int p4)] [] := fun q => by
    refine jv_bipush (v := -2) C dX9_least_28 (by decide) ?_
    exact jv_iret C B (by rw [← q]; exact hpo _ g0 (va_up_self _ _ _) ((va_up_ne _ _ (by decide)).trans h82) (fun k a _ => va_up_ne _ _ a)) ⟨by decide, by decide⟩ dX9_least_30
  refine jv_aload_n C dX9_least_0 0 rfl ?_
  refine jv_iconst (v := 0) C dX9_least_1 (by decide) ?_
  refine jv_putf (fk := 0) (ty := .int) (fs2 := fs.set 0 (.int 0)) C (by decide) h58 rfl hc_in tyX9 tyX9_ok nmX9 (by decide) hc_f0 rfl rfl rfl (fun _ => rfl) (fun _ => rfl) hlen dX9_least_2 rfl ?_
  refine jv_iload_n C dX9_least_5 1 rfl ?_
  refine jv_iload_n C dX9_least_6 2 rfl ?_
  refine jv_iload_n C dX9_least_7 3 rfl ?_
  refine jv_callS (na := 3) (As := [.int p1, .int p2, .int p3]) (st := []) C (c_X9_areRows l D kp p1 p2 p3) gX9_least_X9_areRows rfl rfl rfl q_X9_areRows rfl ⟨by decide, by decide⟩ ⟨by decide, by decide⟩ (fun _ h => h) (Nat.le_of_ble_eq_true rfl) rfl dX9_least_8 (fun r n1 E1 hp _ => ?_)
  obtain ⟨⟨rfl, hc⟩ | ⟨rfl, hc⟩, rfl, rfl⟩ := hp
  · obtain ⟨P, hP1, rfl, hP3⟩ := jb_of2 (x := p1) (m := 8) (by omega) (by omega)
    obtain ⟨b, hb1, rfl, hb3⟩ := jb_of2 (x := p2) (m := 9) (by omega) (by omega)
    obtain ⟨T, hT1, rfl, hT3⟩ := jb_of2 (x := p3) (m := 9) (by omega) (by omega)
    have hP : 1 ≤ P := by omega
    have hP2 : P < 9 := by omega
    have hb : b < 10 := by omega
    have hT : T < 10 := by omega
    have hX := jm_72 hP2 hb
    show jv_V l D vwCl kp G 0 0 n (va_up E 58 (.inr (9, fs.set 0 (.int 0)))) 11 [(0, .ref 58), (1, .int (nI P)), (2, .int (nI b)), (3, .int (nI T)), (4, .int p4)] [.int 1]
    refine jv_if_eq (tgt := 28) C dX9_least_11 (by decide) (fun h => absurd h (by decide)) (fun _ => ?_)
    refine jv_iload C dX9_least_14 4 rfl ?_
    refine jv_i2l C dX9_least_16 ?_
    refine jv_lconst (v := 0) C dX9_least_17 (by decide) ?_
    refine jv_iload_n C dX9_least_18 1 rfl ?_
    refine jv_iconst (v := 1) C dX9_least_19 (by decide) ?_
    refine jv_isub C dX9_least_20 ?_
    refine jv_ti (jm_sub (a := P) (b := 1) hP) ?_
    refine jv_i2l C dX9_least_21 ?_
    refine jv_tl (nI_l (by omega)) ?_
    refine jv_callS (na := 3) (As := [.long p4.toInt64, .long 0, .long (lN (P - 1))]) (st := []) C (c_X9_in l D kp p4.toInt64 0 (lN (P - 1)) p4.toInt 0 ((P - 1 : Nat) : Int) (jv_t64 p4) (by decide) (lN_toInt (by omega))) gX9_least_X9_in rfl rfl rfl q_X9_in rfl ⟨by decide, by decide⟩ ⟨by decide, by decide⟩ (fun _ h => h) (Nat.le_of_ble_eq_true rfl) rfl dX9_least_22 (fun r n1 E1 hp _ => ?_)
    obtain ⟨⟨rfl, hd⟩ | ⟨rfl, hd⟩, rfl, rfl⟩ := hp
    · obtain ⟨m, hm1, rfl, hm3⟩ := jb_of2 (x := p4) (m := 8) (by omega) (by omega)
      have hm : m < P := by omega
      have er := jr_least_in hP2 hP hb hT hm
      show jv_V l D vwCl kp G 0 0 n (va_up E 58 (.inr (9, fs.set 0 (.int 0)))) 25 [(0, .ref 58), (1, .int (nI P)), (2, .int (nI b)), (3, .int (nI T)), (4, .int (nI m))] [.int 1]
      refine jv_if_ne (tgt := 31) C dX9_least_25 (by decide) (fun _ => ?_) (fun h => absurd h (by decide))
      refine jv_aload_n C dX9_least_31 0 rfl ?_
      refine jv_iload_n C dX9_least_32 1 rfl ?_
      refine jv_iload_n C dX9_least_33 2 rfl ?_
      refine jv_iload_n C dX9_least_34 3 rfl ?_
      refine jv_callV (na := 3) (As := [.int (nI P), .int (nI b), .int (nI T)]) (st := []) C (c_X9_laysRows l D kp (va_up_self _ _ _) h41 (jv_n (by decide) h82) hP hP2 hb hT) gX9_least_X9_laysRows rfl (by decide) (va_up_self _ _ _) rfl rfl rfl q_X9_laysRows rfl ⟨by decide, by decide⟩ ⟨by decide, by decide⟩ (fun _ h => h) (Nat.le_of_ble_eq_true rfl) rfl dX9_least_35 (fun r n1 E1 hp _ => ?_)
      obtain ⟨rfl, rfl, k58, gl, k82, kI⟩ := hp
      show jv_V l D vwCl kp G 0 0 n E1 38 [(0, .ref 58), (1, .int (nI P)), (2, .int (nI b)), (3, .int (nI T)), (4, .int (nI m))] []
      refine jv_aload_n C dX9_least_38 0 rfl ?_
      refine jv_getf (fk := 40) C (by decide) ((hq _ k58).1) rfl hc_in (by decide) hc_f40 rfl h41 dX9_least_39 ?_
      refine jv_iconst (v := nI 0) C dX9_least_42 (by decide) ?_
      refine jv_iload_n C dX9_least_43 1 rfl ?_
      refine jv_iload_n C dX9_least_44 2 rfl ?_
      refine jv_imul C dX9_least_45 ?_
      refine jv_ti (pk_mul P b) ?_
      refine jv_callS (na := 2) (As := [.int (nI 0), .int (nI (P * b))]) (st := [.ref 82]) C (c_X9_at l D kp 0 (P * b)) gX9_least_X9_at rfl rfl rfl q_X9_at rfl ⟨by decide, by decide⟩ ⟨by decide, by decide⟩ (fun _ h => h) (Nat.le_of_ble_eq_true rfl) rfl dX9_least_46 (fun r n1 E2 hp _ => ?_)
      obtain ⟨rfl, rfl, rfl⟩ := hp
      show jv_V l D vwCl kp G 0 0 n E1 49 [(0, .ref 58), (1, .int (nI P)), (2, .int (nI b)), (3, .int (nI T)), (4, .int (nI m))] [.int (nI (73 * 0 + P * b)), .ref 82]
      refine jv_lald C (by decide) k82 (jb_in (by omega) (by decide)) dX9_least_49 ?_
      have hp2 := jb_p2 P hP2
      refine jv_tl (y := lN (jw_W P T P 0 (b : Int))) (by rw [jw_eq hP hP2, jb_cl (by omega), kI 0 (by omega) (by omega) _ (Nat.le_refl _), (jw_start P hP2).1]) ?_
      refine jv_lconst (v := 0) C dX9_least_50 (by decide) ?_
      refine jv_lcmp C dX9_least_51 ?_
      have hbd : jw_W P T P 0 (b : Int) < 2 ^ 31 := jb_lt hP2 hT
      refine jv_if_ne (tgt := 57) C dX9_least_52 (by decide) (fun q => ?_) (fun q => ?_)
      · have hw : jw_W P T P 0 (b : Int) ≠ 0 := fun z => q ((jl_cmp0 hbd).mpr z)
        refine jv_iconst (v := nI 0) C dX9_least_57 (by decide) ?_
        refine jv_istore (lv2 := [(5, .int (nI 0)), (0, .ref 58), (1, .int (nI P)), (2, .int (nI b)), (3, .int (nI T)), (4, .int (nI m))]) C dX9_least_58 hnl (by decide) rfl ?_
        refine jv_iload_n C dX9_least_60 2 rfl ?_
        refine jv_iload_n C dX9_least_61 3 rfl ?_
        refine jv_imul C dX9_least_62 ?_
        refine jv_ti (pk_mul P b) ?_
        refine jv_istore (lv2 := [(6, .int (nI (P * b))), (5, .int (nI 0)), (0, .ref 58), (1, .int (nI P)), (2, .int (nI b)), (3, .int (nI T)), (4, .int (nI m))]) C dX9_least_63 hnl (by decide) rfl ?_
        refine jv_iconst (v := nI 0) C dX9_least_65 (by decide) ?_
        refine jv_istore (lv2 := [(7, .int (nI 0)), (6, .int (nI (P * b))), (5, .int (nI 0)), (0, .ref 58), (1, .int (nI P)), (2, .int (nI b)), (3, .int (nI T)), (4, .int (nI m))]) C dX9_least_66 hnl (by decide) rfl ?_
        refine jv_iconst (v := nI 0) C dX9_least_68 (by decide) ?_
        refine jv_istore (lv2 := [(8, .int (nI 0)), (7, .int (nI 0)), (6, .int (nI (P * b))), (5, .int (nI 0)), (0, .ref 58), (1, .int (nI P)), (2, .int (nI b)), (3, .int (nI T)), (4, .int (nI m))]) C dX9_least_69 hnl (by decide) rfl ?_
        refine lp_l71 C (va_up_self E 58 (.inr (9, fs.set 0 (.int 0)))) h41 hnl B k58 k82 kI hP hP2 hT hb hm (by have z := hpo _ gl (hq _ k58).1 k82 (hq _ k58).2; rw [er, if_neg hw] at z; exact z) (m + 1) 0 0 b 0 (P * b) (by omega) rfl (jl_0 hP2 hb hw) ?_ (Nat.le_refl _)
        unfold jl_x
        rw [(jw_start P hP2).1, (jw_start P hP2).2, Int.natCast_mul]
        omega
      · have hw : jw_W P T P 0 (b : Int) = 0 := (jl_cmp0 hbd).mp q
        refine jv_iconst (v := -1) C dX9_least_55 (by decide) ?_
        exact jv_iret C B (by have z := hpo _ gl (hq _ k58).1 k82 (hq _ k58).2; rw [er, if_pos hw] at z; exact z) ⟨by decide, by decide⟩ dX9_least_56
    · show jv_V l D vwCl kp G 0 0 n (va_up E 58 (.inr (9, fs.set 0 (.int 0)))) 25 [(0, .ref 58), (1, .int (nI P)), (2, .int (nI b)), (3, .int (nI T)), (4, .int p4)] [.int 0]
      refine jv_if_ne (tgt := 31) C dX9_least_25 (by decide) (fun h => absurd (by decide) h) (fun _ => no ?_)
      unfold jr_least
      rw [if_neg (by omega)]
  · show jv_V l D vwCl kp G 0 0 n (va_up E 58 (.inr (9, fs.set 0 (.int 0)))) 11 [(0, .ref 58), (1, .int p1), (2, .int p2), (3, .int p3), (4, .int p4)] [.int 0]
    refine jv_if_eq (tgt := 28) C dX9_least_11 (by decide) (fun _ => no ?_) (fun h => absurd (by decide) h)
    unfold jr_least
    rw [if_neg (fun q => hc q.1)]

def jb_cnt (p1 : Int32) : Int32 := (((((((p1 - (((p1.toUInt32 >>> ((1 : Int32).toUInt32 &&& Int32.toUInt32 31)).toInt32) &&& 1431655765)) &&& 858993459) + ((((p1 - (((p1.toUInt32 >>> ((1 : Int32).toUInt32 &&& Int32.toUInt32 31)).toInt32) &&& 1431655765)).toUInt32 >>> ((2 : Int32).toUInt32 &&& Int32.toUInt32 31)).toInt32) &&& 858993459)) + (((((p1 - (((p1.toUInt32 >>> ((1 : Int32).toUInt32 &&& Int32.toUInt32 31)).toInt32) &&& 1431655765)) &&& 858993459) + ((((p1 - (((p1.toUInt32 >>> ((1 : Int32).toUInt32 &&& Int32.toUInt32 31)).toInt32) &&& 1431655765)).toUInt32 >>> ((2 : Int32).toUInt32 &&& Int32.toUInt32 31)).toInt32) &&& 858993459)).toUInt32 >>> ((4 : Int32).toUInt32 &&& Int32.toUInt32 31)).toInt32)) &&& 252645135) + (((((((p1 - (((p1.toUInt32 >>> ((1 : Int32).toUInt32 &&& Int32.toUInt32 31)).toInt32) &&& 1431655765)) &&& 858993459) + ((((p1 - (((p1.toUInt32 >>> ((1 : Int32).toUInt32 &&& Int32.toUInt32 31)).toInt32) &&& 1431655765)).toUInt32 >>> ((2 : Int32).toUInt32 &&& Int32.toUInt32 31)).toInt32) &&& 858993459)) + (((((p1 - (((p1.toUInt32 >>> ((1 : Int32).toUInt32 &&& Int32.toUInt32 31)).toInt32) &&& 1431655765)) &&& 858993459) + ((((p1 - (((p1.toUInt32 >>> ((1 : Int32).toUInt32 &&& Int32.toUInt32 31)).toInt32) &&& 1431655765)).toUInt32 >>> ((2 : Int32).toUInt32 &&& Int32.toUInt32 31)).toInt32) &&& 858993459)).toUInt32 >>> ((4 : Int32).toUInt32 &&& Int32.toUInt32 31)).toInt32)) &&& 252645135).toUInt32 >>> ((8 : Int32).toUInt32 &&& Int32.toUInt32 31)).toInt32)) + ((((((((p1 - (((p1.toUInt32 >>> ((1 : Int32).toUInt32 &&& Int32.toUInt32 31)).toInt32) &&& 1431655765)) &&& 858993459) + ((((p1 - (((p1.toUInt32 >>> ((1 : Int32).toUInt32 &&& Int32.toUInt32 31)).toInt32) &&& 1431655765)).toUInt32 >>> ((2 : Int32).toUInt32 &&& Int32.toUInt32 31)).toInt32) &&& 858993459)) + (((((p1 - (((p1.toUInt32 >>> ((1 : Int32).toUInt32 &&& Int32.toUInt32 31)).toInt32) &&& 1431655765)) &&& 858993459) + ((((p1 - (((p1.toUInt32 >>> ((1 : Int32).toUInt32 &&& Int32.toUInt32 31)).toInt32) &&& 1431655765)).toUInt32 >>> ((2 : Int32).toUInt32 &&& Int32.toUInt32 31)).toInt32) &&& 858993459)).toUInt32 >>> ((4 : Int32).toUInt32 &&& Int32.toUInt32 31)).toInt32)) &&& 252645135) + (((((((p1 - (((p1.toUInt32 >>> ((1 : Int32).toUInt32 &&& Int32.toUInt32 31)).toInt32) &&& 1431655765)) &&& 858993459) + ((((p1 - (((p1.toUInt32 >>> ((1 : Int32).toUInt32 &&& Int32.toUInt32 31)).toInt32) &&& 1431655765)).toUInt32 >>> ((2 : Int32).toUInt32 &&& Int32.toUInt32 31)).toInt32) &&& 858993459)) + (((((p1 - (((p1.toUInt32 >>> ((1 : Int32).toUInt32 &&& Int32.toUInt32 31)).toInt32) &&& 1431655765)) &&& 858993459) + ((((p1 - (((p1.toUInt32 >>> ((1 : Int32).toUInt32 &&& Int32.toUInt32 31)).toInt32) &&& 1431655765)).toUInt32 >>> ((2 : Int32).toUInt32 &&& Int32.toUInt32 31)).toInt32) &&& 858993459)).toUInt32 >>> ((4 : Int32).toUInt32 &&& Int32.toUInt32 31)).toInt32)) &&& 252645135).toUInt32 >>> ((8 : Int32).toUInt32 &&& Int32.toUInt32 31)).toInt32)).toUInt32 >>> ((16 : Int32).toUInt32 &&& Int32.toUInt32 31)).toInt32)) &&& 63
theorem jb_cnt_ok : ∀ s, s < 256 → jb_cnt (nI s) = nI (jw_bc s) := by decide +kernel
theorem jb_m10 (s : Nat) : nI s * 10 = nI (s * 10) := pk_mul s 10
/-- what addWays leaves: in the row of s, from its place q on, the row of a is added -/
def jb_add (g : Nat → Int32) (s a q x : Nat) : Nat → Int32 := fun j => if s * 10 + q ≤ j ∧ j < s * 10 + x then g j + g (a * 10 + (j - s * 10 - q)) else g j
theorem jb_add0 (g : Nat → Int32) (s a q : Nat) : jb_add g s a q q = g := by
  funext j
  unfold jb_add
  rw [if_neg (by omega)]
theorem jb_addx {g : Nat → Int32} {s a q : Nat} (h : 10 ≤ q) : jb_add g s a q 10 = g := by
  funext j
  unfold jb_add
  rw [if_neg (by omega)]
theorem jb_add_step {g : Nat → Int32} {s a q x : Nat} (hq : q ≤ x) (hx : x < 10) (hsa : s < a) : upd (jb_add g s a q x) (s * 10 + x) (jb_add g s a q x (s * 10 + x) + jb_add g s a q x (a * 10 + x - q)) = jb_add g s a q (x + 1) := by
  funext j
  by_cases hj : j = s * 10 + x
  · subst hj
    rw [pk_us]
    unfold jb_add
    rw [if_neg (by omega), if_neg (by omega), if_pos (by omega)]
    congr 2
    omega
  · rw [pk_un hj]
    unfold jb_add
    by_cases h1 : s * 10 + q ≤ j ∧ j < s * 10 + x
    · rw [if_pos h1, if_pos (by omega)]
    · rw [if_neg h1, if_neg (by omega)]
def jb_J (P T k h : Nat) (g : Nat → Int32) : Prop := (∀ s, k < s → s < 2 ^ P → ∀ t, t < 10 → g (s * 10 + t) = nI (jw_W P T (jw_U P s) s (t : Int))) ∧ (∀ t, t < 10 → g (k * 10 + t) = nI (jw_sum (jb_term P T k t) h)) ∧ (∀ s, s < k → ∀ t, t < 10 → g (s * 10 + t) = 0)
theorem jb_IJ {P T k : Nat} {g : Nat → Int32} (h : jb_I P T (k + 1) g) : jb_J P T k 0 g := ⟨fun s h1 => h.1 s h1, fun t ht => (h.2 k (by omega) t ht).trans nI_0.symm, fun s h1 => h.2 s (by omega)⟩
theorem jb_JI {P T k : Nat} {g : Nat → Int32} (hU : 0 < jw_U P k) (h : jb_J P T k (T + 1) g) : jb_I P T k g := ⟨fun s h1 h2 t ht => by
  by_cases e : s = k
  · subst e
    rw [h.2.1 t ht, jb_W hU]
  · exact h.1 s (by omega) h2 t ht, h.2.2⟩
theorem jb_step {P T k h : Nat} {g : Nat → Int32} (hP : 1 ≤ P) (hP2 : P < 9) (hk : k < 2 ^ P) (hU0 : 0 < jw_U P k) (hJ : jb_J P T k h g) : jb_J P T k (h + 1) (if k.testBit ((jw_bc k + h) % P) then g else jb_add g k (k ||| 2 ^ ((jw_bc k + h) % P)) ((jw_bc k + h) / P) 10) := by
  have hU := jb_U P hP2 k hk
  have e : jw_bc k = P - jw_U P k := by omega
  have hm : (jw_bc k + h) % P < P := Nat.mod_lt _ (by omega)
  obtain ⟨o1, o2, o3⟩ := jb_or P hP2 k hk _ hm
  have hp2 := jb_p2 P hP2
  by_cases tb : k.testBit ((jw_bc k + h) % P) = true
  · rw [if_pos tb]
    refine ⟨hJ.1, fun t ht => ?_, hJ.2.2⟩
    rw [hJ.2.1 t ht, jw_sum]
    have : jb_term P T k t h = 0 := by
      unfold jb_term
      rw [← e, if_pos tb]
    rw [this, Nat.add_zero]
  · have tb0 : k.testBit ((jw_bc k + h) % P) = false := by simpa using tb
    have tb2 := o3 tb0
    obtain ⟨f1, f2, f3⟩ := jw_fin P hP2 k (by omega) _ hm tb0
    rw [if_neg tb]
    obtain ⟨q, hqd⟩ : ∃ q, (jw_bc k + h) / P = q := ⟨_, rfl⟩
    rw [hqd]
    refine ⟨fun s h1 h2 t ht => ?_, fun t ht => ?_, fun s h1 t ht => ?_⟩
    · unfold jb_add
      rw [if_neg (by omega)]
      exact hJ.1 s h1 h2 t ht
    · have et : jb_term P T k t h = jw_W P T (jw_U P (k ||| 2 ^ ((jw_bc k + h) % P))) (k ||| 2 ^ ((jw_bc k + h) % P)) ((t : Int) - (q : Int)) := by
        unfold jb_term
        rw [← e, if_neg tb, hqd]
        congr 1
        omega
      rw [jw_sum, et]
      unfold jb_add
      rcases Nat.lt_or_ge t q with hq | hq
      · rw [if_neg (by omega), hJ.2.1 t ht, jw_neg _ _ _ _ _ (by omega), Nat.add_zero]
      · rw [if_pos (by omega), hJ.2.1 t ht, show k * 10 + t - k * 10 - q = t - q by omega, hJ.1 _ tb2 o1 _ (by omega), nI_add, Int.ofNat_sub hq]
    · unfold jb_add
      rw [if_neg (by omega)]
      exact hJ.2.2 s h1 t ht
theorem jr_rows_in {P B T : Nat} (hP : 1 ≤ P) (hP2 : P < 9) (hB : B < 10) (hT : T < 10) : jr_rows (nI P) (nI B) (nI T) = lN (jw_W P T P 0 (B : Int)) := by
  unfold jr_rows
  rw [nI_toInt (by omega), nI_toInt (by omega), nI_toInt (by omega), if_pos (by omega)]
  rfl
theorem jb_toN {x : Int32} {P : Nat} (h : x = nI P) (h0 : 0 ≤ x.toInt) (h1 : x.toInt ≤ 9) (hP : P < 2 ^ 31) : (P : Int) = x.toInt := by
  rw [h, nI_toInt hP]
theorem jl_neg : ∀ t, t < 10 → ∀ q, q < 20 → t < q → (nI t - nI q).toInt < 0 := by decide +kernel
theorem dX8_rows_0 : decode cX8_rows 0 = .ok (.iload_n 1, 1) := by decide +kernel
theorem dX8_rows_1 : decode cX8_rows 1 = .ok (.iload_n 2, 1) := by decide +kernel
theorem dX8_rows_2 : decode cX8_rows 2 = .ok (.iload_n 3, 1) := by decide +kernel
theorem dX8_rows_3 : decode cX8_rows 3 = .ok (.invokestatic 286, 3) := by decide +kernel
theorem dX8_rows_6 : decode cX8_rows 6 = .ok (.ifCond .ne 7, 3) := by decide +kernel
theorem dX8_rows_9 : decode cX8_rows 9 = .ok (.ldc2_w 237, 3) := by decide +kernel
theorem dX8_rows_12 : decode cX8_rows 12 = .ok (.lreturn, 1) := by decide +kernel
theorem dX8_rows_13 : decode cX8_rows 13 = .ok (.aload_n 0, 1) := by decide +kernel
theorem dX8_rows_14 : decode cX8_rows 14 = .ok (.getfield 60, 3) := by decide +kernel
theorem dX8_rows_17 : decode cX8_rows 17 = .ok (.iload_n 1, 1) := by decide +kernel
theorem dX8_rows_18 : decode cX8_rows 18 = .ok (.iload_n 2, 1) := by decide +kernel
theorem dX8_rows_19 : decode cX8_rows 19 = .ok (.iload_n 3, 1) := by decide +kernel
theorem dX8_rows_20 : decode cX8_rows 20 = .ok (.invokevirtual 290, 3) := by decide +kernel
theorem dX8_rows_23 : decode cX8_rows 23 = .ok (.i2l, 1) := by decide +kernel
theorem dX8_rows_24 : decode cX8_rows 24 = .ok (.lreturn, 1) := by decide +kernel
theorem q_X8_rows : yX8_rows.cls ≠ "java/lang/invoke/MethodHandle" ∧ yX8_rows.cls ≠ "java/lang/invoke/VarHandle" ∧ (parseMethodDescriptor yX8_rows.desc).map (fun d => d.parameters.length) = some 3 := by decide +kernel
theorem dX8_least_0 : decode cX8_least 0 = .ok (.iload_n 1, 1) := by decide +kernel
theorem dX8_least_1 : decode cX8_least 1 = .ok (.iload_n 2, 1) := by decide +kernel
theorem dX8_least_2 : decode cX8_least 2 = .ok (.iload_n 3, 1) := by decide +kernel
theorem dX8_least_3 : decode cX8_least 3 = .ok (.invokestatic 286, 3) := by decide +kernel
theorem dX8_least_6 : decode cX8_least 6 = .ok (.ifCond .eq 14, 3) := by decide +kernel
theorem dX8_least_9 : decode cX8_least 9 = .ok (.iload 4, 2) := by decide +kernel
theorem dX8_least_11 : decode cX8_least 11 = .ok (.ifCond .lt 9, 3) := by decide +kernel
theorem dX8_least_14 : decode cX8_least 14 = .ok (.iload 4, 2) := by decide +kernel
theorem dX8_least_16 : decode cX8_least 16 = .ok (.iload_n 1, 1) := by decide +kernel
theorem dX8_least_17 : decode cX8_least 17 = .ok (.if_icmp .lt 6, 3) := by decide +kernel
theorem dX8_least_20 : decode cX8_least 20 = .ok (.bipush (-2), 2) := by decide +kernel
theorem dX8_least_22 : decode cX8_least 22 = .ok (.ireturn, 1) := by decide +kernel
theorem dX8_least_23 : decode cX8_least 23 = .ok (.aload_n 0, 1) := by decide +kernel
theorem dX8_least_24 : decode cX8_least 24 = .ok (.getfield 60, 3) := by decide +kernel
theorem dX8_least_27 : decode cX8_least 27 = .ok (.iload_n 1, 1) := by decide +kernel
theorem dX8_least_28 : decode cX8_least 28 = .ok (.iload_n 2, 1) := by decide +kernel
theorem dX8_least_29 : decode cX8_least 29 = .ok (.iload_n 3, 1) := by decide +kernel
theorem dX8_least_30 : decode cX8_least 30 = .ok (.invokevirtual 290, 3) := by decide +kernel
theorem dX8_least_33 : decode cX8_least 33 = .ok (.ifCond .ne 7, 3) := by decide +kernel
theorem dX8_least_36 : decode cX8_least 36 = .ok (.iconst (-1), 1) := by decide +kernel
theorem dX8_least_37 : decode cX8_least 37 = .ok (.goto 15, 3) := by decide +kernel
theorem dX8_least_40 : decode cX8_least 40 = .ok (.aload_n 0, 1) := by decide +kernel
theorem dX8_least_41 : decode cX8_least 41 = .ok (.getfield 60, 3) := by decide +kernel
theorem dX8_least_44 : decode cX8_least 44 = .ok (.iload_n 1, 1) := by decide +kernel
theorem dX8_least_45 : decode cX8_least 45 = .ok (.iload_n 2, 1) := by decide +kernel
theorem dX8_least_46 : decode cX8_least 46 = .ok (.iload_n 3, 1) := by decide +kernel
theorem dX8_least_47 : decode cX8_least 47 = .ok (.iload 4, 2) := by decide +kernel
theorem dX8_least_49 : decode cX8_least 49 = .ok (.invokevirtual 294, 3) := by decide +kernel
theorem dX8_least_52 : decode cX8_least 52 = .ok (.ireturn, 1) := by decide +kernel
theorem q_X8_least : yX8_least.cls ≠ "java/lang/invoke/MethodHandle" ∧ yX8_least.cls ≠ "java/lang/invoke/VarHandle" ∧ (parseMethodDescriptor yX8_least.desc).map (fun d => d.parameters.length) = some 4 := by decide +kernel
theorem dX8_isRowKind_0 : decode cX8_isRowKind 0 = .ok (.iload_n 0, 1) := by decide +kernel
theorem dX8_isRowKind_1 : decode cX8_isRowKind 1 = .ok (.iconst 1, 1) := by decide +kernel
theorem dX8_isRowKind_2 : decode cX8_isRowKind 2 = .ok (.if_icmp .lt 31, 3) := by decide +kernel
theorem dX8_isRowKind_5 : decode cX8_isRowKind 5 = .ok (.iload_n 0, 1) := by decide +kernel
theorem dX8_isRowKind_6 : decode cX8_isRowKind 6 = .ok (.bipush 8, 2) := by decide +kernel
theorem dX8_isRowKind_8 : decode cX8_isRowKind 8 = .ok (.if_icmp .gt 25, 3) := by decide +kernel
theorem dX8_isRowKind_11 : decode cX8_isRowKind 11 = .ok (.iload_n 1, 1) := by decide +kernel
theorem dX8_isRowKind_12 : decode cX8_isRowKind 12 = .ok (.bipush 9, 2) := by decide +kernel
theorem dX8_isRowKind_14 : decode cX8_isRowKind 14 = .ok (.invokestatic 112, 3) := by decide +kernel
theorem dX8_isRowKind_17 : decode cX8_isRowKind 17 = .ok (.ifCond .eq 16, 3) := by decide +kernel
theorem dX8_isRowKind_20 : decode cX8_isRowKind 20 = .ok (.iload_n 2, 1) := by decide +kernel
theorem dX8_isRowKind_21 : decode cX8_isRowKind 21 = .ok (.bipush 9, 2) := by decide +kernel
theorem dX8_isRowKind_23 : decode cX8_isRowKind 23 = .ok (.invokestatic 112, 3) := by decide +kernel
theorem dX8_isRowKind_26 : decode cX8_isRowKind 26 = .ok (.ifCond .eq 7, 3) := by decide +kernel
theorem dX8_isRowKind_29 : decode cX8_isRowKind 29 = .ok (.iconst 1, 1) := by decide +kernel
theorem dX8_isRowKind_30 : decode cX8_isRowKind 30 = .ok (.goto 4, 3) := by decide +kernel
theorem dX8_isRowKind_33 : decode cX8_isRowKind 33 = .ok (.iconst 0, 1) := by decide +kernel
theorem dX8_isRowKind_34 : decode cX8_isRowKind 34 = .ok (.ireturn, 1) := by decide +kernel
theorem q_X8_isRowKind : yX8_isRowKind.cls ≠ "java/lang/invoke/MethodHandle" ∧ yX8_isRowKind.cls ≠ "java/lang/invoke/VarHandle" ∧ (parseMethodDescriptor yX8_isRowKind.desc).map (fun d => d.parameters.length) = some 3 := by decide +kernel
theorem dX8_isWithin_0 : decode cX8_isWithin 0 = .ok (.iload_n 0, 1) := by decide +kernel
theorem dX8_isWithin_1 : decode cX8_isWithin 1 = .ok (.ifCond .lt 12, 3) := by decide +kernel
theorem dX8_isWithin_4 : decode cX8_isWithin 4 = .ok (.iload_n 0, 1) := by decide +kernel
theorem dX8_isWithin_5 : decode cX8_isWithin 5 = .ok (.iload_n 1, 1) := by decide +kernel
theorem dX8_isWithin_6 : decode cX8_isWithin 6 = .ok (.if_icmp .gt 7, 3) := by decide +kernel
theorem dX8_isWithin_9 : decode cX8_isWithin 9 = .ok (.iconst 1, 1) := by decide +kernel
theorem dX8_isWithin_10 : decode cX8_isWithin 10 = .ok (.goto 4, 3) := by decide +kernel
theorem dX8_isWithin_13 : decode cX8_isWithin 13 = .ok (.iconst 0, 1) := by decide +kernel
theorem dX8_isWithin_14 : decode cX8_isWithin 14 = .ok (.ireturn, 1) := by decide +kernel
theorem q_X8_isWithin : yX8_isWithin.cls ≠ "java/lang/invoke/MethodHandle" ∧ yX8_isWithin.cls ≠ "java/lang/invoke/VarHandle" ∧ (parseMethodDescriptor yX8_isWithin.desc).map (fun d => d.parameters.length) = some 2 := by decide +kernel
theorem dX9_rows_0 : decode cX9_rows 0 = .ok (.aload_n 0, 1) := by decide +kernel
theorem dX9_rows_1 : decode cX9_rows 1 = .ok (.iconst 0, 1) := by decide +kernel
theorem dX9_rows_2 : decode cX9_rows 2 = .ok (.putfield 92, 3) := by decide +kernel
theorem dX9_rows_5 : decode cX9_rows 5 = .ok (.iload_n 1, 1) := by decide +kernel
theorem dX9_rows_6 : decode cX9_rows 6 = .ok (.iload_n 2, 1) := by decide +kernel
theorem dX9_rows_7 : decode cX9_rows 7 = .ok (.iload_n 3, 1) := by decide +kernel
theorem dX9_rows_8 : decode cX9_rows 8 = .ok (.invokestatic 369, 3) := by decide +kernel
theorem dX9_rows_11 : decode cX9_rows 11 = .ok (.ifCond .ne 7, 3) := by decide +kernel
theorem dX9_rows_14 : decode cX9_rows 14 = .ok (.ldc2_w 323, 3) := by decide +kernel
theorem dX9_rows_17 : decode cX9_rows 17 = .ok (.lreturn, 1) := by decide +kernel
theorem dX9_rows_18 : decode cX9_rows 18 = .ok (.aload_n 0, 1) := by decide +kernel
theorem dX9_rows_19 : decode cX9_rows 19 = .ok (.iload_n 1, 1) := by decide +kernel
theorem dX9_rows_20 : decode cX9_rows 20 = .ok (.iload_n 2, 1) := by decide +kernel
theorem dX9_rows_21 : decode cX9_rows 21 = .ok (.iload_n 3, 1) := by decide +kernel
theorem dX9_rows_22 : decode cX9_rows 22 = .ok (.invokevirtual 372, 3) := by decide +kernel
theorem dX9_rows_25 : decode cX9_rows 25 = .ok (.aload_n 0, 1) := by decide +kernel
theorem dX9_rows_26 : decode cX9_rows 26 = .ok (.getfield 86, 3) := by decide +kernel
theorem dX9_rows_29 : decode cX9_rows 29 = .ok (.iconst 0, 1) := by decide +kernel
theorem dX9_rows_30 : decode cX9_rows 30 = .ok (.iload_n 1, 1) := by decide +kernel
theorem dX9_rows_31 : decode cX9_rows 31 = .ok (.iload_n 2, 1) := by decide +kernel
theorem dX9_rows_32 : decode cX9_rows 32 = .ok (.imul, 1) := by decide +kernel
theorem dX9_rows_33 : decode cX9_rows 33 = .ok (.invokestatic 365, 3) := by decide +kernel
theorem dX9_rows_36 : decode cX9_rows 36 = .ok (.laload, 1) := by decide +kernel
theorem dX9_rows_37 : decode cX9_rows 37 = .ok (.lreturn, 1) := by decide +kernel
theorem q_X9_rows : yX9_rows.cls ≠ "java/lang/invoke/MethodHandle" ∧ yX9_rows.cls ≠ "java/lang/invoke/VarHandle" ∧ (parseMethodDescriptor yX9_rows.desc).map (fun d => d.parameters.length) = some 3 := by decide +kernel
theorem dX7_waysOf_0 : decode cX7_waysOf 0 = .ok (.aload_n 0, 1) := by decide +kernel
theorem dX7_waysOf_1 : decode cX7_waysOf 1 = .ok (.iload_n 1, 1) := by decide +kernel
theorem dX7_waysOf_2 : decode cX7_waysOf 2 = .ok (.iload_n 3, 1) := by decide +kernel
theorem dX7_waysOf_3 : decode cX7_waysOf 3 = .ok (.invokevirtual 15, 3) := by decide +kernel
theorem dX7_waysOf_6 : decode cX7_waysOf 6 = .ok (.aload_n 0, 1) := by decide +kernel
theorem dX7_waysOf_7 : decode cX7_waysOf 7 = .ok (.iconst 0, 1) := by decide +kernel
theorem dX7_waysOf_8 : decode cX7_waysOf 8 = .ok (.iload_n 2, 1) := by decide +kernel
theorem dX7_waysOf_9 : decode cX7_waysOf 9 = .ok (.invokevirtual 19, 3) := by decide +kernel
theorem dX7_waysOf_12 : decode cX7_waysOf 12 = .ok (.ireturn, 1) := by decide +kernel
theorem q_X7_waysOf : yX7_waysOf.cls ≠ "java/lang/invoke/MethodHandle" ∧ yX7_waysOf.cls ≠ "java/lang/invoke/VarHandle" ∧ (parseMethodDescriptor yX7_waysOf.desc).map (fun d => d.parameters.length) = some 3 := by decide +kernel
theorem dX7_fill_0 : decode cX7_fill 0 = .ok (.iload_n 1, 1) := by decide +kernel
theorem dX7_fill_1 : decode cX7_fill 1 = .ok (.aload_n 0, 1) := by decide +kernel
theorem dX7_fill_2 : decode cX7_fill 2 = .ok (.getfield 23, 3) := by decide +kernel
theorem dX7_fill_5 : decode cX7_fill 5 = .ok (.if_icmp .ne 12, 3) := by decide +kernel
theorem dX7_fill_8 : decode cX7_fill 8 = .ok (.iload_n 2, 1) := by decide +kernel
theorem dX7_fill_9 : decode cX7_fill 9 = .ok (.aload_n 0, 1) := by decide +kernel
theorem dX7_fill_10 : decode cX7_fill 10 = .ok (.getfield 27, 3) := by decide +kernel
theorem dX7_fill_13 : decode cX7_fill 13 = .ok (.if_icmp .ne 4, 3) := by decide +kernel
theorem dX7_fill_16 : decode cX7_fill 16 = .ok (.return_, 1) := by decide +kernel
theorem dX7_fill_17 : decode cX7_fill 17 = .ok (.aload_n 0, 1) := by decide +kernel
theorem dX7_fill_18 : decode cX7_fill 18 = .ok (.iload_n 1, 1) := by decide +kernel
theorem dX7_fill_19 : decode cX7_fill 19 = .ok (.putfield 23, 3) := by decide +kernel
theorem dX7_fill_22 : decode cX7_fill 22 = .ok (.aload_n 0, 1) := by decide +kernel
theorem dX7_fill_23 : decode cX7_fill 23 = .ok (.iload_n 2, 1) := by decide +kernel
theorem dX7_fill_24 : decode cX7_fill 24 = .ok (.putfield 27, 3) := by decide +kernel
theorem dX7_fill_27 : decode cX7_fill 27 = .ok (.aload_n 0, 1) := by decide +kernel
theorem dX7_fill_28 : decode cX7_fill 28 = .ok (.getfield 11, 3) := by decide +kernel
theorem dX7_fill_31 : decode cX7_fill 31 = .ok (.iconst 0, 1) := by decide +kernel
theorem dX7_fill_32 : decode cX7_fill 32 = .ok (.invokestatic 30, 3) := by decide +kernel
theorem dX7_fill_35 : decode cX7_fill 35 = .ok (.iconst 1, 1) := by decide +kernel
theorem dX7_fill_36 : decode cX7_fill 36 = .ok (.iload_n 1, 1) := by decide +kernel
theorem dX7_fill_37 : decode cX7_fill 37 = .ok (.ishl, 1) := by decide +kernel
theorem dX7_fill_38 : decode cX7_fill 38 = .ok (.iconst 1, 1) := by decide +kernel
theorem dX7_fill_39 : decode cX7_fill 39 = .ok (.isub, 1) := by decide +kernel
theorem dX7_fill_40 : decode cX7_fill 40 = .ok (.istore_n 3, 1) := by decide +kernel
theorem dX7_fill_41 : decode cX7_fill 41 = .ok (.aload_n 0, 1) := by decide +kernel
theorem dX7_fill_42 : decode cX7_fill 42 = .ok (.getfield 11, 3) := by decide +kernel
theorem dX7_fill_45 : decode cX7_fill 45 = .ok (.iload_n 3, 1) := by decide +kernel
theorem dX7_fill_46 : decode cX7_fill 46 = .ok (.bipush 10, 2) := by decide +kernel
theorem dX7_fill_48 : decode cX7_fill 48 = .ok (.imul, 1) := by decide +kernel
theorem dX7_fill_49 : decode cX7_fill 49 = .ok (.iconst 1, 1) := by decide +kernel
theorem dX7_fill_50 : decode cX7_fill 50 = .ok (.iastore, 1) := by decide +kernel
theorem dX7_fill_51 : decode cX7_fill 51 = .ok (.iload_n 3, 1) := by decide +kernel
theorem dX7_fill_52 : decode cX7_fill 52 = .ok (.iconst 1, 1) := by decide +kernel
theorem dX7_fill_53 : decode cX7_fill 53 = .ok (.isub, 1) := by decide +kernel
theorem dX7_fill_54 : decode cX7_fill 54 = .ok (.istore 4, 2) := by decide +kernel
theorem dX7_fill_56 : decode cX7_fill 56 = .ok (.iload 4, 2) := by decide +kernel
theorem dX7_fill_58 : decode cX7_fill 58 = .ok (.ifCond .lt 32, 3) := by decide +kernel
theorem dX7_fill_61 : decode cX7_fill 61 = .ok (.iconst 0, 1) := by decide +kernel
theorem dX7_fill_62 : decode cX7_fill 62 = .ok (.istore 5, 2) := by decide +kernel
theorem dX7_fill_64 : decode cX7_fill 64 = .ok (.iload 5, 2) := by decide +kernel
theorem dX7_fill_66 : decode cX7_fill 66 = .ok (.iload_n 2, 1) := by decide +kernel
theorem dX7_fill_67 : decode cX7_fill 67 = .ok (.if_icmp .gt 17, 3) := by decide +kernel
theorem dX7_fill_70 : decode cX7_fill 70 = .ok (.aload_n 0, 1) := by decide +kernel
theorem dX7_fill_71 : decode cX7_fill 71 = .ok (.iload 4, 2) := by decide +kernel
theorem dX7_fill_73 : decode cX7_fill 73 = .ok (.iload 5, 2) := by decide +kernel
theorem dX7_fill_75 : decode cX7_fill 75 = .ok (.invokevirtual 35, 3) := by decide +kernel
theorem dX7_fill_78 : decode cX7_fill 78 = .ok (.iinc 5 1, 3) := by decide +kernel
theorem dX7_fill_81 : decode cX7_fill 81 = .ok (.goto (-17), 3) := by decide +kernel
theorem dX7_fill_84 : decode cX7_fill 84 = .ok (.iinc 4 (-1), 3) := by decide +kernel
theorem dX7_fill_87 : decode cX7_fill 87 = .ok (.goto (-31), 3) := by decide +kernel
theorem dX7_fill_90 : decode cX7_fill 90 = .ok (.return_, 1) := by decide +kernel
theorem q_X7_fill : yX7_fill.cls ≠ "java/lang/invoke/MethodHandle" ∧ yX7_fill.cls ≠ "java/lang/invoke/VarHandle" ∧ (parseMethodDescriptor yX7_fill.desc).map (fun d => d.parameters.length) = some 2 := by decide +kernel
theorem dX7_addWays_0 : decode cX7_addWays 0 = .ok (.iload_n 1, 1) := by decide +kernel
theorem dX7_addWays_1 : decode cX7_addWays 1 = .ok (.invokestatic 38, 3) := by decide +kernel
theorem dX7_addWays_4 : decode cX7_addWays 4 = .ok (.iload_n 2, 1) := by decide +kernel
theorem dX7_addWays_5 : decode cX7_addWays 5 = .ok (.iadd, 1) := by decide +kernel
theorem dX7_addWays_6 : decode cX7_addWays 6 = .ok (.istore_n 3, 1) := by decide +kernel
theorem dX7_addWays_7 : decode cX7_addWays 7 = .ok (.iload_n 1, 1) := by decide +kernel
theorem dX7_addWays_8 : decode cX7_addWays 8 = .ok (.aload_n 0, 1) := by decide +kernel
theorem dX7_addWays_9 : decode cX7_addWays 9 = .ok (.iload_n 3, 1) := by decide +kernel
theorem dX7_addWays_10 : decode cX7_addWays 10 = .ok (.invokevirtual 44, 3) := by decide +kernel
theorem dX7_addWays_13 : decode cX7_addWays 13 = .ok (.ior, 1) := by decide +kernel
theorem dX7_addWays_14 : decode cX7_addWays 14 = .ok (.istore 4, 2) := by decide +kernel
theorem dX7_addWays_16 : decode cX7_addWays 16 = .ok (.iload 4, 2) := by decide +kernel
theorem dX7_addWays_18 : decode cX7_addWays 18 = .ok (.iload_n 1, 1) := by decide +kernel
theorem dX7_addWays_19 : decode cX7_addWays 19 = .ok (.if_icmp .ne 4, 3) := by decide +kernel
theorem dX7_addWays_22 : decode cX7_addWays 22 = .ok (.return_, 1) := by decide +kernel
theorem dX7_addWays_23 : decode cX7_addWays 23 = .ok (.aload_n 0, 1) := by decide +kernel
theorem dX7_addWays_24 : decode cX7_addWays 24 = .ok (.iload_n 3, 1) := by decide +kernel
theorem dX7_addWays_25 : decode cX7_addWays 25 = .ok (.invokevirtual 47, 3) := by decide +kernel
theorem dX7_addWays_28 : decode cX7_addWays 28 = .ok (.istore 5, 2) := by decide +kernel
theorem dX7_addWays_30 : decode cX7_addWays 30 = .ok (.iload 5, 2) := by decide +kernel
theorem dX7_addWays_32 : decode cX7_addWays 32 = .ok (.istore 6, 2) := by decide +kernel
theorem dX7_addWays_34 : decode cX7_addWays 34 = .ok (.iload 6, 2) := by decide +kernel
theorem dX7_addWays_36 : decode cX7_addWays 36 = .ok (.bipush 10, 2) := by decide +kernel
theorem dX7_addWays_38 : decode cX7_addWays 38 = .ok (.if_icmp .ge 40, 3) := by decide +kernel
theorem dX7_addWays_41 : decode cX7_addWays 41 = .ok (.aload_n 0, 1) := by decide +kernel
theorem dX7_addWays_42 : decode cX7_addWays 42 = .ok (.getfield 11, 3) := by decide +kernel
theorem dX7_addWays_45 : decode cX7_addWays 45 = .ok (.iload_n 1, 1) := by decide +kernel
theorem dX7_addWays_46 : decode cX7_addWays 46 = .ok (.bipush 10, 2) := by decide +kernel
theorem dX7_addWays_48 : decode cX7_addWays 48 = .ok (.imul, 1) := by decide +kernel
theorem dX7_addWays_49 : decode cX7_addWays 49 = .ok (.iload 6, 2) := by decide +kernel
theorem dX7_addWays_51 : decode cX7_addWays 51 = .ok (.iadd, 1) := by decide +kernel
theorem dX7_addWays_52 : decode cX7_addWays 52 = .ok (.dup2, 1) := by decide +kernel
theorem dX7_addWays_53 : decode cX7_addWays 53 = .ok (.iaload, 1) := by decide +kernel
theorem dX7_addWays_54 : decode cX7_addWays 54 = .ok (.aload_n 0, 1) := by decide +kernel
theorem dX7_addWays_55 : decode cX7_addWays 55 = .ok (.getfield 11, 3) := by decide +kernel
theorem dX7_addWays_58 : decode cX7_addWays 58 = .ok (.iload 4, 2) := by decide +kernel
theorem dX7_addWays_60 : decode cX7_addWays 60 = .ok (.bipush 10, 2) := by decide +kernel
theorem dX7_addWays_62 : decode cX7_addWays 62 = .ok (.imul, 1) := by decide +kernel
theorem dX7_addWays_63 : decode cX7_addWays 63 = .ok (.iload 6, 2) := by decide +kernel
theorem dX7_addWays_65 : decode cX7_addWays 65 = .ok (.iadd, 1) := by decide +kernel
theorem dX7_addWays_66 : decode cX7_addWays 66 = .ok (.iload 5, 2) := by decide +kernel
theorem dX7_addWays_68 : decode cX7_addWays 68 = .ok (.isub, 1) := by decide +kernel
theorem dX7_addWays_69 : decode cX7_addWays 69 = .ok (.iaload, 1) := by decide +kernel
theorem dX7_addWays_70 : decode cX7_addWays 70 = .ok (.iadd, 1) := by decide +kernel
theorem dX7_addWays_71 : decode cX7_addWays 71 = .ok (.iastore, 1) := by decide +kernel
theorem dX7_addWays_72 : decode cX7_addWays 72 = .ok (.iinc 6 1, 3) := by decide +kernel
theorem dX7_addWays_75 : decode cX7_addWays 75 = .ok (.goto (-41), 3) := by decide +kernel
theorem dX7_addWays_78 : decode cX7_addWays 78 = .ok (.return_, 1) := by decide +kernel
theorem q_X7_addWays : yX7_addWays.cls ≠ "java/lang/invoke/MethodHandle" ∧ yX7_addWays.cls ≠ "java/lang/invoke/VarHandle" ∧ (parseMethodDescriptor yX7_addWays.desc).map (fun d => d.parameters.length) = some 2 := by decide +kernel
theorem dX7_bitOf_0 : decode cX7_bitOf 0 = .ok (.aload_n 0, 1) := by decide +kernel
theorem dX7_bitOf_1 : decode cX7_bitOf 1 = .ok (.getfield 23, 3) := by decide +kernel
theorem dX7_bitOf_4 : decode cX7_bitOf 4 = .ok (.iconst 1, 1) := by decide +kernel
theorem dX7_bitOf_5 : decode cX7_bitOf 5 = .ok (.if_icmp .ge 7, 3) := by decide +kernel
theorem dX7_bitOf_8 : decode cX7_bitOf 8 = .ok (.iconst 0, 1) := by decide +kernel
theorem dX7_bitOf_9 : decode cX7_bitOf 9 = .ok (.goto 11, 3) := by decide +kernel
theorem dX7_bitOf_12 : decode cX7_bitOf 12 = .ok (.iconst 1, 1) := by decide +kernel
theorem dX7_bitOf_13 : decode cX7_bitOf 13 = .ok (.iload_n 1, 1) := by decide +kernel
theorem dX7_bitOf_14 : decode cX7_bitOf 14 = .ok (.aload_n 0, 1) := by decide +kernel
theorem dX7_bitOf_15 : decode cX7_bitOf 15 = .ok (.getfield 23, 3) := by decide +kernel
theorem dX7_bitOf_18 : decode cX7_bitOf 18 = .ok (.irem, 1) := by decide +kernel
theorem dX7_bitOf_19 : decode cX7_bitOf 19 = .ok (.ishl, 1) := by decide +kernel
theorem dX7_bitOf_20 : decode cX7_bitOf 20 = .ok (.ireturn, 1) := by decide +kernel
theorem q_X7_bitOf : yX7_bitOf.cls ≠ "java/lang/invoke/MethodHandle" ∧ yX7_bitOf.cls ≠ "java/lang/invoke/VarHandle" ∧ (parseMethodDescriptor yX7_bitOf.desc).map (fun d => d.parameters.length) = some 1 := by decide +kernel
theorem dX7_turnsOf_0 : decode cX7_turnsOf 0 = .ok (.aload_n 0, 1) := by decide +kernel
theorem dX7_turnsOf_1 : decode cX7_turnsOf 1 = .ok (.getfield 23, 3) := by decide +kernel
theorem dX7_turnsOf_4 : decode cX7_turnsOf 4 = .ok (.iconst 1, 1) := by decide +kernel
theorem dX7_turnsOf_5 : decode cX7_turnsOf 5 = .ok (.if_icmp .ge 7, 3) := by decide +kernel
theorem dX7_turnsOf_8 : decode cX7_turnsOf 8 = .ok (.iconst 0, 1) := by decide +kernel
theorem dX7_turnsOf_9 : decode cX7_turnsOf 9 = .ok (.goto 9, 3) := by decide +kernel
theorem dX7_turnsOf_12 : decode cX7_turnsOf 12 = .ok (.iload_n 1, 1) := by decide +kernel
theorem dX7_turnsOf_13 : decode cX7_turnsOf 13 = .ok (.aload_n 0, 1) := by decide +kernel
theorem dX7_turnsOf_14 : decode cX7_turnsOf 14 = .ok (.getfield 23, 3) := by decide +kernel
theorem dX7_turnsOf_17 : decode cX7_turnsOf 17 = .ok (.idiv, 1) := by decide +kernel
theorem dX7_turnsOf_18 : decode cX7_turnsOf 18 = .ok (.ireturn, 1) := by decide +kernel
theorem q_X7_turnsOf : yX7_turnsOf.cls ≠ "java/lang/invoke/MethodHandle" ∧ yX7_turnsOf.cls ≠ "java/lang/invoke/VarHandle" ∧ (parseMethodDescriptor yX7_turnsOf.desc).map (fun d => d.parameters.length) = some 1 := by decide +kernel
theorem dX7_waysOn_0 : decode cX7_waysOn 0 = .ok (.iload_n 1, 1) := by decide +kernel
theorem dX7_waysOn_1 : decode cX7_waysOn 1 = .ok (.bipush 10, 2) := by decide +kernel
theorem dX7_waysOn_3 : decode cX7_waysOn 3 = .ok (.imul, 1) := by decide +kernel
theorem dX7_waysOn_4 : decode cX7_waysOn 4 = .ok (.iload_n 2, 1) := by decide +kernel
theorem dX7_waysOn_5 : decode cX7_waysOn 5 = .ok (.iadd, 1) := by decide +kernel
theorem dX7_waysOn_6 : decode cX7_waysOn 6 = .ok (.istore_n 3, 1) := by decide +kernel
theorem dX7_waysOn_7 : decode cX7_waysOn 7 = .ok (.iload_n 2, 1) := by decide +kernel
theorem dX7_waysOn_8 : decode cX7_waysOn 8 = .ok (.ifCond .lt 22, 3) := by decide +kernel
theorem dX7_waysOn_11 : decode cX7_waysOn 11 = .ok (.iload_n 2, 1) := by decide +kernel
theorem dX7_waysOn_12 : decode cX7_waysOn 12 = .ok (.bipush 10, 2) := by decide +kernel
theorem dX7_waysOn_14 : decode cX7_waysOn 14 = .ok (.if_icmp .ge 16, 3) := by decide +kernel
theorem dX7_waysOn_17 : decode cX7_waysOn 17 = .ok (.iload_n 3, 1) := by decide +kernel
theorem dX7_waysOn_18 : decode cX7_waysOn 18 = .ok (.ifCond .lt 12, 3) := by decide +kernel
theorem dX7_waysOn_21 : decode cX7_waysOn 21 = .ok (.iload_n 3, 1) := by decide +kernel
theorem dX7_waysOn_22 : decode cX7_waysOn 22 = .ok (.aload_n 0, 1) := by decide +kernel
theorem dX7_waysOn_23 : decode cX7_waysOn 23 = .ok (.getfield 11, 3) := by decide +kernel
theorem dX7_waysOn_26 : decode cX7_waysOn 26 = .ok (.arraylength, 1) := by decide +kernel
theorem dX7_waysOn_27 : decode cX7_waysOn 27 = .ok (.if_icmp .lt 7, 3) := by decide +kernel
theorem dX7_waysOn_30 : decode cX7_waysOn 30 = .ok (.iconst 0, 1) := by decide +kernel
theorem dX7_waysOn_31 : decode cX7_waysOn 31 = .ok (.goto 9, 3) := by decide +kernel
theorem dX7_waysOn_34 : decode cX7_waysOn 34 = .ok (.aload_n 0, 1) := by decide +kernel
theorem dX7_waysOn_35 : decode cX7_waysOn 35 = .ok (.getfield 11, 3) := by decide +kernel
theorem dX7_waysOn_38 : decode cX7_waysOn 38 = .ok (.iload_n 3, 1) := by decide +kernel
theorem dX7_waysOn_39 : decode cX7_waysOn 39 = .ok (.iaload, 1) := by decide +kernel
theorem dX7_waysOn_40 : decode cX7_waysOn 40 = .ok (.ireturn, 1) := by decide +kernel
theorem q_X7_waysOn : yX7_waysOn.cls ≠ "java/lang/invoke/MethodHandle" ∧ yX7_waysOn.cls ≠ "java/lang/invoke/VarHandle" ∧ (parseMethodDescriptor yX7_waysOn.desc).map (fun d => d.parameters.length) = some 2 := by decide +kernel
theorem dX7_heightOfLeast_0 : decode cX7_heightOfLeast 0 = .ok (.aload_n 0, 1) := by decide +kernel
theorem dX7_heightOfLeast_1 : decode cX7_heightOfLeast 1 = .ok (.iload_n 1, 1) := by decide +kernel
theorem dX7_heightOfLeast_2 : decode cX7_heightOfLeast 2 = .ok (.iload_n 3, 1) := by decide +kernel
theorem dX7_heightOfLeast_3 : decode cX7_heightOfLeast 3 = .ok (.invokevirtual 15, 3) := by decide +kernel
theorem dX7_heightOfLeast_6 : decode cX7_heightOfLeast 6 = .ok (.iconst 0, 1) := by decide +kernel
theorem dX7_heightOfLeast_7 : decode cX7_heightOfLeast 7 = .ok (.istore 5, 2) := by decide +kernel
theorem dX7_heightOfLeast_9 : decode cX7_heightOfLeast 9 = .ok (.iload_n 2, 1) := by decide +kernel
theorem dX7_heightOfLeast_10 : decode cX7_heightOfLeast 10 = .ok (.istore 6, 2) := by decide +kernel
theorem dX7_heightOfLeast_12 : decode cX7_heightOfLeast 12 = .ok (.iconst 0, 1) := by decide +kernel
theorem dX7_heightOfLeast_13 : decode cX7_heightOfLeast 13 = .ok (.istore 7, 2) := by decide +kernel
theorem dX7_heightOfLeast_15 : decode cX7_heightOfLeast 15 = .ok (.iconst 0, 1) := by decide +kernel
theorem dX7_heightOfLeast_16 : decode cX7_heightOfLeast 16 = .ok (.istore 8, 2) := by decide +kernel
theorem dX7_heightOfLeast_18 : decode cX7_heightOfLeast 18 = .ok (.iload 8, 2) := by decide +kernel
theorem dX7_heightOfLeast_20 : decode cX7_heightOfLeast 20 = .ok (.iload 4, 2) := by decide +kernel
theorem dX7_heightOfLeast_22 : decode cX7_heightOfLeast 22 = .ok (.if_icmp .gt 49, 3) := by decide +kernel
theorem dX7_heightOfLeast_25 : decode cX7_heightOfLeast 25 = .ok (.aload_n 0, 1) := by decide +kernel
theorem dX7_heightOfLeast_26 : decode cX7_heightOfLeast 26 = .ok (.iload 5, 2) := by decide +kernel
theorem dX7_heightOfLeast_28 : decode cX7_heightOfLeast 28 = .ok (.iload 6, 2) := by decide +kernel
theorem dX7_heightOfLeast_30 : decode cX7_heightOfLeast 30 = .ok (.iload 8, 2) := by decide +kernel
theorem dX7_heightOfLeast_32 : decode cX7_heightOfLeast 32 = .ok (.invokevirtual 50, 3) := by decide +kernel
theorem dX7_heightOfLeast_35 : decode cX7_heightOfLeast 35 = .ok (.istore 7, 2) := by decide +kernel
theorem dX7_heightOfLeast_37 : decode cX7_heightOfLeast 37 = .ok (.iload 5, 2) := by decide +kernel
theorem dX7_heightOfLeast_39 : decode cX7_heightOfLeast 39 = .ok (.aload_n 0, 1) := by decide +kernel
theorem dX7_heightOfLeast_40 : decode cX7_heightOfLeast 40 = .ok (.iload 8, 2) := by decide +kernel
theorem dX7_heightOfLeast_42 : decode cX7_heightOfLeast 42 = .ok (.iload 7, 2) := by decide +kernel
theorem dX7_heightOfLeast_44 : decode cX7_heightOfLeast 44 = .ok (.iadd, 1) := by decide +kernel
theorem dX7_heightOfLeast_45 : decode cX7_heightOfLeast 45 = .ok (.invokevirtual 44, 3) := by decide +kernel
theorem dX7_heightOfLeast_48 : decode cX7_heightOfLeast 48 = .ok (.ior, 1) := by decide +kernel
theorem dX7_heightOfLeast_49 : decode cX7_heightOfLeast 49 = .ok (.istore 5, 2) := by decide +kernel
theorem dX7_heightOfLeast_51 : decode cX7_heightOfLeast 51 = .ok (.iload 6, 2) := by decide +kernel
theorem dX7_heightOfLeast_53 : decode cX7_heightOfLeast 53 = .ok (.aload_n 0, 1) := by decide +kernel
theorem dX7_heightOfLeast_54 : decode cX7_heightOfLeast 54 = .ok (.iload 8, 2) := by decide +kernel
theorem dX7_heightOfLeast_56 : decode cX7_heightOfLeast 56 = .ok (.iload 7, 2) := by decide +kernel
theorem dX7_heightOfLeast_58 : decode cX7_heightOfLeast 58 = .ok (.iadd, 1) := by decide +kernel
theorem dX7_heightOfLeast_59 : decode cX7_heightOfLeast 59 = .ok (.invokevirtual 47, 3) := by decide +kernel
theorem dX7_heightOfLeast_62 : decode cX7_heightOfLeast 62 = .ok (.isub, 1) := by decide +kernel
theorem dX7_heightOfLeast_63 : decode cX7_heightOfLeast 63 = .ok (.istore 6, 2) := by decide +kernel
theorem dX7_heightOfLeast_65 : decode cX7_heightOfLeast 65 = .ok (.iinc 8 1, 3) := by decide +kernel
theorem dX7_heightOfLeast_68 : decode cX7_heightOfLeast 68 = .ok (.goto (-50), 3) := by decide +kernel
theorem dX7_heightOfLeast_71 : decode cX7_heightOfLeast 71 = .ok (.iload 7, 2) := by decide +kernel
theorem dX7_heightOfLeast_73 : decode cX7_heightOfLeast 73 = .ok (.ireturn, 1) := by decide +kernel
theorem q_X7_heightOfLeast : yX7_heightOfLeast.cls ≠ "java/lang/invoke/MethodHandle" ∧ yX7_heightOfLeast.cls ≠ "java/lang/invoke/VarHandle" ∧ (parseMethodDescriptor yX7_heightOfLeast.desc).map (fun d => d.parameters.length) = some 4 := by decide +kernel
theorem dX7_leastHeight_0 : decode cX7_leastHeight 0 = .ok (.iconst 0, 1) := by decide +kernel
theorem dX7_leastHeight_1 : decode cX7_leastHeight 1 = .ok (.istore 4, 2) := by decide +kernel
theorem dX7_leastHeight_3 : decode cX7_leastHeight 3 = .ok (.iload 4, 2) := by decide +kernel
theorem dX7_leastHeight_5 : decode cX7_leastHeight 5 = .ok (.aload_n 0, 1) := by decide +kernel
theorem dX7_leastHeight_6 : decode cX7_leastHeight 6 = .ok (.getfield 27, 3) := by decide +kernel
theorem dX7_leastHeight_9 : decode cX7_leastHeight 9 = .ok (.if_icmp .ge 49, 3) := by decide +kernel
theorem dX7_leastHeight_12 : decode cX7_leastHeight 12 = .ok (.iload_n 1, 1) := by decide +kernel
theorem dX7_leastHeight_13 : decode cX7_leastHeight 13 = .ok (.aload_n 0, 1) := by decide +kernel
theorem dX7_leastHeight_14 : decode cX7_leastHeight 14 = .ok (.iload_n 3, 1) := by decide +kernel
theorem dX7_leastHeight_15 : decode cX7_leastHeight 15 = .ok (.iload 4, 2) := by decide +kernel
theorem dX7_leastHeight_17 : decode cX7_leastHeight 17 = .ok (.iadd, 1) := by decide +kernel
theorem dX7_leastHeight_18 : decode cX7_leastHeight 18 = .ok (.invokevirtual 44, 3) := by decide +kernel
theorem dX7_leastHeight_21 : decode cX7_leastHeight 21 = .ok (.ior, 1) := by decide +kernel
theorem dX7_leastHeight_22 : decode cX7_leastHeight 22 = .ok (.istore 5, 2) := by decide +kernel
theorem dX7_leastHeight_24 : decode cX7_leastHeight 24 = .ok (.iload 5, 2) := by decide +kernel
theorem dX7_leastHeight_26 : decode cX7_leastHeight 26 = .ok (.iload_n 1, 1) := by decide +kernel
theorem dX7_leastHeight_27 : decode cX7_leastHeight 27 = .ok (.if_icmp .eq 25, 3) := by decide +kernel
theorem dX7_leastHeight_30 : decode cX7_leastHeight 30 = .ok (.aload_n 0, 1) := by decide +kernel
theorem dX7_leastHeight_31 : decode cX7_leastHeight 31 = .ok (.iload 5, 2) := by decide +kernel
theorem dX7_leastHeight_33 : decode cX7_leastHeight 33 = .ok (.iload_n 2, 1) := by decide +kernel
theorem dX7_leastHeight_34 : decode cX7_leastHeight 34 = .ok (.aload_n 0, 1) := by decide +kernel
theorem dX7_leastHeight_35 : decode cX7_leastHeight 35 = .ok (.iload_n 3, 1) := by decide +kernel
theorem dX7_leastHeight_36 : decode cX7_leastHeight 36 = .ok (.iload 4, 2) := by decide +kernel
theorem dX7_leastHeight_38 : decode cX7_leastHeight 38 = .ok (.iadd, 1) := by decide +kernel
theorem dX7_leastHeight_39 : decode cX7_leastHeight 39 = .ok (.invokevirtual 47, 3) := by decide +kernel
theorem dX7_leastHeight_42 : decode cX7_leastHeight 42 = .ok (.isub, 1) := by decide +kernel
theorem dX7_leastHeight_43 : decode cX7_leastHeight 43 = .ok (.invokevirtual 19, 3) := by decide +kernel
theorem dX7_leastHeight_46 : decode cX7_leastHeight 46 = .ok (.ifCond .le 6, 3) := by decide +kernel
theorem dX7_leastHeight_49 : decode cX7_leastHeight 49 = .ok (.iload 4, 2) := by decide +kernel
theorem dX7_leastHeight_51 : decode cX7_leastHeight 51 = .ok (.ireturn, 1) := by decide +kernel
theorem dX7_leastHeight_52 : decode cX7_leastHeight 52 = .ok (.iinc 4 1, 3) := by decide +kernel
theorem dX7_leastHeight_55 : decode cX7_leastHeight 55 = .ok (.goto (-52), 3) := by decide +kernel
theorem dX7_leastHeight_58 : decode cX7_leastHeight 58 = .ok (.aload_n 0, 1) := by decide +kernel
theorem dX7_leastHeight_59 : decode cX7_leastHeight 59 = .ok (.getfield 27, 3) := by decide +kernel
theorem dX7_leastHeight_62 : decode cX7_leastHeight 62 = .ok (.ireturn, 1) := by decide +kernel
theorem q_X7_leastHeight : yX7_leastHeight.cls ≠ "java/lang/invoke/MethodHandle" ∧ yX7_leastHeight.cls ≠ "java/lang/invoke/VarHandle" ∧ (parseMethodDescriptor yX7_leastHeight.desc).map (fun d => d.parameters.length) = some 3 := by decide +kernel
theorem dJ6_bitCount_0f7a4_0 : decode cJ6_bitCount_0f7a4 0 = .ok (.iload_n 0, 1) := by decide +kernel
theorem dJ6_bitCount_0f7a4_1 : decode cJ6_bitCount_0f7a4 1 = .ok (.iload_n 0, 1) := by decide +kernel
theorem dJ6_bitCount_0f7a4_2 : decode cJ6_bitCount_0f7a4 2 = .ok (.iconst 1, 1) := by decide +kernel
theorem dJ6_bitCount_0f7a4_3 : decode cJ6_bitCount_0f7a4 3 = .ok (.iushr, 1) := by decide +kernel
theorem dJ6_bitCount_0f7a4_4 : decode cJ6_bitCount_0f7a4 4 = .ok (.ldc_w 265, 3) := by decide +kernel
theorem dJ6_bitCount_0f7a4_7 : decode cJ6_bitCount_0f7a4 7 = .ok (.iand, 1) := by decide +kernel
theorem dJ6_bitCount_0f7a4_8 : decode cJ6_bitCount_0f7a4 8 = .ok (.isub, 1) := by decide +kernel
theorem dJ6_bitCount_0f7a4_9 : decode cJ6_bitCount_0f7a4 9 = .ok (.istore_n 0, 1) := by decide +kernel
theorem dJ6_bitCount_0f7a4_10 : decode cJ6_bitCount_0f7a4 10 = .ok (.iload_n 0, 1) := by decide +kernel
theorem dJ6_bitCount_0f7a4_11 : decode cJ6_bitCount_0f7a4 11 = .ok (.ldc_w 266, 3) := by decide +kernel
theorem dJ6_bitCount_0f7a4_14 : decode cJ6_bitCount_0f7a4 14 = .ok (.iand, 1) := by decide +kernel
theorem dJ6_bitCount_0f7a4_15 : decode cJ6_bitCount_0f7a4 15 = .ok (.iload_n 0, 1) := by decide +kernel
theorem dJ6_bitCount_0f7a4_16 : decode cJ6_bitCount_0f7a4 16 = .ok (.iconst 2, 1) := by decide +kernel
theorem dJ6_bitCount_0f7a4_17 : decode cJ6_bitCount_0f7a4 17 = .ok (.iushr, 1) := by decide +kernel
theorem dJ6_bitCount_0f7a4_18 : decode cJ6_bitCount_0f7a4 18 = .ok (.ldc_w 266, 3) := by decide +kernel
theorem dJ6_bitCount_0f7a4_21 : decode cJ6_bitCount_0f7a4 21 = .ok (.iand, 1) := by decide +kernel
theorem dJ6_bitCount_0f7a4_22 : decode cJ6_bitCount_0f7a4 22 = .ok (.iadd, 1) := by decide +kernel
theorem dJ6_bitCount_0f7a4_23 : decode cJ6_bitCount_0f7a4 23 = .ok (.istore_n 0, 1) := by decide +kernel
theorem dJ6_bitCount_0f7a4_24 : decode cJ6_bitCount_0f7a4 24 = .ok (.iload_n 0, 1) := by decide +kernel
theorem dJ6_bitCount_0f7a4_25 : decode cJ6_bitCount_0f7a4 25 = .ok (.iload_n 0, 1) := by decide +kernel
theorem dJ6_bitCount_0f7a4_26 : decode cJ6_bitCount_0f7a4 26 = .ok (.iconst 4, 1) := by decide +kernel
theorem dJ6_bitCount_0f7a4_27 : decode cJ6_bitCount_0f7a4 27 = .ok (.iushr, 1) := by decide +kernel
theorem dJ6_bitCount_0f7a4_28 : decode cJ6_bitCount_0f7a4 28 = .ok (.iadd, 1) := by decide +kernel
theorem dJ6_bitCount_0f7a4_29 : decode cJ6_bitCount_0f7a4 29 = .ok (.ldc_w 267, 3) := by decide +kernel
theorem dJ6_bitCount_0f7a4_32 : decode cJ6_bitCount_0f7a4 32 = .ok (.iand, 1) := by decide +kernel
theorem dJ6_bitCount_0f7a4_33 : decode cJ6_bitCount_0f7a4 33 = .ok (.istore_n 0, 1) := by decide +kernel
theorem dJ6_bitCount_0f7a4_34 : decode cJ6_bitCount_0f7a4 34 = .ok (.iload_n 0, 1) := by decide +kernel
theorem dJ6_bitCount_0f7a4_35 : decode cJ6_bitCount_0f7a4 35 = .ok (.iload_n 0, 1) := by decide +kernel
theorem dJ6_bitCount_0f7a4_36 : decode cJ6_bitCount_0f7a4 36 = .ok (.bipush 8, 2) := by decide +kernel
theorem dJ6_bitCount_0f7a4_38 : decode cJ6_bitCount_0f7a4 38 = .ok (.iushr, 1) := by decide +kernel
theorem dJ6_bitCount_0f7a4_39 : decode cJ6_bitCount_0f7a4 39 = .ok (.iadd, 1) := by decide +kernel
theorem dJ6_bitCount_0f7a4_40 : decode cJ6_bitCount_0f7a4 40 = .ok (.istore_n 0, 1) := by decide +kernel
theorem dJ6_bitCount_0f7a4_41 : decode cJ6_bitCount_0f7a4 41 = .ok (.iload_n 0, 1) := by decide +kernel
theorem dJ6_bitCount_0f7a4_42 : decode cJ6_bitCount_0f7a4 42 = .ok (.iload_n 0, 1) := by decide +kernel
theorem dJ6_bitCount_0f7a4_43 : decode cJ6_bitCount_0f7a4 43 = .ok (.bipush 16, 2) := by decide +kernel
theorem dJ6_bitCount_0f7a4_45 : decode cJ6_bitCount_0f7a4 45 = .ok (.iushr, 1) := by decide +kernel
theorem dJ6_bitCount_0f7a4_46 : decode cJ6_bitCount_0f7a4 46 = .ok (.iadd, 1) := by decide +kernel
theorem dJ6_bitCount_0f7a4_47 : decode cJ6_bitCount_0f7a4 47 = .ok (.istore_n 0, 1) := by decide +kernel
theorem dJ6_bitCount_0f7a4_48 : decode cJ6_bitCount_0f7a4 48 = .ok (.iload_n 0, 1) := by decide +kernel
theorem dJ6_bitCount_0f7a4_49 : decode cJ6_bitCount_0f7a4 49 = .ok (.bipush 63, 2) := by decide +kernel
theorem dJ6_bitCount_0f7a4_51 : decode cJ6_bitCount_0f7a4 51 = .ok (.iand, 1) := by decide +kernel
theorem dJ6_bitCount_0f7a4_52 : decode cJ6_bitCount_0f7a4 52 = .ok (.ireturn, 1) := by decide +kernel
theorem q_J6_bitCount_0f7a4 : yJ6_bitCount_0f7a4.cls ≠ "java/lang/invoke/MethodHandle" ∧ yJ6_bitCount_0f7a4.cls ≠ "java/lang/invoke/VarHandle" ∧ (parseMethodDescriptor yJ6_bitCount_0f7a4.desc).map (fun d => d.parameters.length) = some 1 := by decide +kernel
theorem dJ7_fill_53178_0 : decode cJ7_fill_53178 0 = .ok (.iconst 0, 1) := by decide +kernel
theorem dJ7_fill_53178_1 : decode cJ7_fill_53178 1 = .ok (.istore_n 2, 1) := by decide +kernel
theorem dJ7_fill_53178_2 : decode cJ7_fill_53178 2 = .ok (.aload_n 0, 1) := by decide +kernel
theorem dJ7_fill_53178_3 : decode cJ7_fill_53178 3 = .ok (.arraylength, 1) := by decide +kernel
theorem dJ7_fill_53178_4 : decode cJ7_fill_53178 4 = .ok (.istore_n 3, 1) := by decide +kernel
theorem dJ7_fill_53178_5 : decode cJ7_fill_53178 5 = .ok (.iload_n 2, 1) := by decide +kernel
theorem dJ7_fill_53178_6 : decode cJ7_fill_53178 6 = .ok (.iload_n 3, 1) := by decide +kernel
theorem dJ7_fill_53178_7 : decode cJ7_fill_53178 7 = .ok (.if_icmp .ge 13, 3) := by decide +kernel
theorem dJ7_fill_53178_10 : decode cJ7_fill_53178 10 = .ok (.aload_n 0, 1) := by decide +kernel
theorem dJ7_fill_53178_11 : decode cJ7_fill_53178 11 = .ok (.iload_n 2, 1) := by decide +kernel
theorem dJ7_fill_53178_12 : decode cJ7_fill_53178 12 = .ok (.iload_n 1, 1) := by decide +kernel
theorem dJ7_fill_53178_13 : decode cJ7_fill_53178 13 = .ok (.iastore, 1) := by decide +kernel
theorem dJ7_fill_53178_14 : decode cJ7_fill_53178 14 = .ok (.iinc 2 1, 3) := by decide +kernel
theorem dJ7_fill_53178_17 : decode cJ7_fill_53178 17 = .ok (.goto (-12), 3) := by decide +kernel
theorem dJ7_fill_53178_20 : decode cJ7_fill_53178 20 = .ok (.return_, 1) := by decide +kernel
theorem q_J7_fill_53178 : yJ7_fill_53178.cls ≠ "java/lang/invoke/MethodHandle" ∧ yJ7_fill_53178.cls ≠ "java/lang/invoke/VarHandle" ∧ (parseMethodDescriptor yJ7_fill_53178.desc).map (fun d => d.parameters.length) = some 2 := by decide +kernel
theorem gX8_rows_X8_isRowKind : GoodIn (ck_ws 42) (va_wsS RX8 286 yX8_isRowKind (ck_ws 44)) := hc_g (o := 8) ro138
theorem gX8_rows_X7_waysOf : GoodIn (ck_ws 42) (wsV RX8 290 yX7_waysOf.cls yX7_waysOf (ck_ws 271)) := hc_v (o := 8) ro139
theorem gX8_least_X8_isRowKind : GoodIn (ck_ws 43) (va_wsS RX8 286 yX8_isRowKind (ck_ws 44)) := hc_g (o := 8) ro138
theorem gX8_least_X7_waysOf : GoodIn (ck_ws 43) (wsV RX8 290 yX7_waysOf.cls yX7_waysOf (ck_ws 271)) := hc_v (o := 8) ro139
theorem gX8_least_X7_heightOfLeast : GoodIn (ck_ws 43) (wsV RX8 294 yX7_heightOfLeast.cls yX7_heightOfLeast (ck_ws 277)) := hc_v (o := 8) ro140
theorem gX8_isRowKind_X8_isWithin : GoodIn (ck_ws 44) (va_wsS RX8 112 yX8_isWithin (ck_ws 59)) := hc_g (o := 8) ro105
theorem gX9_rows_X9_areRows : GoodIn (ck_ws 154) (va_wsS RX9 369 yX9_areRows (ck_ws 153)) := hc_g (o := 9) ro209
theorem gX9_rows_X9_laysRows : GoodIn (ck_ws 154) (wsV RX9 372 yX9_laysRows.cls yX9_laysRows (ck_ws 151)) := hc_v (o := 9) ro210
theorem gX9_rows_X9_at : GoodIn (ck_ws 154) (va_wsS RX9 365 yX9_at (ck_ws 150)) := hc_g (o := 9) ro208
theorem gX7_waysOf_X7_fill : GoodIn (ck_ws 271) (wsV RX7 15 yX7_fill.cls yX7_fill (ck_ws 272)) := hc_v (o := 7) ro91
theorem gX7_waysOf_X7_waysOn : GoodIn (ck_ws 271) (wsV RX7 19 yX7_waysOn.cls yX7_waysOn (ck_ws 276)) := hc_v (o := 7) ro92
theorem gX7_fill_J7_fill_53178 : GoodIn (ck_ws 272) (va_wsS RX7 30 yJ7_fill_53178 (ck_ws 289)) := hc_g (o := 7) ro93
theorem gX7_fill_X7_addWays : GoodIn (ck_ws 272) (wsV RX7 35 yX7_addWays.cls yX7_addWays (ck_ws 273)) := hc_v (o := 7) ro94
theorem gX7_addWays_J6_bitCount_0f7a4 : GoodIn (ck_ws 273) (va_wsS RX7 38 yJ6_bitCount_0f7a4 (ck_ws 279)) := hc_g (o := 7) ro95
theorem gX7_addWays_X7_bitOf : GoodIn (ck_ws 273) (wsV RX7 44 yX7_bitOf.cls yX7_bitOf (ck_ws 274)) := hc_v (o := 7) ro96
theorem gX7_addWays_X7_turnsOf : GoodIn (ck_ws 273) (wsV RX7 47 yX7_turnsOf.cls yX7_turnsOf (ck_ws 275)) := hc_v (o := 7) ro97
theorem gX7_heightOfLeast_X7_fill : GoodIn (ck_ws 277) (wsV RX7 15 yX7_fill.cls yX7_fill (ck_ws 272)) := hc_v (o := 7) ro91
theorem gX7_heightOfLeast_X7_leastHeight : GoodIn (ck_ws 277) (wsV RX7 50 yX7_leastHeight.cls yX7_leastHeight (ck_ws 278)) := hc_v (o := 7) ro98
theorem gX7_heightOfLeast_X7_bitOf : GoodIn (ck_ws 277) (wsV RX7 44 yX7_bitOf.cls yX7_bitOf (ck_ws 274)) := hc_v (o := 7) ro96
theorem gX7_heightOfLeast_X7_turnsOf : GoodIn (ck_ws 277) (wsV RX7 47 yX7_turnsOf.cls yX7_turnsOf (ck_ws 275)) := hc_v (o := 7) ro97
theorem gX7_leastHeight_X7_bitOf : GoodIn (ck_ws 278) (wsV RX7 44 yX7_bitOf.cls yX7_bitOf (ck_ws 274)) := hc_v (o := 7) ro96
theorem gX7_leastHeight_X7_turnsOf : GoodIn (ck_ws 278) (wsV RX7 47 yX7_turnsOf.cls yX7_turnsOf (ck_ws 275)) := hc_v (o := 7) ro97
theorem gX7_leastHeight_X7_waysOn : GoodIn (ck_ws 278) (wsV RX7 19 yX7_waysOn.cls yX7_waysOn (ck_ws 276)) := hc_v (o := 7) ro92
theorem hf7_11 {i : Nat} : Cond.fieldLink RX7 11 (TX7 2).1 (TX7 2).2.1 (TX7 2).2.2.1 ∈ ck_ws i := by
  obtain ⟨C0, T, M, hc, -, -, hw, -⟩ := fo69
  have hc : some (RX7, TX7, 3) = some (C0, T, M) := hc
  cases hc
  exact ck_wsin hw
theorem hf7_23 {i : Nat} : Cond.fieldLink RX7 23 (TX7 0).1 (TX7 0).2.1 (TX7 0).2.2.1 ∈ ck_ws i := by
  obtain ⟨C0, T, M, hc, -, -, hw, -⟩ := fo70
  have hc : some (RX7, TX7, 3) = some (C0, T, M) := hc
  cases hc
  exact ck_wsin hw
theorem hf7_27 {i : Nat} : Cond.fieldLink RX7 27 (TX7 1).1 (TX7 1).2.1 (TX7 1).2.2.1 ∈ ck_ws i := by
  obtain ⟨C0, T, M, hc, -, -, hw, -⟩ := fo71
  have hc : some (RX7, TX7, 3) = some (C0, T, M) := hc
  cases hc
  exact ck_wsin hw
theorem hf8_60 {i : Nat} : Cond.fieldLink RX8 60 (TX8 8).1 (TX8 8).2.1 (TX8 8).2.2.1 ∈ ck_ws i := by
  obtain ⟨C0, T, M, hc, -, -, hw, -⟩ := fo80
  have hc : some (RX8, TX8, 11) = some (C0, T, M) := hc
  cases hc
  exact ck_wsin hw
theorem hf9_86 {i : Nat} : Cond.fieldLink RX9 86 (TX9 40).1 (TX9 40).2.1 (TX9 40).2.2.1 ∈ ck_ws i := by
  obtain ⟨C0, T, M, hc, -, -, hw, -⟩ := fo136
  have hc : some (RX9, TX9, 46) = some (C0, T, M) := hc
  cases hc
  exact ck_wsin hw
theorem hf9_92 {i : Nat} : Cond.fieldLink RX9 92 (TX9 0).1 (TX9 0).2.1 (TX9 0).2.2.1 ∈ ck_ws i := by
  obtain ⟨C0, T, M, hc, -, -, hw, -⟩ := fo138
  have hc : some (RX9, TX9, 46) = some (C0, T, M) := hc
  cases hc
  exact ck_wsin hw
theorem hc_in7 {i : Nat} : ∀ w ∈ u_ws RX7 TX7 3, w ∈ ck_ws i := fun w h => ck_wsin (inA7 w h)
theorem hc_in8 {i : Nat} : ∀ w ∈ u_ws RX8 TX8 11, w ∈ ck_ws i := fun w h => ck_wsin (inA8 w h)
theorem hc_in9 {i : Nat} : ∀ w ∈ u_ws RX9 TX9 46, w ∈ ck_ws i := hc_in
set_option maxRecDepth 100000 in
set_option maxHeartbeats 4000000 in
theorem c_X8_isWithin (l : Launch) (D : va_G) (kp : Nat → ClassId) {n : Nat} {E : Nat → jv_E}  (p1 : Int32) (p2 : Int32) : jv_M l D vwCl kp yX8_isWithin (ck_ws 59) (ck_rm 0 0) ck_NN [.int p1, .int p2] n E 0 0 (fun r n1 E1 => ((some (.int 1) = r ∧ 0 ≤ p1.toInt ∧ p1.toInt ≤ p2.toInt) ∨ (some (.int 0) = r ∧ (p1.toInt < 0 ∨ p2.toInt < p1.toInt))) ∧ n = n1 ∧ E = E1) := by
  refine jv_of (cc := cX8_isWithin) (maxL := 2) (rt := some .boolean) (by decide) rfl (Nat.le_of_ble_eq_true rfl) (fun G C B hI hnl => ?_)
  show jv_V l D vwCl kp G 0 0 n E 0 [(0, .int p1), (1, .int p2)] []
  refine jv_iload_n C dX8_isWithin_0 0 rfl ?_
  refine jv_if_lt (tgt := 13) C dX8_isWithin_1 (by decide) (fun c1 => ?_) (fun c1 => ?_)
  · refine jv_iconst (v := 0) C dX8_isWithin_13 (by decide) ?_
    exact jv_zret C B (by decide) ⟨Or.inr ⟨rfl, by have a0 := jv_i_lt c1; have z0 : (0 : Int32).toInt = 0 := (by decide); omega⟩, rfl, rfl⟩ ⟨by decide, by decide⟩ dX8_isWithin_14
  · refine jv_iload_n C dX8_isWithin_4 0 rfl ?_
    refine jv_iload_n C dX8_isWithin_5 1 rfl ?_
    refine jv_icmp_gt (tgt := 13) C dX8_isWithin_6 (by decide) (fun c2 => ?_) (fun c2 => ?_)
    · refine jv_iconst (v := 0) C dX8_isWithin_13 (by decide) ?_
      exact jv_zret C B (by decide) ⟨Or.inr ⟨rfl, by have a0 := jv_i_nlt c1; have a1 := jv_i_lt c2; have z0 : (0 : Int32).toInt = 0 := (by decide); omega⟩, rfl, rfl⟩ ⟨by decide, by decide⟩ dX8_isWithin_14
    · refine jv_iconst (v := 1) C dX8_isWithin_9 (by decide) ?_
      refine jv_goto (tgt := 14) C dX8_isWithin_10 (by decide) ?_
      exact jv_zret C B (by decide) ⟨Or.inl ⟨rfl, by have a0 := jv_i_nlt c1; have a1 := jv_i_nlt c2; have z0 : (0 : Int32).toInt = 0 := (by decide); omega⟩, rfl, rfl⟩ ⟨by decide, by decide⟩ dX8_isWithin_14
set_option maxRecDepth 100000 in
set_option maxHeartbeats 4000000 in
theorem c_X8_isRowKind (l : Launch) (D : va_G) (kp : Nat → ClassId) {n : Nat} {E : Nat → jv_E}  (p1 : Int32) (p2 : Int32) (p3 : Int32) : jv_M l D vwCl kp yX8_isRowKind (ck_ws 44) (ck_rm 1 45) ck_NN [.int p1, .int p2, .int p3] n E 0 0 (fun r n1 E1 => ((some (.int 1) = r ∧ (1 ≤ p1.toInt ∧ p1.toInt ≤ 8 ∧ 0 ≤ p2.toInt ∧ p2.toInt ≤ 9 ∧ 0 ≤ p3.toInt ∧ p3.toInt ≤ 9)) ∨ (some (.int 0) = r ∧ ¬ (1 ≤ p1.toInt ∧ p1.toInt ≤ 8 ∧ 0 ≤ p2.toInt ∧ p2.toInt ≤ 9 ∧ 0 ≤ p3.toInt ∧ p3.toInt ≤ 9))) ∧ n = n1 ∧ E = E1) := by
  refine jv_of (cc := cX8_isRowKind) (maxL := 3) (rt := some .boolean) (by decide) rfl (Nat.le_of_ble_eq_true rfl) (fun G C B hI hnl => ?_)
  show jv_V l D vwCl kp G 0 0 n E 0 [(0, .int p1), (1, .int p2), (2, .int p3)] []
  refine jv_iload_n C dX8_isRowKind_0 0 rfl ?_
  refine jv_iconst (v := 1) C dX8_isRowKind_1 (by decide) ?_
  refine jv_icmp_lt (tgt := 33) C dX8_isRowKind_2 (by decide) (fun c1 => ?_) (fun c1 => ?_)
  · refine jv_iconst (v := 0) C dX8_isRowKind_33 (by decide) ?_
    exact jv_zret C B (by decide) ⟨Or.inr ⟨rfl, by have a0 := jv_i_lt c1; have z1 : (1 : Int32).toInt = 1 := (by decide); omega⟩, rfl, rfl⟩ ⟨by decide, by decide⟩ dX8_isRowKind_34
  · refine jv_iload_n C dX8_isRowKind_5 0 rfl ?_
    refine jv_bipush (v := 8) C dX8_isRowKind_6 (by decide) ?_
    refine jv_icmp_gt (tgt := 33) C dX8_isRowKind_8 (by decide) (fun c2 => ?_) (fun c2 => ?_)
    · refine jv_iconst (v := 0) C dX8_isRowKind_33 (by decide) ?_
      exact jv_zret C B (by decide) ⟨Or.inr ⟨rfl, by have a0 := jv_i_nlt c1; have a1 := jv_i_lt c2; have z1 : (1 : Int32).toInt = 1 := (by decide); have z8 : (8 : Int32).toInt = 8 := (by decide); omega⟩, rfl, rfl⟩ ⟨by decide, by decide⟩ dX8_isRowKind_34
    · refine jv_iload_n C dX8_isRowKind_11 1 rfl ?_
      refine jv_bipush (v := 9) C dX8_isRowKind_12 (by decide) ?_
      refine jv_callS (na := 2) (As := [.int p2, .int 9]) (st := []) C (c_X8_isWithin l D kp  p2 9) gX8_isRowKind_X8_isWithin rfl rfl rfl q_X8_isWithin rfl ⟨by decide, by decide⟩ ⟨by decide, by decide⟩ (fun _ h => h) (Nat.le_of_ble_eq_true rfl) rfl dX8_isRowKind_14 (fun r n1 E_3 hp _ => ?_)
      rw [show (9 : Int32).toInt = 9 from by decide] at hp
      obtain ⟨⟨rfl, q4⟩ | ⟨rfl, q4⟩, rfl, rfl⟩ := hp
      · show jv_V l D vwCl kp G 0 0 n E 17 [(0, .int p1), (1, .int p2), (2, .int p3)] [.int 1]
        refine jv_if_eq (tgt := 33) C dX8_isRowKind_17 (by decide) (fun h => absurd h (by decide)) (fun _ => ?_)
        refine jv_iload_n C dX8_isRowKind_20 2 rfl ?_
        refine jv_bipush (v := 9) C dX8_isRowKind_21 (by decide) ?_
        refine jv_callS (na := 2) (As := [.int p3, .int 9]) (st := []) C (c_X8_isWithin l D kp  p3 9) gX8_isRowKind_X8_isWithin rfl rfl rfl q_X8_isWithin rfl ⟨by decide, by decide⟩ ⟨by decide, by decide⟩ (fun _ h => h) (Nat.le_of_ble_eq_true rfl) rfl dX8_isRowKind_23 (fun r n1 E_5 hp _ => ?_)
        rw [show (9 : Int32).toInt = 9 from by decide] at hp
        obtain ⟨⟨rfl, q6⟩ | ⟨rfl, q6⟩, rfl, rfl⟩ := hp
        · show jv_V l D vwCl kp G 0 0 n E 26 [(0, .int p1), (1, .int p2), (2, .int p3)] [.int 1]
          refine jv_if_eq (tgt := 33) C dX8_isRowKind_26 (by decide) (fun h => absurd h (by decide)) (fun _ => ?_)
          refine jv_iconst (v := 1) C dX8_isRowKind_29 (by decide) ?_
          refine jv_goto (tgt := 34) C dX8_isRowKind_30 (by decide) ?_
          exact jv_zret C B (by decide) ⟨Or.inl ⟨rfl, by have a0 := jv_i_nlt c1; have a1 := jv_i_nlt c2; have a2 := q4; have a3 := q6; have z1 : (1 : Int32).toInt = 1 := (by decide); have z8 : (8 : Int32).toInt = 8 := (by decide); omega⟩, rfl, rfl⟩ ⟨by decide, by decide⟩ dX8_isRowKind_34
        · show jv_V l D vwCl kp G 0 0 n E 26 [(0, .int p1), (1, .int p2), (2, .int p3)] [.int 0]
          refine jv_if_eq (tgt := 33) C dX8_isRowKind_26 (by decide) (fun _ => ?_) (fun h => absurd (by decide) h)
          refine jv_iconst (v := 0) C dX8_isRowKind_33 (by decide) ?_
          exact jv_zret C B (by decide) ⟨Or.inr ⟨rfl, by have a0 := jv_i_nlt c1; have a1 := jv_i_nlt c2; have a2 := q4; have a3 := q6; have z1 : (1 : Int32).toInt = 1 := (by decide); have z8 : (8 : Int32).toInt = 8 := (by decide); omega⟩, rfl, rfl⟩ ⟨by decide, by decide⟩ dX8_isRowKind_34
      · show jv_V l D vwCl kp G 0 0 n E 17 [(0, .int p1), (1, .int p2), (2, .int p3)] [.int 0]
        refine jv_if_eq (tgt := 33) C dX8_isRowKind_17 (by decide) (fun _ => ?_) (fun h => absurd (by decide) h)
        refine jv_iconst (v := 0) C dX8_isRowKind_33 (by decide) ?_
        exact jv_zret C B (by decide) ⟨Or.inr ⟨rfl, by have a0 := jv_i_nlt c1; have a1 := jv_i_nlt c2; have a2 := q4; have z1 : (1 : Int32).toInt = 1 := (by decide); have z8 : (8 : Int32).toInt = 8 := (by decide); omega⟩, rfl, rfl⟩ ⟨by decide, by decide⟩ dX8_isRowKind_34
set_option maxRecDepth 100000 in
set_option maxHeartbeats 4000000 in
theorem c_J6_bitCount_0f7a4 (l : Launch) (D : va_G) (kp : Nat → ClassId) {n : Nat} {E : Nat → jv_E}  (p1 : Int32) : jv_M l D vwCl kp yJ6_bitCount_0f7a4 (ck_ws 279) (ck_rm 0 0) ck_NN [.int p1] n E 0 0 (fun r n1 E1 => some (.int (jb_cnt p1)) = r ∧ n = n1 ∧ E = E1) := by
  refine jv_of (cc := cJ6_bitCount_0f7a4) (maxL := 1) (rt := some .int) (by decide) rfl (Nat.le_of_ble_eq_true rfl) (fun G C B hI hnl => ?_)
  show jv_V l D vwCl kp G 0 0 n E 0 [(0, .int p1)] []
  refine jv_iload_n C dJ6_bitCount_0f7a4_0 0 rfl ?_
  refine jv_iload_n C dJ6_bitCount_0f7a4_1 0 rfl ?_
  refine jv_iconst (v := 1) C dJ6_bitCount_0f7a4_2 (by decide) ?_
  refine jv_iushr C dJ6_bitCount_0f7a4_3 ?_
  refine jv_ldcw (v := 1431655765) C dJ6_bitCount_0f7a4_4 (ck_wsin ki9.1) ?_
  refine jv_iand C dJ6_bitCount_0f7a4_7 ?_
  refine jv_isub C dJ6_bitCount_0f7a4_8 ?_
  refine jv_istore_n (lv2 := [(0, .int (p1 - (((p1.toUInt32 >>> ((1 : Int32).toUInt32 &&& Int32.toUInt32 31)).toInt32) &&& 1431655765)))]) C dJ6_bitCount_0f7a4_9 rfl hnl (by decide) rfl ?_
  refine jv_iload_n C dJ6_bitCount_0f7a4_10 0 rfl ?_
  refine jv_ldcw (v := 858993459) C dJ6_bitCount_0f7a4_11 (ck_wsin ki10.1) ?_
  refine jv_iand C dJ6_bitCount_0f7a4_14 ?_
  refine jv_iload_n C dJ6_bitCount_0f7a4_15 0 rfl ?_
  refine jv_iconst (v := 2) C dJ6_bitCount_0f7a4_16 (by decide) ?_
  refine jv_iushr C dJ6_bitCount_0f7a4_17 ?_
  refine jv_ldcw (v := 858993459) C dJ6_bitCount_0f7a4_18 (ck_wsin ki10.1) ?_
  refine jv_iand C dJ6_bitCount_0f7a4_21 ?_
  refine jv_iadd C dJ6_bitCount_0f7a4_22 ?_
  refine jv_istore_n (lv2 := [(0, .int (((p1 - (((p1.toUInt32 >>> ((1 : Int32).toUInt32 &&& Int32.toUInt32 31)).toInt32) &&& 1431655765)) &&& 858993459) + ((((p1 - (((p1.toUInt32 >>> ((1 : Int32).toUInt32 &&& Int32.toUInt32 31)).toInt32) &&& 1431655765)).toUInt32 >>> ((2 : Int32).toUInt32 &&& Int32.toUInt32 31)).toInt32) &&& 858993459)))]) C dJ6_bitCount_0f7a4_23 rfl hnl (by decide) rfl ?_
  refine jv_iload_n C dJ6_bitCount_0f7a4_24 0 rfl ?_
  refine jv_iload_n C dJ6_bitCount_0f7a4_25 0 rfl ?_
  refine jv_iconst (v := 4) C dJ6_bitCount_0f7a4_26 (by decide) ?_
  refine jv_iushr C dJ6_bitCount_0f7a4_27 ?_
  refine jv_iadd C dJ6_bitCount_0f7a4_28 ?_
  refine jv_ldcw (v := 252645135) C dJ6_bitCount_0f7a4_29 (ck_wsin ki11.1) ?_
  refine jv_iand C dJ6_bitCount_0f7a4_32 ?_
  refine jv_istore_n (lv2 := [(0, .int (((((p1 - (((p1.toUInt32 >>> ((1 : Int32).toUInt32 &&& Int32.toUInt32 31)).toInt32) &&& 1431655765)) &&& 858993459) + ((((p1 - (((p1.toUInt32 >>> ((1 : Int32).toUInt32 &&& Int32.toUInt32 31)).toInt32) &&& 1431655765)).toUInt32 >>> ((2 : Int32).toUInt32 &&& Int32.toUInt32 31)).toInt32) &&& 858993459)) + (((((p1 - (((p1.toUInt32 >>> ((1 : Int32).toUInt32 &&& Int32.toUInt32 31)).toInt32) &&& 1431655765)) &&& 858993459) + ((((p1 - (((p1.toUInt32 >>> ((1 : Int32).toUInt32 &&& Int32.toUInt32 31)).toInt32) &&& 1431655765)).toUInt32 >>> ((2 : Int32).toUInt32 &&& Int32.toUInt32 31)).toInt32) &&& 858993459)).toUInt32 >>> ((4 : Int32).toUInt32 &&& Int32.toUInt32 31)).toInt32)) &&& 252645135))]) C dJ6_bitCount_0f7a4_33 rfl hnl (by decide) rfl ?_
  refine jv_iload_n C dJ6_bitCount_0f7a4_34 0 rfl ?_
  refine jv_iload_n C dJ6_bitCount_0f7a4_35 0 rfl ?_
  refine jv_bipush (v := 8) C dJ6_bitCount_0f7a4_36 (by decide) ?_
  refine jv_iushr C dJ6_bitCount_0f7a4_38 ?_
  refine jv_iadd C dJ6_bitCount_0f7a4_39 ?_
  refine jv_istore_n (lv2 := [(0, .int ((((((p1 - (((p1.toUInt32 >>> ((1 : Int32).toUInt32 &&& Int32.toUInt32 31)).toInt32) &&& 1431655765)) &&& 858993459) + ((((p1 - (((p1.toUInt32 >>> ((1 : Int32).toUInt32 &&& Int32.toUInt32 31)).toInt32) &&& 1431655765)).toUInt32 >>> ((2 : Int32).toUInt32 &&& Int32.toUInt32 31)).toInt32) &&& 858993459)) + (((((p1 - (((p1.toUInt32 >>> ((1 : Int32).toUInt32 &&& Int32.toUInt32 31)).toInt32) &&& 1431655765)) &&& 858993459) + ((((p1 - (((p1.toUInt32 >>> ((1 : Int32).toUInt32 &&& Int32.toUInt32 31)).toInt32) &&& 1431655765)).toUInt32 >>> ((2 : Int32).toUInt32 &&& Int32.toUInt32 31)).toInt32) &&& 858993459)).toUInt32 >>> ((4 : Int32).toUInt32 &&& Int32.toUInt32 31)).toInt32)) &&& 252645135) + (((((((p1 - (((p1.toUInt32 >>> ((1 : Int32).toUInt32 &&& Int32.toUInt32 31)).toInt32) &&& 1431655765)) &&& 858993459) + ((((p1 - (((p1.toUInt32 >>> ((1 : Int32).toUInt32 &&& Int32.toUInt32 31)).toInt32) &&& 1431655765)).toUInt32 >>> ((2 : Int32).toUInt32 &&& Int32.toUInt32 31)).toInt32) &&& 858993459)) + (((((p1 - (((p1.toUInt32 >>> ((1 : Int32).toUInt32 &&& Int32.toUInt32 31)).toInt32) &&& 1431655765)) &&& 858993459) + ((((p1 - (((p1.toUInt32 >>> ((1 : Int32).toUInt32 &&& Int32.toUInt32 31)).toInt32) &&& 1431655765)).toUInt32 >>> ((2 : Int32).toUInt32 &&& Int32.toUInt32 31)).toInt32) &&& 858993459)).toUInt32 >>> ((4 : Int32).toUInt32 &&& Int32.toUInt32 31)).toInt32)) &&& 252645135).toUInt32 >>> ((8 : Int32).toUInt32 &&& Int32.toUInt32 31)).toInt32)))]) C dJ6_bitCount_0f7a4_40 rfl hnl (by decide) rfl ?_
  refine jv_iload_n C dJ6_bitCount_0f7a4_41 0 rfl ?_
  refine jv_iload_n C dJ6_bitCount_0f7a4_42 0 rfl ?_
  refine jv_bipush (v := 16) C dJ6_bitCount_0f7a4_43 (by decide) ?_
  refine jv_iushr C dJ6_bitCount_0f7a4_45 ?_
  refine jv_iadd C dJ6_bitCount_0f7a4_46 ?_
  refine jv_istore_n (lv2 := [(0, .int (((((((p1 - (((p1.toUInt32 >>> ((1 : Int32).toUInt32 &&& Int32.toUInt32 31)).toInt32) &&& 1431655765)) &&& 858993459) + ((((p1 - (((p1.toUInt32 >>> ((1 : Int32).toUInt32 &&& Int32.toUInt32 31)).toInt32) &&& 1431655765)).toUInt32 >>> ((2 : Int32).toUInt32 &&& Int32.toUInt32 31)).toInt32) &&& 858993459)) + (((((p1 - (((p1.toUInt32 >>> ((1 : Int32).toUInt32 &&& Int32.toUInt32 31)).toInt32) &&& 1431655765)) &&& 858993459) + ((((p1 - (((p1.toUInt32 >>> ((1 : Int32).toUInt32 &&& Int32.toUInt32 31)).toInt32) &&& 1431655765)).toUInt32 >>> ((2 : Int32).toUInt32 &&& Int32.toUInt32 31)).toInt32) &&& 858993459)).toUInt32 >>> ((4 : Int32).toUInt32 &&& Int32.toUInt32 31)).toInt32)) &&& 252645135) + (((((((p1 - (((p1.toUInt32 >>> ((1 : Int32).toUInt32 &&& Int32.toUInt32 31)).toInt32) &&& 1431655765)) &&& 858993459) + ((((p1 - (((p1.toUInt32 >>> ((1 : Int32).toUInt32 &&& Int32.toUInt32 31)).toInt32) &&& 1431655765)).toUInt32 >>> ((2 : Int32).toUInt32 &&& Int32.toUInt32 31)).toInt32) &&& 858993459)) + (((((p1 - (((p1.toUInt32 >>> ((1 : Int32).toUInt32 &&& Int32.toUInt32 31)).toInt32) &&& 1431655765)) &&& 858993459) + ((((p1 - (((p1.toUInt32 >>> ((1 : Int32).toUInt32 &&& Int32.toUInt32 31)).toInt32) &&& 1431655765)).toUInt32 >>> ((2 : Int32).toUInt32 &&& Int32.toUInt32 31)).toInt32) &&& 858993459)).toUInt32 >>> ((4 : Int32).toUInt32 &&& Int32.toUInt32 31)).toInt32)) &&& 252645135).toUInt32 >>> ((8 : Int32).toUInt32 &&& Int32.toUInt32 31)).toInt32)) + ((((((((p1 - (((p1.toUInt32 >>> ((1 : Int32).toUInt32 &&& Int32.toUInt32 31)).toInt32) &&& 1431655765)) &&& 858993459) + ((((p1 - (((p1.toUInt32 >>> ((1 : Int32).toUInt32 &&& Int32.toUInt32 31)).toInt32) &&& 1431655765)).toUInt32 >>> ((2 : Int32).toUInt32 &&& Int32.toUInt32 31)).toInt32) &&& 858993459)) + (((((p1 - (((p1.toUInt32 >>> ((1 : Int32).toUInt32 &&& Int32.toUInt32 31)).toInt32) &&& 1431655765)) &&& 858993459) + ((((p1 - (((p1.toUInt32 >>> ((1 : Int32).toUInt32 &&& Int32.toUInt32 31)).toInt32) &&& 1431655765)).toUInt32 >>> ((2 : Int32).toUInt32 &&& Int32.toUInt32 31)).toInt32) &&& 858993459)).toUInt32 >>> ((4 : Int32).toUInt32 &&& Int32.toUInt32 31)).toInt32)) &&& 252645135) + (((((((p1 - (((p1.toUInt32 >>> ((1 : Int32).toUInt32 &&& Int32.toUInt32 31)).toInt32) &&& 1431655765)) &&& 858993459) + ((((p1 - (((p1.toUInt32 >>> ((1 : Int32).toUInt32 &&& Int32.toUInt32 31)).toInt32) &&& 1431655765)).toUInt32 >>> ((2 : Int32).toUInt32 &&& Int32.toUInt32 31)).toInt32) &&& 858993459)) + (((((p1 - (((p1.toUInt32 >>> ((1 : Int32).toUInt32 &&& Int32.toUInt32 31)).toInt32) &&& 1431655765)) &&& 858993459) + ((((p1 - (((p1.toUInt32 >>> ((1 : Int32).toUInt32 &&& Int32.toUInt32 31)).toInt32) &&& 1431655765)).toUInt32 >>> ((2 : Int32).toUInt32 &&& Int32.toUInt32 31)).toInt32) &&& 858993459)).toUInt32 >>> ((4 : Int32).toUInt32 &&& Int32.toUInt32 31)).toInt32)) &&& 252645135).toUInt32 >>> ((8 : Int32).toUInt32 &&& Int32.toUInt32 31)).toInt32)).toUInt32 >>> ((16 : Int32).toUInt32 &&& Int32.toUInt32 31)).toInt32)))]) C dJ6_bitCount_0f7a4_47 rfl hnl (by decide) rfl ?_
  refine jv_iload_n C dJ6_bitCount_0f7a4_48 0 rfl ?_
  refine jv_bipush (v := 63) C dJ6_bitCount_0f7a4_49 (by decide) ?_
  refine jv_iand C dJ6_bitCount_0f7a4_51 ?_
  exact jv_iret C B ⟨rfl, rfl, rfl⟩ ⟨by decide, by decide⟩ dJ6_bitCount_0f7a4_52
set_option maxRecDepth 100000 in
set_option maxHeartbeats 8000000 in
theorem c_bitOf (l : Launch) (D : va_G) (kp : Nat → ClassId) {n : Nat} {E : Nat → jv_E} {P d : Nat} {T : Int32} (h29 : E 29 = .inr (7, [.int (nI P), .int T, .ref 30])) (hP : 1 ≤ P) (hP2 : P < 9) (hd : d < 1000) :
    jv_M l D vwCl kp yX7_bitOf (ck_ws 274) (ck_rm 0 0) ck_NN [.ref 29, .int (nI d)] n E 0 0 (fun r n1 E1 => some (.int (nI (2 ^ (d % P)))) = r ∧ n = n1 ∧ E = E1) := by
  refine jv_of (cc := cX7_bitOf) (maxL := 2) (rt := some .int) (by decide) rfl (Nat.le_of_ble_eq_true rfl) (fun G C B hI hnl => ?_)
  show jv_V l D vwCl kp G 0 0 n E 0 [(0, .ref 29), (1, .int (nI d))] []
  refine jv_aload_n C dX7_bitOf_0 0 rfl ?_
  refine jv_getf (fk := 0) C (by decide) h29 rfl hc_in7 (by decide) hf7_23 rfl rfl dX7_bitOf_1 ?_
  refine jv_iconst (v := 1) C dX7_bitOf_4 (by decide) ?_
  refine jv_icmp_ge (tgt := 12) C dX7_bitOf_5 (by decide) (fun _ => ?_) (fun h => absurd (nI_le (a := 1) hP (by omega)) h)
  refine jv_iconst (v := 1) C dX7_bitOf_12 (by decide) ?_
  refine jv_iload_n C dX7_bitOf_13 1 rfl ?_
  refine jv_aload_n C dX7_bitOf_14 0 rfl ?_
  refine jv_getf (fk := 0) C (by decide) h29 rfl hc_in7 (by decide) hf7_23 rfl rfl dX7_bitOf_15 ?_
  refine jv_irem C dX7_bitOf_18 (jb_ne0 hP (by omega)) ?_
  refine jv_ti (pk_rem (by omega) (by omega) (by omega)) ?_
  refine jv_ishl C dX7_bitOf_19 ?_
  refine jv_ti (jb_sh (d % P) (Nat.lt_trans (Nat.mod_lt _ (by omega)) hP2)) ?_
  exact jv_iret C B ⟨rfl, rfl, rfl⟩ ⟨by decide, by decide⟩ dX7_bitOf_20
set_option maxRecDepth 100000 in
set_option maxHeartbeats 8000000 in
theorem c_turnsOf (l : Launch) (D : va_G) (kp : Nat → ClassId) {n : Nat} {E : Nat → jv_E} {P d : Nat} {T : Int32} (h29 : E 29 = .inr (7, [.int (nI P), .int T, .ref 30])) (hP : 1 ≤ P) (hP2 : P < 9) (hd : d < 1000) :
    jv_M l D vwCl kp yX7_turnsOf (ck_ws 275) (ck_rm 0 0) ck_NN [.ref 29, .int (nI d)] n E 0 0 (fun r n1 E1 => some (.int (nI (d / P))) = r ∧ n = n1 ∧ E = E1) := by
  refine jv_of (cc := cX7_turnsOf) (maxL := 2) (rt := some .int) (by decide) rfl (Nat.le_of_ble_eq_true rfl) (fun G C B hI hnl => ?_)
  show jv_V l D vwCl kp G 0 0 n E 0 [(0, .ref 29), (1, .int (nI d))] []
  refine jv_aload_n C dX7_turnsOf_0 0 rfl ?_
  refine jv_getf (fk := 0) C (by decide) h29 rfl hc_in7 (by decide) hf7_23 rfl rfl dX7_turnsOf_1 ?_
  refine jv_iconst (v := 1) C dX7_turnsOf_4 (by decide) ?_
  refine jv_icmp_ge (tgt := 12) C dX7_turnsOf_5 (by decide) (fun _ => ?_) (fun h => absurd (nI_le (a := 1) hP (by omega)) h)
  refine jv_iload_n C dX7_turnsOf_12 1 rfl ?_
  refine jv_aload_n C dX7_turnsOf_13 0 rfl ?_
  refine jv_getf (fk := 0) C (by decide) h29 rfl hc_in7 (by decide) hf7_23 rfl rfl dX7_turnsOf_14 ?_
  refine jv_idiv C dX7_turnsOf_17 (jb_ne0 hP (by omega)) ?_
  refine jv_ti (pk_div (by omega) (by omega) (by omega)) ?_
  exact jv_iret C B ⟨rfl, rfl, rfl⟩ ⟨by decide, by decide⟩ dX7_turnsOf_18
set_option maxRecDepth 100000 in
set_option maxHeartbeats 8000000 in
theorem lp_add {l : Launch} {D : va_G} {kp : Nat → ClassId} {G : jv_G} {n : Nat} {E0 : Nat → jv_E} {P : Nat} {T : Int32} {s a q d h : Nat} {g : Nat → Int32} {post : Option Value → Nat → (Nat → jv_E) → Prop} (C : jv_C D vwCl kp G cX7_addWays yX7_addWays.cls (ck_ws 273) (ck_rm 1 45) ck_NN) (hnl : jv_nL G = 7)
    (B : jv_R D vwCl kp G E0 none 0 0 post) (hpost : ∀ E1, (∀ j, j ≠ 30 → E1 j = E0 j) → E1 30 = .inl (0, 2560, .inl (jb_add g s a q 10)) → post none n E1)
    (hs : s < 256) (ha : a < 256) (hsa : s < a) (hq : q ≤ 10) :
    ∀ (f x : Nat) (E : Nat → jv_E), x + f = 10 → q ≤ x → E 29 = .inr (7, [.int (nI P), .int T, .ref 30]) → E 30 = .inl (0, 2560, .inl (jb_add g s a q x)) → (∀ j, j ≠ 30 → E j = E0 j) → jv_V l D vwCl kp G 0 0 n E 34 [(6, .int (nI x)), (5, .int (nI q)), (4, .int (nI a)), (3, .int (nI d)), (0, .ref 29), (1, .int (nI s)), (2, .int (nI h))] [] := by
  intro f
  induction f with
  | zero =>
    intro x E h1 h2 h29 h30 hfr
    have hx : x = 10 := by omega
    subst hx
    refine jv_iload C dX7_addWays_34 0 rfl ?_
    refine jv_bipush (v := 10) C dX7_addWays_36 (by decide) ?_
    refine jv_icmp_ge (tgt := 78) C dX7_addWays_38 (by decide) (fun _ => ?_) (fun h => absurd (by decide) h)
    exact jv_vret C B (hpost E hfr h30) ⟨by decide, by decide⟩ dX7_addWays_78
  | succ f ih =>
    intro x E h1 h2 h29 h30 hfr
    refine jv_iload C dX7_addWays_34 0 rfl ?_
    refine jv_bipush (v := 10) C dX7_addWays_36 (by decide) ?_
    refine jv_icmp_ge (tgt := 78) C dX7_addWays_38 (by decide) (fun h => absurd h (nI_ge (b := 10) (a := x) (by omega) (by decide))) (fun _ => ?_)
    refine jv_aload_n C dX7_addWays_41 4 rfl ?_
    refine jv_getf (fk := 2) C (by decide) h29 rfl hc_in7 (by decide) hf7_11 rfl rfl dX7_addWays_42 ?_
    refine jv_iload_n C dX7_addWays_45 5 rfl ?_
    refine jv_bipush (v := 10) C dX7_addWays_46 (by decide) ?_
    refine jv_imul C dX7_addWays_48 ?_
    refine jv_ti (jb_m10 s) ?_
    refine jv_iload C dX7_addWays_49 0 rfl ?_
    refine jv_iadd C dX7_addWays_51 ?_
    refine jv_ti (nI_add (s * 10) x) ?_
    refine jv_dup2 C dX7_addWays_52 rfl rfl ?_
    refine jv_iald C (by decide) h30 (jb_in (by omega) (by decide)) dX7_addWays_53 ?_
    refine jv_ti (y := jb_add g s a q x (s * 10 + x)) (by rw [jb_cl (by omega)]) ?_
    refine jv_aload_n C dX7_addWays_54 4 rfl ?_
    refine jv_getf (fk := 2) C (by decide) h29 rfl hc_in7 (by decide) hf7_11 rfl rfl dX7_addWays_55 ?_
    refine jv_iload C dX7_addWays_58 2 rfl ?_
    refine jv_bipush (v := 10) C dX7_addWays_60 (by decide) ?_
    refine jv_imul C dX7_addWays_62 ?_
    refine jv_ti (jb_m10 a) ?_
    refine jv_iload C dX7_addWays_63 0 rfl ?_
    refine jv_iadd C dX7_addWays_65 ?_
    refine jv_ti (nI_add (a * 10) x) ?_
    refine jv_iload C dX7_addWays_66 1 rfl ?_
    refine jv_isub C dX7_addWays_68 ?_
    refine jv_ti (pk_sub (a := a * 10 + x) (b := q) (by omega)) ?_
    refine jv_iald C (by decide) h30 (jb_in (by omega) (by decide)) dX7_addWays_69 ?_
    refine jv_ti (y := jb_add g s a q x (a * 10 + x - q)) (by rw [jb_cl (by omega)]) ?_
    refine jv_iadd C dX7_addWays_70 ?_
    refine jv_iast C (by decide) h30 (jb_in (by omega) (by decide)) dX7_addWays_71 ?_
    refine jv_iinc (v := nI (x + 1)) (lv2 := [(6, .int (nI (x + 1))), (5, .int (nI q)), (4, .int (nI a)), (3, .int (nI d)), (0, .ref 29), (1, .int (nI s)), (2, .int (nI h))]) C dX7_addWays_72 hnl 0 rfl (nI_1 x) (by decide) rfl ?_
    refine jv_goto (tgt := 34) C dX7_addWays_75 (by decide) ?_
    refine ih (x + 1) _ (by omega) (by omega) (jv_n (by decide) h29) ?_ (fun j hj => (va_up_ne _ _ hj).trans (hfr j hj))
    rw [va_up_self, jb_cl (by omega), jb_add_step h2 (by omega) hsa]
set_option maxRecDepth 100000 in
set_option maxHeartbeats 8000000 in
/-- addWays(s, h): a throw of the height h from the set s -/
theorem c_addWays (l : Launch) (D : va_G) (kp : Nat → ClassId) {n : Nat} {E : Nat → jv_E} {P s h : Nat} {T : Int32} {g : Nat → Int32} (h29 : E 29 = .inr (7, [.int (nI P), .int T, .ref 30])) (h30 : E 30 = .inl (0, 2560, .inl g)) (hP : 1 ≤ P) (hP2 : P < 9) (hs : s < 2 ^ P) (hh : h < 10) :
    jv_M l D vwCl kp yX7_addWays (ck_ws 273) (ck_rm 1 45) ck_NN [.ref 29, .int (nI s), .int (nI h)] n E 0 0 (fun r n1 E1 => none = r ∧ n = n1 ∧ (∀ j, j ≠ 30 → E1 j = E j) ∧ E1 30 = .inl (0, 2560, .inl (if s.testBit ((jw_bc s + h) % P) then g else jb_add g s (s ||| 2 ^ ((jw_bc s + h) % P)) ((jw_bc s + h) / P) 10))) := by
  have hp2 := jb_p2 P hP2
  have hU := jb_U P hP2 s hs
  have hm : (jw_bc s + h) % P < P := Nat.mod_lt _ (by omega)
  obtain ⟨o1, o2, o3⟩ := jb_or P hP2 s hs _ hm
  refine jv_of (cc := cX7_addWays) (maxL := 7) (rt := none) (by decide) rfl (Nat.le_of_ble_eq_true rfl) (fun G C B hI hnl => ?_)
  show jv_V l D vwCl kp G 0 0 n E 0 [(0, .ref 29), (1, .int (nI s)), (2, .int (nI h))] []
  refine jv_iload_n C dX7_addWays_0 1 rfl ?_
  refine jv_callS (na := 1) (As := [.int (nI s)]) (st := []) C (c_J6_bitCount_0f7a4 l D kp (nI s)) gX7_addWays_J6_bitCount_0f7a4 rfl rfl rfl q_J6_bitCount_0f7a4 rfl ⟨by decide, by decide⟩ ⟨by decide, by decide⟩ (fun _ h => h) (Nat.le_of_ble_eq_true rfl) rfl dX7_addWays_1 (fun r n1 E1 hp _ => ?_)
  obtain ⟨rfl, rfl, rfl⟩ := hp
  show jv_V l D vwCl kp G 0 0 n E 4 [(0, .ref 29), (1, .int (nI s)), (2, .int (nI h))] [.int (jb_cnt (nI s))]
  refine jv_ti (jb_cnt_ok s (by omega)) ?_
  refine jv_iload_n C dX7_addWays_4 2 rfl ?_
  refine jv_iadd C dX7_addWays_5 ?_
  refine jv_ti (nI_add (jw_bc s) h) ?_
  refine jv_istore_n (lv2 := [(3, .int (nI (jw_bc s + h))), (0, .ref 29), (1, .int (nI s)), (2, .int (nI h))]) C dX7_addWays_6 rfl hnl (by decide) rfl ?_
  refine jv_iload_n C dX7_addWays_7 2 rfl ?_
  refine jv_aload_n C dX7_addWays_8 1 rfl ?_
  refine jv_iload_n C dX7_addWays_9 0 rfl ?_
  refine jv_callV (na := 1) (As := [.int (nI (jw_bc s + h))]) (st := [.int (nI s)]) C (c_bitOf l D kp h29 hP hP2 (by omega)) gX7_addWays_X7_bitOf rfl (by decide) h29 rfl rfl rfl q_X7_bitOf rfl ⟨by decide, by decide⟩ ⟨by decide, by decide⟩ (fun _ h => h) (Nat.le_of_ble_eq_true rfl) rfl dX7_addWays_10 (fun r n1 E1 hp _ => ?_)
  obtain ⟨rfl, rfl, rfl⟩ := hp
  show jv_V l D vwCl kp G 0 0 n E 13 [(3, .int (nI (jw_bc s + h))), (0, .ref 29), (1, .int (nI s)), (2, .int (nI h))] [.int (nI (2 ^ ((jw_bc s + h) % P))), .int (nI s)]
  refine jv_ior C dX7_addWays_13 ?_
  refine jv_ti (jb_nor s (2 ^ ((jw_bc s + h) % P))) ?_
  refine jv_istore (lv2 := [(4, .int (nI (s ||| 2 ^ ((jw_bc s + h) % P)))), (3, .int (nI (jw_bc s + h))), (0, .ref 29), (1, .int (nI s)), (2, .int (nI h))]) C dX7_addWays_14 hnl (by decide) rfl ?_
  refine jv_iload C dX7_addWays_16 0 rfl ?_
  refine jv_iload_n C dX7_addWays_18 3 rfl ?_
  by_cases tb : s.testBit ((jw_bc s + h) % P) = true
  · have e : nI (s ||| 2 ^ ((jw_bc s + h) % P)) = nI s := by rw [o2 tb]
    refine jv_icmp_ne (tgt := 23) C dX7_addWays_19 (by decide) (fun h => absurd e h) (fun _ => ?_)
    exact jv_vret C B ⟨rfl, rfl, fun _ _ => rfl, by rw [if_pos tb]; exact h30⟩ ⟨by decide, by decide⟩ dX7_addWays_22
  · have tb2 := o3 (by simpa using tb)
    have e : ¬ nI (s ||| 2 ^ ((jw_bc s + h) % P)) = nI s := fun q => by
      have := (nI_eq (by omega) (by omega)).mp q
      omega
    refine jv_icmp_ne (tgt := 23) C dX7_addWays_19 (by decide) (fun _ => ?_) (fun h => absurd h e)
    refine jv_aload_n C dX7_addWays_23 2 rfl ?_
    refine jv_iload_n C dX7_addWays_24 1 rfl ?_
    refine jv_callV (na := 1) (As := [.int (nI (jw_bc s + h))]) (st := []) C (c_turnsOf l D kp h29 hP hP2 (by omega)) gX7_addWays_X7_turnsOf rfl (by decide) h29 rfl rfl rfl q_X7_turnsOf rfl ⟨by decide, by decide⟩ ⟨by decide, by decide⟩ (fun _ h => h) (Nat.le_of_ble_eq_true rfl) rfl dX7_addWays_25 (fun r n1 E1 hp _ => ?_)
    obtain ⟨rfl, rfl, rfl⟩ := hp
    show jv_V l D vwCl kp G 0 0 n E 28 [(4, .int (nI (s ||| 2 ^ ((jw_bc s + h) % P)))), (3, .int (nI (jw_bc s + h))), (0, .ref 29), (1, .int (nI s)), (2, .int (nI h))] [.int (nI ((jw_bc s + h) / P))]
    refine jv_istore (lv2 := [(5, .int (nI ((jw_bc s + h) / P))), (4, .int (nI (s ||| 2 ^ ((jw_bc s + h) % P)))), (3, .int (nI (jw_bc s + h))), (0, .ref 29), (1, .int (nI s)), (2, .int (nI h))]) C dX7_addWays_28 hnl (by decide) rfl ?_
    refine jv_iload C dX7_addWays_30 0 rfl ?_
    refine jv_istore (lv2 := [(6, .int (nI ((jw_bc s + h) / P))), (5, .int (nI ((jw_bc s + h) / P))), (4, .int (nI (s ||| 2 ^ ((jw_bc s + h) % P)))), (3, .int (nI (jw_bc s + h))), (0, .ref 29), (1, .int (nI s)), (2, .int (nI h))]) C dX7_addWays_32 hnl (by decide) rfl ?_
    have hqb : (jw_bc s + h) / P ≤ jw_bc s + h := Nat.div_le_self _ _
    rcases Nat.lt_or_ge 10 ((jw_bc s + h) / P) with hq | hq
    · refine jv_iload C dX7_addWays_34 0 rfl ?_
      refine jv_bipush (v := 10) C dX7_addWays_36 (by decide) ?_
      refine jv_icmp_ge (tgt := 78) C dX7_addWays_38 (by decide) (fun _ => ?_) (fun h => absurd (nI_le (a := 10) (by omega) (by omega)) h)
      exact jv_vret C B ⟨rfl, rfl, fun _ _ => rfl, by rw [if_neg tb, jb_addx (by omega)]; exact h30⟩ ⟨by decide, by decide⟩ dX7_addWays_78
    · exact lp_add C hnl B (fun E1 k1 k2 => ⟨rfl, rfl, k1, by rw [if_neg tb]; exact k2⟩) (by omega) (by omega) tb2 hq (10 - (jw_bc s + h) / P) _ E (by omega) (Nat.le_refl _) h29 (by rw [jb_add0]; exact h30) (fun _ _ => rfl)

set_option maxRecDepth 100000 in
set_option maxHeartbeats 8000000 in
theorem lp_fillI {l : Launch} {D : va_G} {kp : Nat → ClassId} {G : jv_G} {n : Nat} {E0 : Nat → jv_E} {kc z : Nat} {v : Int32} {rd : Room} (C : jv_C D vwCl kp G cJ7_fill_53178 yJ7_fill_53178.cls (ck_ws 289) rd ck_NN) (hnl : jv_nL G = 4)
    (B : jv_R D vwCl kp G E0 none 0 0 (fun r n1 E1 => none = r ∧ n = n1 ∧ (∀ j, j ≠ kc → E1 j = E0 j) ∧ ∃ g, E1 kc = .inl (0, z, .inl g) ∧ ∀ j, j < z → g j = v)) (hk : kc < 1000000) (hz : z ≤ 100000) :
    ∀ (f x : Nat) (E : Nat → jv_E) (g : Nat → Int32), x + f = z → E kc = .inl (0, z, .inl g) → (∀ j, j ≠ kc → E j = E0 j) → (∀ j, j < x → g j = v) → jv_V l D vwCl kp G 0 0 n E 5 [(2, .int (nI x)), (3, .int (nI z)), (0, .ref kc), (1, .int v)] [] := by
  intro f
  induction f with
  | zero =>
    intro x E g h1 he hfr hg
    have hx : x = z := by omega
    subst hx
    refine jv_iload_n C dJ7_fill_53178_5 0 rfl ?_
    refine jv_iload_n C dJ7_fill_53178_6 1 rfl ?_
    refine jv_icmp_ge (tgt := 20) C dJ7_fill_53178_7 (by decide) (fun _ => ?_) (fun h => absurd (nI_le (Nat.le_refl _) (by omega)) h)
    exact jv_vret C B ⟨rfl, rfl, hfr, g, he, hg⟩ ⟨by decide, by decide⟩ dJ7_fill_53178_20
  | succ f ih =>
    intro x E g h1 he hfr hg
    refine jv_iload_n C dJ7_fill_53178_5 0 rfl ?_
    refine jv_iload_n C dJ7_fill_53178_6 1 rfl ?_
    refine jv_icmp_ge (tgt := 20) C dJ7_fill_53178_7 (by decide) (fun h => absurd h (nI_ge (by omega) (by omega))) (fun _ => ?_)
    refine jv_aload_n C dJ7_fill_53178_10 2 rfl ?_
    refine jv_iload_n C dJ7_fill_53178_11 0 rfl ?_
    refine jv_iload_n C dJ7_fill_53178_12 3 rfl ?_
    refine jv_iast C hk he (jb_in (by omega) hz) dJ7_fill_53178_13 ?_
    refine jv_iinc (v := nI (x + 1)) (lv2 := [(2, .int (nI (x + 1))), (3, .int (nI z)), (0, .ref kc), (1, .int v)]) C dJ7_fill_53178_14 hnl 0 rfl (nI_1 x) (by decide) rfl ?_
    refine jv_goto (tgt := 5) C dJ7_fill_53178_17 (by decide) ?_
    refine ih (x + 1) _ _ (by omega) (va_up_self _ _ _) (fun j hj => (va_up_ne _ _ hj).trans (hfr j hj)) (fun j hj => ?_)
    rw [jb_cl (by omega)]
    by_cases e : j = x
    · rw [e, pk_us]
    · rw [pk_un e]; exact hg j (by omega)
set_option maxRecDepth 100000 in
set_option maxHeartbeats 8000000 in
theorem c_fillI (l : Launch) (D : va_G) (kp : Nat → ClassId) {n : Nat} {E : Nat → jv_E} {kc z : Nat} {g : Nat → Int32} (he : E kc = .inl (0, z, .inl g)) (v : Int32) (hk : kc < 1000000) (hz : z ≤ 100000) :
    jv_M l D vwCl kp yJ7_fill_53178 (ck_ws 289) (ck_rm 0 0) ck_NN [.ref kc, .int v] n E 0 0 (fun r n1 E1 => none = r ∧ n = n1 ∧ (∀ j, j ≠ kc → E1 j = E j) ∧ ∃ g, E1 kc = .inl (0, z, .inl g) ∧ ∀ j, j < z → g j = v) := by
  refine jv_of (cc := cJ7_fill_53178) (maxL := 4) (rt := none) (by decide) rfl (Nat.le_of_ble_eq_true rfl) (fun G C B hI hnl => ?_)
  show jv_V l D vwCl kp G 0 0 n E 0 [(0, .ref kc), (1, .int v)] []
  refine jv_iconst (v := 0) C dJ7_fill_53178_0 (by decide) ?_
  refine jv_istore_n (lv2 := [(2, .int 0), (0, .ref kc), (1, .int v)]) C dJ7_fill_53178_1 rfl hnl (by decide) rfl ?_
  refine jv_aload_n C dJ7_fill_53178_2 1 rfl ?_
  refine jv_alen (v := nI z) C hk he .int (fun _ => rfl) rfl dJ7_fill_53178_3 ?_
  refine jv_istore_n (lv2 := [(3, .int (nI z)), (2, .int 0), (0, .ref kc), (1, .int v)]) C dJ7_fill_53178_4 rfl hnl (by decide) rfl ?_
  refine jv_lpk [1, 0, 2, 3] rfl ?_
  exact lp_fillI C hnl B hk hz z 0 E g (by omega) he (fun _ _ => rfl) (fun j hj => absurd hj (Nat.not_lt_zero j))
set_option maxRecDepth 100000 in
set_option maxHeartbeats 8000000 in
theorem lp_heights {l : Launch} {D : va_G} {kp : Nat → ClassId} {G : jv_G} {n : Nat} {E0 : Nat → jv_E} {P T k : Nat} {av : Int32} (C : jv_C D vwCl kp G cX7_fill yX7_fill.cls (ck_ws 272) (ck_rm 2 90) ck_NN) (hnl : jv_nL G = 6) (hP : 1 ≤ P) (hP2 : P < 9) (hT : T < 10) (hk : k < 2 ^ P) (hU : 0 < jw_U P k)
    (kk : ∀ (E : Nat → jv_E) (g : Nat → Int32) (hv : Int32), E 29 = .inr (7, [.int (nI P), .int (nI T), .ref 30]) → E 30 = .inl (0, 2560, .inl g) → (∀ j, j ≠ 29 → j ≠ 30 → E j = E0 j) → jb_I P T k g → jv_V l D vwCl kp G 0 0 n E 84 [(5, .int hv), (4, .int (nI k)), (3, .int av), (0, .ref 29), (1, .int (nI P)), (2, .int (nI T))] []) :
    ∀ (f h : Nat) (E : Nat → jv_E) (g : Nat → Int32), h + f = T + 1 → E 29 = .inr (7, [.int (nI P), .int (nI T), .ref 30]) → E 30 = .inl (0, 2560, .inl g) → (∀ j, j ≠ 29 → j ≠ 30 → E j = E0 j) → jb_J P T k h g → jv_V l D vwCl kp G 0 0 n E 64 [(5, .int (nI h)), (4, .int (nI k)), (3, .int av), (0, .ref 29), (1, .int (nI P)), (2, .int (nI T))] [] := by
  intro f
  induction f with
  | zero =>
    intro h E g h1 h29 h30 hfr hJ
    have hh : h = T + 1 := by omega
    subst hh
    refine jv_iload C dX7_fill_64 0 rfl ?_
    refine jv_iload_n C dX7_fill_66 5 rfl ?_
    refine jv_icmp_gt (tgt := 84) C dX7_fill_67 (by decide) (fun _ => ?_) (fun h => absurd (nI_lt (by omega) (by omega)) h)
    exact kk E g _ h29 h30 hfr (jb_JI hU hJ)
  | succ f ih =>
    intro h E g h1 h29 h30 hfr hJ
    refine jv_iload C dX7_fill_64 0 rfl ?_
    refine jv_iload_n C dX7_fill_66 5 rfl ?_
    refine jv_icmp_gt (tgt := 84) C dX7_fill_67 (by decide) (fun q => absurd q (nI_nlt (by omega) (by omega))) (fun _ => ?_)
    refine jv_aload_n C dX7_fill_70 3 rfl ?_
    refine jv_iload C dX7_fill_71 1 rfl ?_
    refine jv_iload C dX7_fill_73 0 rfl ?_
    refine jv_callV (na := 2) (As := [.int (nI k), .int (nI h)]) (st := []) C (c_addWays l D kp h29 h30 hP hP2 hk (by omega)) gX7_fill_X7_addWays rfl (by decide) h29 rfl rfl rfl q_X7_addWays rfl ⟨by decide, by decide⟩ ⟨by decide, by decide⟩ (fun _ h => h) (Nat.le_of_ble_eq_true rfl) rfl dX7_fill_75 (fun r n1 E1 hp _ => ?_)
    obtain ⟨rfl, rfl, hf, e30⟩ := hp
    show jv_V l D vwCl kp G 0 0 n E1 78 [(5, .int (nI h)), (4, .int (nI k)), (3, .int av), (0, .ref 29), (1, .int (nI P)), (2, .int (nI T))] []
    refine jv_iinc (v := nI (h + 1)) (lv2 := [(5, .int (nI (h + 1))), (4, .int (nI k)), (3, .int av), (0, .ref 29), (1, .int (nI P)), (2, .int (nI T))]) C dX7_fill_78 hnl 0 rfl (nI_1 h) (by decide) rfl ?_
    refine jv_goto (tgt := 64) C dX7_fill_81 (by decide) ?_
    exact ih (h + 1) E1 _ (by omega) ((hf 29 (by decide)).trans h29) e30 (fun j q1 q2 => (hf j q2).trans (hfr j q1 q2)) (jb_step hP hP2 hk hU hJ)
set_option maxRecDepth 100000 in
set_option maxHeartbeats 8000000 in
theorem lp_sets {l : Launch} {D : va_G} {kp : Nat → ClassId} {G : jv_G} {n : Nat} {E0 : Nat → jv_E} {P T : Nat} {av : Int32} {post : Option Value → Nat → (Nat → jv_E) → Prop} (C : jv_C D vwCl kp G cX7_fill yX7_fill.cls (ck_ws 272) (ck_rm 2 90) ck_NN) (hnl : jv_nL G = 6) (B : jv_R D vwCl kp G E0 none 0 0 post)
    (hpost : ∀ (E : Nat → jv_E) (g : Nat → Int32), E 29 = .inr (7, [.int (nI P), .int (nI T), .ref 30]) → E 30 = .inl (0, 2560, .inl g) → (∀ j, j ≠ 29 → j ≠ 30 → E j = E0 j) → jb_I P T 0 g → post none n E) (hP : 1 ≤ P) (hP2 : P < 9) (hT : T < 10) :
    ∀ (k : Nat) (E : Nat → jv_E) (g : Nat → Int32), k < 2 ^ P → E 29 = .inr (7, [.int (nI P), .int (nI T), .ref 30]) → E 30 = .inl (0, 2560, .inl g) → (∀ j, j ≠ 29 → j ≠ 30 → E j = E0 j) → jb_I P T k g → jv_V l D vwCl kp G 0 0 n E 56 [(4, .int (nI k + (-1))), (3, .int av), (0, .ref 29), (1, .int (nI P)), (2, .int (nI T))] [] := by
  intro k
  induction k with
  | zero =>
    intro E g hk h29 h30 hfr hI
    refine jv_iload C dX7_fill_56 0 rfl ?_
    refine jv_ti (y := -1) (by decide) ?_
    refine jv_if_lt (tgt := 90) C dX7_fill_58 (by decide) (fun _ => ?_) (fun h => absurd (by decide) h)
    exact jv_vret C B (hpost E g h29 h30 hfr hI) ⟨by decide, by decide⟩ dX7_fill_90
  | succ k ih =>
    intro E g hk h29 h30 hfr hI
    have hp2 := jb_p2 P hP2
    rw [pk_m1]
    refine jv_iload C dX7_fill_56 0 rfl ?_
    refine jv_if_lt (tgt := 90) C dX7_fill_58 (by decide) (fun h => absurd h (nI_pos (by omega))) (fun _ => ?_)
    refine jv_iconst (v := 0) C dX7_fill_61 (by decide) ?_
    refine jv_istore (lv2 := [(5, .int 0), (4, .int (nI k)), (3, .int av), (0, .ref 29), (1, .int (nI P)), (2, .int (nI T))]) C dX7_fill_62 hnl (by decide) rfl ?_
    refine lp_heights C hnl hP hP2 hT (by omega) (jb_U0 P hP2 k (by omega)) (fun E1 g1 hv k29 k30 kfr kI => ?_) (T + 1) 0 E g (by omega) h29 h30 hfr (jb_IJ hI)
    refine jv_iinc (v := nI k + (-1)) (lv2 := [(4, .int (nI k + (-1))), (5, .int hv), (3, .int av), (0, .ref 29), (1, .int (nI P)), (2, .int (nI T))]) C dX7_fill_84 hnl 1 rfl rfl (by decide) rfl ?_
    refine jv_goto (tgt := 56) C dX7_fill_87 (by decide) ?_
    refine jv_lpk [0, 2, 3, 4, 5] rfl ?_
    exact ih E1 g1 (by omega) k29 k30 kfr kI
set_option maxRecDepth 100000 in
set_option maxHeartbeats 8000000 in
/-- fill(P, T) on a tally that holds another table -/
theorem c_fill (l : Launch) (D : va_G) (kp : Nat → ClassId) {n : Nat} {E : Nat → jv_E} {P T : Nat} {u0 u1 : Int32} {g : Nat → Int32} (h29 : E 29 = .inr (7, [.int u0, .int u1, .ref 30])) (h30 : E 30 = .inl (0, 2560, .inl g)) (hP : 1 ≤ P) (hP2 : P < 9) (hT : T < 10) (hty : jb_ty u0 u1 g) :
    jv_M l D vwCl kp yX7_fill (ck_ws 272) (ck_rm 2 90) ck_NN [.ref 29, .int (nI P), .int (nI T)] n E 0 0 (fun r n1 E1 => none = r ∧ n = n1 ∧ (∀ j, j ≠ 29 → j ≠ 30 → E1 j = E j) ∧ E1 29 = .inr (7, [.int (nI P), .int (nI T), .ref 30]) ∧ ∃ g, E1 30 = .inl (0, 2560, .inl g) ∧ jb_I P T 0 g) := by
  have hp2 := jb_p2 P hP2
  refine jv_of (cc := cX7_fill) (maxL := 6) (rt := none) (by decide) rfl (Nat.le_of_ble_eq_true rfl) (fun G C B hI hnl => ?_)
  show jv_V l D vwCl kp G 0 0 n E 0 [(0, .ref 29), (1, .int (nI P)), (2, .int (nI T))] []
  refine jv_iload_n C dX7_fill_0 1 rfl ?_
  refine jv_aload_n C dX7_fill_1 0 rfl ?_
  refine jv_getf (fk := 0) C (by decide) h29 rfl hc_in7 (by decide) hf7_23 rfl rfl dX7_fill_2 ?_
  suffices main : jv_V l D vwCl kp G 0 0 n E 17 [(0, .ref 29), (1, .int (nI P)), (2, .int (nI T))] [] by
    refine jv_icmp_ne (tgt := 17) C dX7_fill_5 (by decide) (fun _ => main) (fun h => ?_)
    refine jv_iload_n C dX7_fill_8 2 rfl ?_
    refine jv_aload_n C dX7_fill_9 0 rfl ?_
    refine jv_getf (fk := 1) C (by decide) h29 rfl hc_in7 (by decide) hf7_27 rfl rfl dX7_fill_10 ?_
    refine jv_icmp_ne (tgt := 17) C dX7_fill_13 (by decide) (fun _ => main) (fun h2 => ?_)
    exact jv_vret C B ⟨rfl, rfl, fun _ _ _ => rfl, by rw [h29, h, h2], g, h30, hty P T hP hP2 hT h.symm h2.symm⟩ ⟨by decide, by decide⟩ dX7_fill_16
  refine jv_aload_n C dX7_fill_17 0 rfl ?_
  refine jv_iload_n C dX7_fill_18 1 rfl ?_
  refine jv_putf (fk := 0) (ty := .int) (fs2 := [.int (nI P), .int u1, .ref 30]) C (by decide) h29 rfl hc_in7 tyX7 tyX7_ok nmX7 (by decide) hf7_23 rfl rfl rfl (fun _ => rfl) (fun _ => rfl) (Nat.le_of_ble_eq_true rfl) dX7_fill_19 rfl ?_
  refine jv_aload_n C dX7_fill_22 0 rfl ?_
  refine jv_iload_n C dX7_fill_23 2 rfl ?_
  refine jv_putf (fk := 1) (ty := .int) (fs2 := [.int (nI P), .int (nI T), .ref 30]) C (by decide) (va_up_self _ _ _) rfl hc_in7 tyX7 tyX7_ok nmX7 (by decide) hf7_27 rfl rfl rfl (fun _ => rfl) (fun _ => rfl) (Nat.le_of_ble_eq_true rfl) dX7_fill_24 rfl ?_
  refine jv_aload_n C dX7_fill_27 0 rfl ?_
  refine jv_getf (fk := 2) C (by decide) (va_up_self _ _ _) rfl hc_in7 (by decide) hf7_11 rfl rfl dX7_fill_28 ?_
  refine jv_iconst (v := 0) C dX7_fill_31 (by decide) ?_
  refine jv_callS (na := 2) (As := [.ref 30, .int 0]) (st := []) C (c_fillI l D kp (jv_n (by decide) (jv_n (by decide) h30)) 0 (by decide) (by decide)) gX7_fill_J7_fill_53178 rfl rfl rfl q_J7_fill_53178 rfl ⟨by decide, by decide⟩ ⟨by decide, by decide⟩ (fun _ h => h) (Nat.le_of_ble_eq_true rfl) rfl dX7_fill_32 (fun r n1 E1 hp _ => ?_)
  obtain ⟨rfl, rfl, hf, g1, e30, hz⟩ := hp
  have e29 : E1 29 = .inr (7, [.int (nI P), .int (nI T), .ref 30]) := (hf 29 (by decide)).trans (va_up_self _ _ _)
  have hfr : ∀ j, j ≠ 29 → j ≠ 30 → E1 j = E j := fun j q1 q2 => (hf j q2).trans ((va_up_ne _ _ q1).trans (va_up_ne _ _ q1))
  show jv_V l D vwCl kp G 0 0 n E1 35 [(0, .ref 29), (1, .int (nI P)), (2, .int (nI T))] []
  refine jv_iconst (v := 1) C dX7_fill_35 (by decide) ?_
  refine jv_iload_n C dX7_fill_36 1 rfl ?_
  refine jv_ishl C dX7_fill_37 ?_
  refine jv_ti (jb_sh P hP2) ?_
  refine jv_iconst (v := 1) C dX7_fill_38 (by decide) ?_
  refine jv_isub C dX7_fill_39 ?_
  refine jv_ti (pk_sub (a := 2 ^ P) (b := 1) hp2.1) ?_
  refine jv_istore_n (lv2 := [(3, .int (nI (2 ^ P - 1))), (0, .ref 29), (1, .int (nI P)), (2, .int (nI T))]) C dX7_fill_40 rfl hnl (by decide) rfl ?_
  refine jv_aload_n C dX7_fill_41 1 rfl ?_
  refine jv_getf (fk := 2) C (by decide) e29 rfl hc_in7 (by decide) hf7_11 rfl rfl dX7_fill_42 ?_
  refine jv_iload_n C dX7_fill_45 0 rfl ?_
  refine jv_bipush (v := 10) C dX7_fill_46 (by decide) ?_
  refine jv_imul C dX7_fill_48 ?_
  refine jv_ti (jb_m10 (2 ^ P - 1)) ?_
  refine jv_iconst (v := 1) C dX7_fill_49 (by decide) ?_
  refine jv_iast C (by decide) e30 (jb_in (by omega) (by decide)) dX7_fill_50 ?_
  refine jv_iload_n C dX7_fill_51 0 rfl ?_
  refine jv_iconst (v := 1) C dX7_fill_52 (by decide) ?_
  refine jv_isub C dX7_fill_53 ?_
  refine jv_ti (y := nI (2 ^ P - 1) + (-1)) (by rw [Int32.sub_eq_add_neg]) ?_
  refine jv_istore (lv2 := [(4, .int (nI (2 ^ P - 1) + (-1))), (3, .int (nI (2 ^ P - 1))), (0, .ref 29), (1, .int (nI P)), (2, .int (nI T))]) C dX7_fill_54 hnl (by decide) rfl ?_
  refine lp_sets C hnl B (fun E2 g2 k29 k30 kfr kI => ⟨rfl, rfl, kfr, k29, g2, k30, kI⟩) hP hP2 hT (2 ^ P - 1) _ _ (by omega) (jv_n (by decide) e29) (va_up_self _ _ _) (fun j q1 q2 => (va_up_ne _ _ q2).trans (hfr j q1 q2)) ⟨fun s h1 h2 t ht => ?_, fun s h1 t ht => ?_⟩
  · have hs : s = 2 ^ P - 1 := by omega
    subst hs
    rw [jb_cl (by omega), jb_Uf P hP2, jw_W]
    by_cases h0 : t = 0
    · subst h0
      rw [Nat.add_zero, pk_us]
      rfl
    · rw [pk_un (by omega), hz _ (by omega), if_neg (by omega)]
      exact nI_0.symm
  · rw [jb_cl (by omega), pk_un (by omega)]
    exact hz _ (by omega)

set_option maxRecDepth 100000 in
set_option maxHeartbeats 8000000 in
theorem c_waysOn_neg (l : Launch) (D : va_G) (kp : Nat → ClassId) {n : Nat} {E : Nat → jv_E} (s v : Int32) (hv : v.toInt < 0) :
    jv_M l D vwCl kp yX7_waysOn (ck_ws 276) (ck_rm 0 0) ck_NN [.ref 29, .int s, .int v] n E 0 0 (fun r n1 E1 => some (.int 0) = r ∧ n = n1 ∧ E = E1) := by
  refine jv_of (cc := cX7_waysOn) (maxL := 4) (rt := some .int) (by decide) rfl (Nat.le_of_ble_eq_true rfl) (fun G C B hI hnl => ?_)
  show jv_V l D vwCl kp G 0 0 n E 0 [(0, .ref 29), (1, .int s), (2, .int v)] []
  refine jv_iload_n C dX7_waysOn_0 1 rfl ?_
  refine jv_bipush (v := 10) C dX7_waysOn_1 (by decide) ?_
  refine jv_imul C dX7_waysOn_3 ?_
  refine jv_iload_n C dX7_waysOn_4 2 rfl ?_
  refine jv_iadd C dX7_waysOn_5 ?_
  refine jv_istore_n (lv2 := [(3, .int (s * 10 + v)), (0, .ref 29), (1, .int s), (2, .int v)]) C dX7_waysOn_6 rfl hnl (by decide) rfl ?_
  refine jv_iload_n C dX7_waysOn_7 3 rfl ?_
  refine jv_if_lt (tgt := 30) C dX7_waysOn_8 (by decide) (fun _ => ?_) (fun h => absurd (jv_r_lt (by have z0 : (0 : Int32).toInt = 0 := (by decide); omega)) h)
  refine jv_iconst (v := 0) C dX7_waysOn_30 (by decide) ?_
  refine jv_goto (tgt := 40) C dX7_waysOn_31 (by decide) ?_
  exact jv_iret C B ⟨rfl, rfl, rfl⟩ ⟨by decide, by decide⟩ dX7_waysOn_40
set_option maxRecDepth 100000 in
set_option maxHeartbeats 8000000 in
theorem c_waysOn (l : Launch) (D : va_G) (kp : Nat → ClassId) {n : Nat} {E : Nat → jv_E} {u0 u1 : Value} {g : Nat → Int32} {s t : Nat} (h29 : E 29 = .inr (7, [u0, u1, .ref 30])) (h30 : E 30 = .inl (0, 2560, .inl g)) (hs : s < 256) (ht : t < 10) :
    jv_M l D vwCl kp yX7_waysOn (ck_ws 276) (ck_rm 0 0) ck_NN [.ref 29, .int (nI s), .int (nI t)] n E 0 0 (fun r n1 E1 => some (.int (g (s * 10 + t))) = r ∧ n = n1 ∧ E = E1) := by
  refine jv_of (cc := cX7_waysOn) (maxL := 4) (rt := some .int) (by decide) rfl (Nat.le_of_ble_eq_true rfl) (fun G C B hI hnl => ?_)
  show jv_V l D vwCl kp G 0 0 n E 0 [(0, .ref 29), (1, .int (nI s)), (2, .int (nI t))] []
  refine jv_iload_n C dX7_waysOn_0 1 rfl ?_
  refine jv_bipush (v := 10) C dX7_waysOn_1 (by decide) ?_
  refine jv_imul C dX7_waysOn_3 ?_
  refine jv_ti (jb_m10 s) ?_
  refine jv_iload_n C dX7_waysOn_4 2 rfl ?_
  refine jv_iadd C dX7_waysOn_5 ?_
  refine jv_ti (nI_add (s * 10) t) ?_
  refine jv_istore_n (lv2 := [(3, .int (nI (s * 10 + t))), (0, .ref 29), (1, .int (nI s)), (2, .int (nI t))]) C dX7_waysOn_6 rfl hnl (by decide) rfl ?_
  refine jv_iload_n C dX7_waysOn_7 3 rfl ?_
  refine jv_if_lt (tgt := 30) C dX7_waysOn_8 (by decide) (fun h => absurd h (nI_pos (by omega))) (fun _ => ?_)
  refine jv_iload_n C dX7_waysOn_11 3 rfl ?_
  refine jv_bipush (v := 10) C dX7_waysOn_12 (by decide) ?_
  refine jv_icmp_ge (tgt := 30) C dX7_waysOn_14 (by decide) (fun h => absurd h (nI_ge (b := 10) ht (by decide))) (fun _ => ?_)
  refine jv_iload_n C dX7_waysOn_17 0 rfl ?_
  refine jv_if_lt (tgt := 30) C dX7_waysOn_18 (by decide) (fun h => absurd h (nI_pos (by omega))) (fun _ => ?_)
  refine jv_iload_n C dX7_waysOn_21 0 rfl ?_
  refine jv_aload_n C dX7_waysOn_22 1 rfl ?_
  refine jv_getf (fk := 2) C (by decide) h29 rfl hc_in7 (by decide) hf7_11 rfl rfl dX7_waysOn_23 ?_
  refine jv_alen (v := nI 2560) C (by decide) h30 .int (fun _ => rfl) rfl dX7_waysOn_26 ?_
  refine jv_icmp_lt (tgt := 34) C dX7_waysOn_27 (by decide) (fun _ => ?_) (fun h => absurd (nI_lt (by omega) (by omega)) h)
  refine jv_aload_n C dX7_waysOn_34 1 rfl ?_
  refine jv_getf (fk := 2) C (by decide) h29 rfl hc_in7 (by decide) hf7_11 rfl rfl dX7_waysOn_35 ?_
  refine jv_iload_n C dX7_waysOn_38 0 rfl ?_
  refine jv_iald C (by decide) h30 (jb_in (by omega) (by decide)) dX7_waysOn_39 ?_
  refine jv_ti (y := g (s * 10 + t)) (by rw [jb_cl (by omega)]) ?_
  exact jv_iret C B ⟨rfl, rfl, rfl⟩ ⟨by decide, by decide⟩ dX7_waysOn_40
set_option maxRecDepth 100000 in
set_option maxHeartbeats 8000000 in
theorem c_waysOf (l : Launch) (D : va_G) (kp : Nat → ClassId) {n : Nat} {E : Nat → jv_E} {P T b : Nat} {u0 u1 : Int32} {g : Nat → Int32} (h29 : E 29 = .inr (7, [.int u0, .int u1, .ref 30])) (h30 : E 30 = .inl (0, 2560, .inl g)) (hP : 1 ≤ P) (hP2 : P < 9) (hT : T < 10) (hb : b < 10) (hty : jb_ty u0 u1 g) :
    jv_M l D vwCl kp yX7_waysOf (ck_ws 271) (ck_rm 3 135) ck_NN [.ref 29, .int (nI P), .int (nI b), .int (nI T)] n E 0 0 (fun r n1 E1 => some (.int (nI (jw_W P T P 0 (b : Int)))) = r ∧ n = n1 ∧ (∀ j, j ≠ 29 → j ≠ 30 → E1 j = E j) ∧ E1 29 = .inr (7, [.int (nI P), .int (nI T), .ref 30]) ∧ ∃ g, E1 30 = .inl (0, 2560, .inl g) ∧ jb_I P T 0 g) := by
  refine jv_of (cc := cX7_waysOf) (maxL := 4) (rt := some .int) (by decide) rfl (Nat.le_of_ble_eq_true rfl) (fun G C B hI hnl => ?_)
  show jv_V l D vwCl kp G 0 0 n E 0 [(0, .ref 29), (1, .int (nI P)), (2, .int (nI b)), (3, .int (nI T))] []
  refine jv_aload_n C dX7_waysOf_0 0 rfl ?_
  refine jv_iload_n C dX7_waysOf_1 1 rfl ?_
  refine jv_iload_n C dX7_waysOf_2 3 rfl ?_
  refine jv_callV (na := 2) (As := [.int (nI P), .int (nI T)]) (st := []) C (c_fill l D kp h29 h30 hP hP2 hT hty) gX7_waysOf_X7_fill rfl (by decide) h29 rfl rfl rfl q_X7_fill rfl ⟨by decide, by decide⟩ ⟨by decide, by decide⟩ (fun _ h => h) (Nat.le_of_ble_eq_true rfl) rfl dX7_waysOf_3 (fun r n1 E1 hp _ => ?_)
  obtain ⟨rfl, rfl, hf, e29, g1, e30, hJ⟩ := hp
  show jv_V l D vwCl kp G 0 0 n E1 6 [(0, .ref 29), (1, .int (nI P)), (2, .int (nI b)), (3, .int (nI T))] []
  refine jv_aload_n C dX7_waysOf_6 0 rfl ?_
  refine jv_iconst (v := 0) C dX7_waysOf_7 (by decide) ?_
  refine jv_iload_n C dX7_waysOf_8 2 rfl ?_
  refine jv_callV (na := 2) (As := [.int 0, .int (nI b)]) (st := []) C (c_waysOn (s := 0) l D kp e29 e30 (by decide) hb) gX7_waysOf_X7_waysOn rfl (by decide) e29 rfl rfl rfl q_X7_waysOn rfl ⟨by decide, by decide⟩ ⟨by decide, by decide⟩ (fun _ h => h) (Nat.le_of_ble_eq_true rfl) rfl dX7_waysOf_9 (fun r n1 E2 hp _ => ?_)
  obtain ⟨rfl, rfl, rfl⟩ := hp
  show jv_V l D vwCl kp G 0 0 n E1 12 [(0, .ref 29), (1, .int (nI P)), (2, .int (nI b)), (3, .int (nI T))] [.int (g1 (0 * 10 + b))]
  have hp2 := jb_p2 P hP2
  refine jv_ti (y := nI (jw_W P T P 0 (b : Int))) (by rw [hJ.1 0 (by omega) (by omega) b hb, (jw_start P hP2).1]) ?_
  exact jv_iret C B ⟨rfl, rfl, hf, e29, g1, e30, hJ⟩ ⟨by decide, by decide⟩ dX7_waysOf_12
set_option maxRecDepth 100000 in
set_option maxHeartbeats 8000000 in
theorem c_X8_rows (l : Launch) (D : va_G) (kp : Nat → ClassId) {n : Nat} {E : Nat → jv_E} {fs : List Value} {u0 u1 : Int32} {g0 : Nat → Int32} {post : Option Value → Nat → (Nat → jv_E) → Prop} (h0 : E 0 = .inr (8, fs)) (h8 : fs[8]? = some (.ref 29)) (h29 : E 29 = .inr (7, [.int u0, .int u1, .ref 30])) (h30 : E 30 = .inl (0, 2560, .inl g0)) (hty : jb_ty u0 u1 g0) (p1 p2 p3 : Int32)
    (hpo : ∀ E1 : Nat → jv_E, jb_po E E1 → post (some (.long (jr_rows p1 p2 p3))) n E1) :
    jv_M l D vwCl kp yX8_rows (ck_ws 42) (ck_rm 4 180) ck_NN [.ref 0, .int p1, .int p2, .int p3] n E 0 0 post := by
  refine jv_of (cc := cX8_rows) (maxL := 4) (rt := some .long) (by decide) rfl (Nat.le_of_ble_eq_true rfl) (fun G C B hI hnl => ?_)
  show jv_V l D vwCl kp G 0 0 n E 0 [(0, .ref 0), (1, .int p1), (2, .int p2), (3, .int p3)] []
  refine jv_iload_n C dX8_rows_0 1 rfl ?_
  refine jv_iload_n C dX8_rows_1 2 rfl ?_
  refine jv_iload_n C dX8_rows_2 3 rfl ?_
  refine jv_callS (na := 3) (As := [.int p1, .int p2, .int p3]) (st := []) C (c_X8_isRowKind l D kp p1 p2 p3) gX8_rows_X8_isRowKind rfl rfl rfl q_X8_isRowKind rfl ⟨by decide, by decide⟩ ⟨by decide, by decide⟩ (fun _ h => h) (Nat.le_of_ble_eq_true rfl) rfl dX8_rows_3 (fun r n1 E1 hp _ => ?_)
  obtain ⟨⟨rfl, hc⟩ | ⟨rfl, hc⟩, rfl, rfl⟩ := hp
  · show jv_V l D vwCl kp G 0 0 n E 6 [(0, .ref 0), (1, .int p1), (2, .int p2), (3, .int p3)] [.int 1]
    obtain ⟨P, hP1, rfl, hP3⟩ := jb_of2 (x := p1) (m := 8) (by omega) (by omega)
    obtain ⟨b, hb1, rfl, hb3⟩ := jb_of2 (x := p2) (m := 9) (by omega) (by omega)
    obtain ⟨T, hT1, rfl, hT3⟩ := jb_of2 (x := p3) (m := 9) (by omega) (by omega)
    have hP : 1 ≤ P := by omega
    have hP2 : P < 9 := by omega
    have hb : b < 10 := by omega
    have hT : T < 10 := by omega
    refine jv_if_ne (tgt := 13) C dX8_rows_6 (by decide) (fun _ => ?_) (fun h => absurd h (by decide))
    refine jv_aload_n C dX8_rows_13 0 rfl ?_
    refine jv_getf (fk := 8) C (by decide) h0 rfl hc_in8 (by decide) hf8_60 rfl h8 dX8_rows_14 ?_
    refine jv_iload_n C dX8_rows_17 1 rfl ?_
    refine jv_iload_n C dX8_rows_18 2 rfl ?_
    refine jv_iload_n C dX8_rows_19 3 rfl ?_
    refine jv_callV (na := 3) (As := [.int (nI P), .int (nI b), .int (nI T)]) (st := []) C (c_waysOf l D kp h29 h30 hP hP2 hT hb hty) gX8_rows_X7_waysOf rfl (by decide) h29 rfl rfl rfl q_X7_waysOf rfl ⟨by decide, by decide⟩ ⟨by decide, by decide⟩ (fun _ h => h) (Nat.le_of_ble_eq_true rfl) rfl dX8_rows_20 (fun r n1 E1 hp _ => ?_)
    obtain ⟨rfl, rfl, hf, e29, g1, e30, hJ⟩ := hp
    show jv_V l D vwCl kp G 0 0 n E1 23 [(0, .ref 0), (1, .int (nI P)), (2, .int (nI b)), (3, .int (nI T))] [.int (nI (jw_W P T P 0 (b : Int)))]
    refine jv_i2l C dX8_rows_23 ?_
    refine jv_tl (nI_l (jb_lt hP2 hT)) ?_
    exact jv_lret C B (by rw [← jr_rows_in hP hP2 hb hT]; exact hpo _ (Or.inr ⟨hf, P, T, g1, hP, hP2, hT, e29, e30, hJ⟩)) ⟨by decide, by decide⟩ dX8_rows_24
  · show jv_V l D vwCl kp G 0 0 n E 6 [(0, .ref 0), (1, .int p1), (2, .int p2), (3, .int p3)] [.int 0]
    refine jv_if_ne (tgt := 13) C dX8_rows_6 (by decide) (fun h => absurd (by decide) h) (fun _ => ?_)
    refine jv_ldc2 (v := (-2)) C dX8_rows_9 (ck_wsin kj1.1) ?_
    exact jv_lret C B (by rw [← show jr_rows p1 p2 p3 = -2 by unfold jr_rows; rw [if_neg hc]]; exact hpo _ (Or.inl rfl)) ⟨by decide, by decide⟩ dX8_rows_12

set_option maxRecDepth 100000 in
set_option maxHeartbeats 8000000 in
theorem c_fill_same (l : Launch) (D : va_G) (kp : Nat → ClassId) {n : Nat} {E : Nat → jv_E} {P T : Int32} (h29 : E 29 = .inr (7, [.int P, .int T, .ref 30])) :
    jv_M l D vwCl kp yX7_fill (ck_ws 272) (ck_rm 2 90) ck_NN [.ref 29, .int P, .int T] n E 0 0 (fun r n1 E1 => none = r ∧ n = n1 ∧ E = E1) := by
  refine jv_of (cc := cX7_fill) (maxL := 6) (rt := none) (by decide) rfl (Nat.le_of_ble_eq_true rfl) (fun G C B hI hnl => ?_)
  show jv_V l D vwCl kp G 0 0 n E 0 [(0, .ref 29), (1, .int P), (2, .int T)] []
  refine jv_iload_n C dX7_fill_0 1 rfl ?_
  refine jv_aload_n C dX7_fill_1 0 rfl ?_
  refine jv_getf (fk := 0) C (by decide) h29 rfl hc_in7 (by decide) hf7_23 rfl rfl dX7_fill_2 ?_
  refine jv_icmp_ne (tgt := 17) C dX7_fill_5 (by decide) (fun h => absurd rfl h) (fun _ => ?_)
  refine jv_iload_n C dX7_fill_8 2 rfl ?_
  refine jv_aload_n C dX7_fill_9 0 rfl ?_
  refine jv_getf (fk := 1) C (by decide) h29 rfl hc_in7 (by decide) hf7_27 rfl rfl dX7_fill_10 ?_
  refine jv_icmp_ne (tgt := 17) C dX7_fill_13 (by decide) (fun h => absurd rfl h) (fun _ => ?_)
  exact jv_vret C B ⟨rfl, rfl, rfl⟩ ⟨by decide, by decide⟩ dX7_fill_16
set_option maxRecDepth 100000 in
set_option maxHeartbeats 8000000 in
theorem lp_lh {l : Launch} {D : va_G} {kp : Nat → ClassId} {G : jv_G} {n : Nat} {E E0 : Nat → jv_E} {P T i s t : Nat} {g : Nat → Int32} {post : Option Value → Nat → (Nat → jv_E) → Prop} (C : jv_C D vwCl kp G cX7_leastHeight yX7_leastHeight.cls (ck_ws 278) (ck_rm 1 45) ck_NN) (hnl : jv_nL G = 6) (B : jv_R D vwCl kp G E0 (some .int) 0 0 post)
    (h29 : E 29 = .inr (7, [.int (nI P), .int (nI T), .ref 30])) (h30 : E 30 = .inl (0, 2560, .inl g)) (hg : jb_I P T 0 g) (hP : 1 ≤ P) (hP2 : P < 9) (hT : T < 10) (hi : i < P) (hs : s < 2 ^ P) (hu : jw_U P s + i = P) (ht : t < 10) {R : Nat} (hp : post (some (.int (nI R))) n E) :
    ∀ (f h : Nat), h + f = T → jl_first (jb_term P T s t) f h = R → jv_V l D vwCl kp G 0 0 n E 3 [(4, .int (nI h)), (0, .ref 29), (1, .int (nI s)), (2, .int (nI t)), (3, .int (nI i))] [] := by
  have hp2 := jb_p2 P hP2
  intro f
  induction f with
  | zero =>
    intro h h1 h2
    have e : h = T := by omega
    subst e
    rw [jl_first] at h2
    subst h2
    refine jv_iload C dX7_leastHeight_3 0 rfl ?_
    refine jv_aload_n C dX7_leastHeight_5 1 rfl ?_
    refine jv_getf (fk := 1) C (by decide) h29 rfl hc_in7 (by decide) hf7_27 rfl rfl dX7_leastHeight_6 ?_
    refine jv_icmp_ge (tgt := 58) C dX7_leastHeight_9 (by decide) (fun _ => ?_) (fun q => absurd (nI_le (Nat.le_refl _) (by omega)) q)
    refine jv_aload_n C dX7_leastHeight_58 1 rfl ?_
    refine jv_getf (fk := 1) C (by decide) h29 rfl hc_in7 (by decide) hf7_27 rfl rfl dX7_leastHeight_59 ?_
    exact jv_iret C B hp ⟨by decide, by decide⟩ dX7_leastHeight_62
  | succ f ih =>
    intro h h1 h2
    rw [jl_first] at h2
    have hm : (i + h) % P < P := Nat.mod_lt _ hP
    obtain ⟨o1, o2, o3⟩ := jb_or P hP2 s hs _ hm
    have hq20 : (i + h) / P < 20 := Nat.lt_of_le_of_lt (Nat.div_le_self _ _) (by omega)
    have et := jl_term (T := T) (t := t) (h := h) hu
    have hbd := jl_bd (T := T) (s := s) (t := t) (h := h) hP2 hT (by omega)
    refine jv_iload C dX7_leastHeight_3 0 rfl ?_
    refine jv_aload_n C dX7_leastHeight_5 1 rfl ?_
    refine jv_getf (fk := 1) C (by decide) h29 rfl hc_in7 (by decide) hf7_27 rfl rfl dX7_leastHeight_6 ?_
    refine jv_icmp_ge (tgt := 58) C dX7_leastHeight_9 (by decide) (fun q => absurd q (nI_ge (by omega) (by omega))) (fun _ => ?_)
    refine jv_iload_n C dX7_leastHeight_12 2 rfl ?_
    refine jv_aload_n C dX7_leastHeight_13 1 rfl ?_
    refine jv_iload_n C dX7_leastHeight_14 4 rfl ?_
    refine jv_iload C dX7_leastHeight_15 0 rfl ?_
    refine jv_iadd C dX7_leastHeight_17 ?_
    refine jv_ti (nI_add i h) ?_
    refine jv_callV (na := 1) (As := [.int (nI (i + h))]) (st := [.int (nI s)]) C (c_bitOf l D kp h29 hP hP2 (d := i + h) (by omega)) gX7_leastHeight_X7_bitOf rfl (by decide) h29 rfl rfl rfl q_X7_bitOf rfl ⟨by decide, by decide⟩ ⟨by decide, by decide⟩ (fun _ h => h) (Nat.le_of_ble_eq_true rfl) rfl dX7_leastHeight_18 (fun r n1 E1 hp1 _ => ?_)
    obtain ⟨rfl, rfl, rfl⟩ := hp1
    show jv_V l D vwCl kp G 0 0 n E 21 [(4, .int (nI h)), (0, .ref 29), (1, .int (nI s)), (2, .int (nI t)), (3, .int (nI i))] [.int (nI (2 ^ ((i + h) % P))), .int (nI s)]
    obtain ⟨m, em⟩ : ∃ m, (i + h) % P = m := ⟨_, rfl⟩
    rw [em] at hm o1 o2 o3 et ⊢
    refine jv_ior C dX7_leastHeight_21 ?_
    refine jv_ti (jb_nor s (2 ^ m)) ?_
    refine jv_istore (lv2 := [(5, .int (nI (s ||| 2 ^ m))), (4, .int (nI h)), (0, .ref 29), (1, .int (nI s)), (2, .int (nI t)), (3, .int (nI i))]) C dX7_leastHeight_22 hnl (by decide) rfl ?_
    refine jv_iload C dX7_leastHeight_24 0 rfl ?_
    refine jv_iload_n C dX7_leastHeight_26 3 rfl ?_
    have go : jb_term P T s t h = 0 → jv_V l D vwCl kp G 0 0 n E 52 [(5, .int (nI (s ||| 2 ^ m))), (4, .int (nI h)), (0, .ref 29), (1, .int (nI s)), (2, .int (nI t)), (3, .int (nI i))] [] := fun z => by
      rw [if_pos z] at h2
      refine jv_iinc (v := nI (h + 1)) (lv2 := [(4, .int (nI (h + 1))), (5, .int (nI (s ||| 2 ^ m))), (0, .ref 29), (1, .int (nI s)), (2, .int (nI t)), (3, .int (nI i))]) C dX7_leastHeight_52 hnl 1 rfl (nI_1 h) (by decide) rfl ?_
      refine jv_goto (tgt := 3) C dX7_leastHeight_55 (by decide) ?_
      refine jv_lpk [0, 2, 3, 4, 5] rfl ?_
      exact ih (h + 1) (by omega) h2
    refine jv_icmp_eq (tgt := 52) C dX7_leastHeight_27 (by decide) (fun q => ?_) (fun q => ?_)
    · refine go ?_
      have q2 := (nI_eq (by omega) (by omega)).mp q
      cases tb : s.testBit m
      · have := o3 tb; omega
      · rw [et, if_pos tb]
    have tb : s.testBit m = false := by
      cases tb : s.testBit m
      · rfl
      · exact absurd (by rw [o2 tb]) q
    obtain ⟨f1, f2, f3⟩ := jw_fin P hP2 s (by omega) _ hm tb
    rw [if_neg (by rw [tb]; decide)] at et
    refine jv_aload_n C dX7_leastHeight_30 2 rfl ?_
    refine jv_iload C dX7_leastHeight_31 0 rfl ?_
    refine jv_iload_n C dX7_leastHeight_33 4 rfl ?_
    refine jv_aload_n C dX7_leastHeight_34 2 rfl ?_
    refine jv_iload_n C dX7_leastHeight_35 5 rfl ?_
    refine jv_iload C dX7_leastHeight_36 1 rfl ?_
    refine jv_iadd C dX7_leastHeight_38 ?_
    refine jv_ti (nI_add i h) ?_
    refine jv_callV (na := 1) (As := [.int (nI (i + h))]) (st := [.int (nI t), .int (nI (s ||| 2 ^ m)), .ref 29]) C (c_turnsOf l D kp h29 hP hP2 (d := i + h) (by omega)) gX7_leastHeight_X7_turnsOf rfl (by decide) h29 rfl rfl rfl q_X7_turnsOf rfl ⟨by decide, by decide⟩ ⟨by decide, by decide⟩ (fun _ h => h) (Nat.le_of_ble_eq_true rfl) rfl dX7_leastHeight_39 (fun r n1 E1 hp1 _ => ?_)
    obtain ⟨rfl, rfl, rfl⟩ := hp1
    show jv_V l D vwCl kp G 0 0 n E 42 [(5, .int (nI (s ||| 2 ^ m))), (4, .int (nI h)), (0, .ref 29), (1, .int (nI s)), (2, .int (nI t)), (3, .int (nI i))] [.int (nI ((i + h) / P)), .int (nI t), .int (nI (s ||| 2 ^ m)), .ref 29]
    refine jv_isub C dX7_leastHeight_42 ?_
    rcases Nat.lt_or_ge t ((i + h) / P) with hq | hq
    · refine jv_callV (na := 2) (As := [.int (nI (s ||| 2 ^ m)), .int (nI t - nI ((i + h) / P))]) (st := []) C (c_waysOn_neg l D kp (nI (s ||| 2 ^ m)) (nI t - nI ((i + h) / P)) (jl_neg t ht _ hq20 hq)) gX7_leastHeight_X7_waysOn rfl (by decide) h29 rfl rfl rfl q_X7_waysOn rfl ⟨by decide, by decide⟩ ⟨by decide, by decide⟩ (fun _ h => h) (Nat.le_of_ble_eq_true rfl) rfl dX7_leastHeight_43 (fun r n1 E1 hp1 _ => ?_)
      obtain ⟨rfl, rfl, rfl⟩ := hp1
      show jv_V l D vwCl kp G 0 0 n E 46 [(5, .int (nI (s ||| 2 ^ m))), (4, .int (nI h)), (0, .ref 29), (1, .int (nI s)), (2, .int (nI t)), (3, .int (nI i))] [.int 0]
      refine jv_if_le (tgt := 52) C dX7_leastHeight_46 (by decide) (fun _ => go ?_) (fun q => absurd (by decide) q)
      rw [et]
      exact jw_neg _ _ _ _ _ (by omega)
    · refine jv_ti (jm_sub hq) ?_
      refine jv_callV (na := 2) (As := [.int (nI (s ||| 2 ^ m)), .int (nI (t - (i + h) / P))]) (st := []) C (c_waysOn l D kp h29 h30 (s := s ||| 2 ^ m) (t := t - (i + h) / P) (by omega) (Nat.lt_of_le_of_lt (Nat.sub_le _ _) ht)) gX7_leastHeight_X7_waysOn rfl (by decide) h29 rfl rfl rfl q_X7_waysOn rfl ⟨by decide, by decide⟩ ⟨by decide, by decide⟩ (fun _ h => h) (Nat.le_of_ble_eq_true rfl) rfl dX7_leastHeight_43 (fun r n1 E1 hp1 _ => ?_)
      obtain ⟨rfl, rfl, rfl⟩ := hp1
      show jv_V l D vwCl kp G 0 0 n E 46 [(5, .int (nI (s ||| 2 ^ m))), (4, .int (nI h)), (0, .ref 29), (1, .int (nI s)), (2, .int (nI t)), (3, .int (nI i))] [.int (g ((s ||| 2 ^ m) * 10 + (t - (i + h) / P)))]
      refine jv_ti (y := nI (jb_term P T s t h)) (by
        rw [hg.1 _ (by omega) o1 _ (Nat.lt_of_le_of_lt (Nat.sub_le _ _) ht), et, show jw_U P (s ||| 2 ^ m) = jw_U P s - 1 by omega, Int.ofNat_sub hq]) ?_
      by_cases z : jb_term P T s t h = 0
      · refine jv_if_le (tgt := 52) C dX7_leastHeight_46 (by decide) (fun _ => go z) (fun q => absurd (by rw [z]; decide) q)
      · refine jv_if_le (tgt := 52) C dX7_leastHeight_46 (by decide) (fun q => absurd q (nI_nle (by omega) hbd)) (fun _ => ?_)
        rw [if_neg z] at h2
        subst h2
        refine jv_iload C dX7_leastHeight_49 1 rfl ?_
        exact jv_iret C B hp ⟨by decide, by decide⟩ dX7_leastHeight_51
set_option maxRecDepth 100000 in
set_option maxHeartbeats 8000000 in
theorem c_leastHeight (l : Launch) (D : va_G) (kp : Nat → ClassId) {n : Nat} {E : Nat → jv_E} {P T i s t : Nat} {g : Nat → Int32} (h29 : E 29 = .inr (7, [.int (nI P), .int (nI T), .ref 30])) (h30 : E 30 = .inl (0, 2560, .inl g)) (hg : jb_I P T 0 g) (hP : 1 ≤ P) (hP2 : P < 9) (hT : T < 10) (hi : i < P) (hs : s < 2 ^ P) (hu : jw_U P s + i = P) (ht : t < 10) :
    jv_M l D vwCl kp yX7_leastHeight (ck_ws 278) (ck_rm 1 45) ck_NN [.ref 29, .int (nI s), .int (nI t), .int (nI i)] n E 0 0 (fun r n1 E1 => some (.int (nI (jl_first (jb_term P T s t) T 0))) = r ∧ n = n1 ∧ E = E1) := by
  refine jv_of (cc := cX7_leastHeight) (maxL := 6) (rt := some .int) (by decide) rfl (Nat.le_of_ble_eq_true rfl) (fun G C B hI hnl => ?_)
  show jv_V l D vwCl kp G 0 0 n E 0 [(0, .ref 29), (1, .int (nI s)), (2, .int (nI t)), (3, .int (nI i))] []
  refine jv_iconst (v := nI 0) C dX7_leastHeight_0 (by decide) ?_
  refine jv_istore (lv2 := [(4, .int (nI 0)), (0, .ref 29), (1, .int (nI s)), (2, .int (nI t)), (3, .int (nI i))]) C dX7_leastHeight_1 hnl (by decide) rfl ?_
  exact lp_lh C hnl B h29 h30 hg hP hP2 hT hi hs hu ht ⟨rfl, rfl, rfl⟩ T 0 (by omega) rfl
set_option maxRecDepth 100000 in
set_option maxHeartbeats 8000000 in
theorem lp_hl {l : Launch} {D : va_G} {kp : Nat → ClassId} {G : jv_G} {n : Nat} {E E0 : Nat → jv_E} {P T b m : Nat} {g : Nat → Int32} {post : Option Value → Nat → (Nat → jv_E) → Prop} (C : jv_C D vwCl kp G cX7_heightOfLeast yX7_heightOfLeast.cls (ck_ws 277) (ck_rm 3 135) ck_NN) (hnl : jv_nL G = 9) (B : jv_R D vwCl kp G E0 (some .int) 0 0 post)
    (h29 : E 29 = .inr (7, [.int (nI P), .int (nI T), .ref 30])) (h30 : E 30 = .inl (0, 2560, .inl g)) (hg : jb_I P T 0 g) (hP : 1 ≤ P) (hP2 : P < 9) (hT : T < 10) (hm : m < P) (hp : post (some (.int (nI (jl_run P T b (m + 1)).2.2))) n E) :
    ∀ (f i s t h : Nat), i + f = m + 1 → jl_run P T b i = (s, t, h) → jl_inv P T i s t → jv_V l D vwCl kp G 0 0 n E 18 [(8, .int (nI i)), (7, .int (nI h)), (6, .int (nI t)), (5, .int (nI s)), (0, .ref 29), (1, .int (nI P)), (2, .int (nI b)), (3, .int (nI T)), (4, .int (nI m))] [] := by
  have hp2 := jb_p2 P hP2
  intro f
  induction f with
  | zero =>
    intro i s t h h1 e hv
    have ei : i = m + 1 := by omega
    subst ei
    rw [e] at hp
    refine jv_iload C dX7_heightOfLeast_18 0 rfl ?_
    refine jv_iload C dX7_heightOfLeast_20 8 rfl ?_
    refine jv_icmp_gt (tgt := 71) C dX7_heightOfLeast_22 (by decide) (fun _ => ?_) (fun q => absurd (nI_lt (by omega) (by omega)) q)
    refine jv_iload C dX7_heightOfLeast_71 1 rfl ?_
    exact jv_iret C B hp ⟨by decide, by decide⟩ dX7_heightOfLeast_73
  | succ f ih =>
    intro i s t h h1 e hv
    obtain ⟨r, er, r1, r2, r3, r4, r5, r6⟩ := jl_step hP hP2 (by omega) hv
    have e2 : jl_run P T b (i + 1) = (s ||| 2 ^ ((i + r) % P), t - (i + r) / P, r) := by simp only [jl_run, e, er]
    obtain ⟨v1, v2, v3, v4⟩ := hv
    refine jv_iload C dX7_heightOfLeast_18 0 rfl ?_
    refine jv_iload C dX7_heightOfLeast_20 8 rfl ?_
    refine jv_icmp_gt (tgt := 71) C dX7_heightOfLeast_22 (by decide) (fun q => absurd q (nI_nlt (by omega) (by omega))) (fun _ => ?_)
    refine jv_aload_n C dX7_heightOfLeast_25 4 rfl ?_
    refine jv_iload C dX7_heightOfLeast_26 3 rfl ?_
    refine jv_iload C dX7_heightOfLeast_28 2 rfl ?_
    refine jv_iload C dX7_heightOfLeast_30 0 rfl ?_
    refine jv_callV (na := 3) (As := [.int (nI s), .int (nI t), .int (nI i)]) (st := []) C (c_leastHeight l D kp h29 h30 hg hP hP2 hT (i := i) (by omega) v1 v2 v3) gX7_heightOfLeast_X7_leastHeight rfl (by decide) h29 rfl rfl rfl q_X7_leastHeight rfl ⟨by decide, by decide⟩ ⟨by decide, by decide⟩ (fun _ h => h) (Nat.le_of_ble_eq_true rfl) rfl dX7_heightOfLeast_32 (fun q n1 E1 hp1 _ => ?_)
    rw [er] at hp1
    obtain ⟨rfl, rfl, rfl⟩ := hp1
    show jv_V l D vwCl kp G 0 0 n E 35 [(8, .int (nI i)), (7, .int (nI h)), (6, .int (nI t)), (5, .int (nI s)), (0, .ref 29), (1, .int (nI P)), (2, .int (nI b)), (3, .int (nI T)), (4, .int (nI m))] [.int (nI r)]
    refine jv_istore (lv2 := [(7, .int (nI r)), (8, .int (nI i)), (6, .int (nI t)), (5, .int (nI s)), (0, .ref 29), (1, .int (nI P)), (2, .int (nI b)), (3, .int (nI T)), (4, .int (nI m))]) C dX7_heightOfLeast_35 hnl (by decide) rfl ?_
    refine jv_iload C dX7_heightOfLeast_37 3 rfl ?_
    refine jv_aload_n C dX7_heightOfLeast_39 4 rfl ?_
    refine jv_iload C dX7_heightOfLeast_40 1 rfl ?_
    refine jv_iload C dX7_heightOfLeast_42 0 rfl ?_
    refine jv_iadd C dX7_heightOfLeast_44 ?_
    refine jv_ti (nI_add i r) ?_
    refine jv_callV (na := 1) (As := [.int (nI (i + r))]) (st := [.int (nI s)]) C (c_bitOf l D kp h29 hP hP2 (d := i + r) (by omega)) gX7_heightOfLeast_X7_bitOf rfl (by decide) h29 rfl rfl rfl q_X7_bitOf rfl ⟨by decide, by decide⟩ ⟨by decide, by decide⟩ (fun _ h => h) (Nat.le_of_ble_eq_true rfl) rfl dX7_heightOfLeast_45 (fun q n1 E1 hp1 _ => ?_)
    obtain ⟨rfl, rfl, rfl⟩ := hp1
    show jv_V l D vwCl kp G 0 0 n E 48 [(7, .int (nI r)), (8, .int (nI i)), (6, .int (nI t)), (5, .int (nI s)), (0, .ref 29), (1, .int (nI P)), (2, .int (nI b)), (3, .int (nI T)), (4, .int (nI m))] [.int (nI (2 ^ ((i + r) % P))), .int (nI s)]
    refine jv_ior C dX7_heightOfLeast_48 ?_
    refine jv_ti (jb_nor s (2 ^ ((i + r) % P))) ?_
    refine jv_istore (lv2 := [(5, .int (nI (s ||| 2 ^ ((i + r) % P)))), (7, .int (nI r)), (8, .int (nI i)), (6, .int (nI t)), (0, .ref 29), (1, .int (nI P)), (2, .int (nI b)), (3, .int (nI T)), (4, .int (nI m))]) C dX7_heightOfLeast_49 hnl (by decide) rfl ?_
    refine jv_iload C dX7_heightOfLeast_51 3 rfl ?_
    refine jv_aload_n C dX7_heightOfLeast_53 4 rfl ?_
    refine jv_iload C dX7_heightOfLeast_54 2 rfl ?_
    refine jv_iload C dX7_heightOfLeast_56 1 rfl ?_
    refine jv_iadd C dX7_heightOfLeast_58 ?_
    refine jv_ti (nI_add i r) ?_
    refine jv_callV (na := 1) (As := [.int (nI (i + r))]) (st := [.int (nI t)]) C (c_turnsOf l D kp h29 hP hP2 (d := i + r) (by omega)) gX7_heightOfLeast_X7_turnsOf rfl (by decide) h29 rfl rfl rfl q_X7_turnsOf rfl ⟨by decide, by decide⟩ ⟨by decide, by decide⟩ (fun _ h => h) (Nat.le_of_ble_eq_true rfl) rfl dX7_heightOfLeast_59 (fun q n1 E1 hp1 _ => ?_)
    obtain ⟨rfl, rfl, rfl⟩ := hp1
    show jv_V l D vwCl kp G 0 0 n E 62 [(5, .int (nI (s ||| 2 ^ ((i + r) % P)))), (7, .int (nI r)), (8, .int (nI i)), (6, .int (nI t)), (0, .ref 29), (1, .int (nI P)), (2, .int (nI b)), (3, .int (nI T)), (4, .int (nI m))] [.int (nI ((i + r) / P)), .int (nI t)]
    refine jv_isub C dX7_heightOfLeast_62 ?_
    refine jv_ti (jm_sub r3) ?_
    refine jv_istore (lv2 := [(6, .int (nI (t - (i + r) / P))), (5, .int (nI (s ||| 2 ^ ((i + r) % P)))), (7, .int (nI r)), (8, .int (nI i)), (0, .ref 29), (1, .int (nI P)), (2, .int (nI b)), (3, .int (nI T)), (4, .int (nI m))]) C dX7_heightOfLeast_63 hnl (by decide) rfl ?_
    refine jv_iinc (v := nI (i + 1)) (lv2 := [(8, .int (nI (i + 1))), (6, .int (nI (t - (i + r) / P))), (5, .int (nI (s ||| 2 ^ ((i + r) % P)))), (7, .int (nI r)), (0, .ref 29), (1, .int (nI P)), (2, .int (nI b)), (3, .int (nI T)), (4, .int (nI m))]) C dX7_heightOfLeast_65 hnl 3 rfl (nI_1 i) (by decide) rfl ?_
    refine jv_goto (tgt := 18) C dX7_heightOfLeast_68 (by decide) ?_
    refine jv_lpk [0, 3, 1, 2, 4, 5, 6, 7, 8] rfl ?_
    exact ih (i + 1) _ _ _ (by omega) e2 r6
set_option maxRecDepth 100000 in
set_option maxHeartbeats 8000000 in
theorem c_heightOfLeast (l : Launch) (D : va_G) (kp : Nat → ClassId) {n : Nat} {E : Nat → jv_E} {P T b m : Nat} {g : Nat → Int32} (h29 : E 29 = .inr (7, [.int (nI P), .int (nI T), .ref 30])) (h30 : E 30 = .inl (0, 2560, .inl g)) (hg : jb_I P T 0 g) (hP : 1 ≤ P) (hP2 : P < 9) (hT : T < 10) (hb : b < 10) (hm : m < P) (hw : jw_W P T P 0 (b : Int) ≠ 0) :
    jv_M l D vwCl kp yX7_heightOfLeast (ck_ws 277) (ck_rm 3 135) ck_NN [.ref 29, .int (nI P), .int (nI b), .int (nI T), .int (nI m)] n E 0 0 (fun r n1 E1 => some (.int (nI (jl_run P T b (m + 1)).2.2)) = r ∧ n = n1 ∧ E = E1) := by
  refine jv_of (cc := cX7_heightOfLeast) (maxL := 9) (rt := some .int) (by decide) rfl (Nat.le_of_ble_eq_true rfl) (fun G C B hI hnl => ?_)
  show jv_V l D vwCl kp G 0 0 n E 0 [(0, .ref 29), (1, .int (nI P)), (2, .int (nI b)), (3, .int (nI T)), (4, .int (nI m))] []
  refine jv_aload_n C dX7_heightOfLeast_0 0 rfl ?_
  refine jv_iload_n C dX7_heightOfLeast_1 1 rfl ?_
  refine jv_iload_n C dX7_heightOfLeast_2 3 rfl ?_
  refine jv_callV (na := 2) (As := [.int (nI P), .int (nI T)]) (st := []) C (c_fill_same l D kp h29) gX7_heightOfLeast_X7_fill rfl (by decide) h29 rfl rfl rfl q_X7_fill rfl ⟨by decide, by decide⟩ ⟨by decide, by decide⟩ (fun _ h => h) (Nat.le_of_ble_eq_true rfl) rfl dX7_heightOfLeast_3 (fun r n1 E1 hp _ => ?_)
  obtain ⟨rfl, rfl, rfl⟩ := hp
  show jv_V l D vwCl kp G 0 0 n E 6 [(0, .ref 29), (1, .int (nI P)), (2, .int (nI b)), (3, .int (nI T)), (4, .int (nI m))] []
  refine jv_iconst (v := nI 0) C dX7_heightOfLeast_6 (by decide) ?_
  refine jv_istore (lv2 := [(5, .int (nI 0)), (0, .ref 29), (1, .int (nI P)), (2, .int (nI b)), (3, .int (nI T)), (4, .int (nI m))]) C dX7_heightOfLeast_7 hnl (by decide) rfl ?_
  refine jv_iload_n C dX7_heightOfLeast_9 3 rfl ?_
  refine jv_istore (lv2 := [(6, .int (nI b)), (5, .int (nI 0)), (0, .ref 29), (1, .int (nI P)), (2, .int (nI b)), (3, .int (nI T)), (4, .int (nI m))]) C dX7_heightOfLeast_10 hnl (by decide) rfl ?_
  refine jv_iconst (v := nI 0) C dX7_heightOfLeast_12 (by decide) ?_
  refine jv_istore (lv2 := [(7, .int (nI 0)), (6, .int (nI b)), (5, .int (nI 0)), (0, .ref 29), (1, .int (nI P)), (2, .int (nI b)), (3, .int (nI T)), (4, .int (nI m))]) C dX7_heightOfLeast_13 hnl (by decide) rfl ?_
  refine jv_iconst (v := nI 0) C dX7_heightOfLeast_15 (by decide) ?_
  refine jv_istore (lv2 := [(8, .int (nI 0)), (7, .int (nI 0)), (6, .int (nI b)), (5, .int (nI 0)), (0, .ref 29), (1, .int (nI P)), (2, .int (nI b)), (3, .int (nI T)), (4, .int (nI m))]) C dX7_heightOfLeast_16 hnl (by decide) rfl ?_
  exact lp_hl C hnl B h29 h30 hg hP hP2 hT hm ⟨rfl, rfl, rfl⟩ (m + 1) 0 0 b 0 (by omega) rfl (jl_0 hP2 hb hw)
set_option maxRecDepth 100000 in
set_option maxHeartbeats 8000000 in
theorem c_X8_least (l : Launch) (D : va_G) (kp : Nat → ClassId) {n : Nat} {E : Nat → jv_E} {fs : List Value} {u0 u1 : Int32} {g0 : Nat → Int32} {post : Option Value → Nat → (Nat → jv_E) → Prop} (h0 : E 0 = .inr (8, fs)) (h8 : fs[8]? = some (.ref 29)) (h29 : E 29 = .inr (7, [.int u0, .int u1, .ref 30])) (h30 : E 30 = .inl (0, 2560, .inl g0)) (hty : jb_ty u0 u1 g0) (p1 p2 p3 p4 : Int32)
    (hpo : ∀ E1 : Nat → jv_E, jb_po E E1 → post (some (.int (jr_least p1 p2 p3 p4))) n E1) :
    jv_M l D vwCl kp yX8_least (ck_ws 43) (ck_rm 4 180) ck_NN [.ref 0, .int p1, .int p2, .int p3, .int p4] n E 0 0 post := by
  refine jv_of (cc := cX8_least) (maxL := 5) (rt := some .int) (by decide) rfl (Nat.le_of_ble_eq_true rfl) (fun G C B hI hnl => ?_)
  show jv_V l D vwCl kp G 0 0 n E 0 [(0, .ref 0), (1, .int p1), (2, .int p2), (3, .int p3), (4, .int p4)] []
  have z0 : (0 : Int32).toInt = 0 := by decide
  have no : jr_least p1 p2 p3 p4 = -2 → jv_V l D vwCl kp G 0 0 n E 20 [(0, .ref 0), (1, .int p1), (2, .int p2), (3, .int p3), (4, .int p4)] [] := fun q => by
    refine jv_bipush (v := -2) C dX8_least_20 (by decide) ?_
    exact jv_iret C B (by rw [← q]; exact hpo _ (Or.inl rfl)) ⟨by decide, by decide⟩ dX8_least_22
  refine jv_iload_n C dX8_least_0 1 rfl ?_
  refine jv_iload_n C dX8_least_1 2 rfl ?_
  refine jv_iload_n C dX8_least_2 3 rfl ?_
  refine jv_callS (na := 3) (As := [.int p1, .int p2, .int p3]) (st := []) C (c_X8_isRowKind l D kp p1 p2 p3) gX8_least_X8_isRowKind rfl rfl rfl q_X8_isRowKind rfl ⟨by decide, by decide⟩ ⟨by decide, by decide⟩ (fun _ h => h) (Nat.le_of_ble_eq_true rfl) rfl dX8_least_3 (fun r n1 E1 hp _ => ?_)
  obtain ⟨⟨rfl, hc⟩ | ⟨rfl, hc⟩, rfl, rfl⟩ := hp
  · show jv_V l D vwCl kp G 0 0 n E 6 [(0, .ref 0), (1, .int p1), (2, .int p2), (3, .int p3), (4, .int p4)] [.int 1]
    refine jv_if_eq (tgt := 20) C dX8_least_6 (by decide) (fun h => absurd h (by decide)) (fun _ => ?_)
    refine jv_iload C dX8_least_9 4 rfl ?_
    refine jv_if_lt (tgt := 20) C dX8_least_11 (by decide) (fun h => no ?_) (fun h => ?_)
    · have a := jv_i_lt h
      unfold jr_least
      rw [if_neg (by omega)]
    have a4 := jv_i_nlt h
    refine jv_iload C dX8_least_14 4 rfl ?_
    refine jv_iload_n C dX8_least_16 1 rfl ?_
    refine jv_icmp_lt (tgt := 23) C dX8_least_17 (by decide) (fun h => ?_) (fun h => no (by
      have a := jv_i_nlt h
      unfold jr_least
      rw [if_neg (by omega)]))
    have a5 := jv_i_lt h
    obtain ⟨P, hP1, rfl, hP3⟩ := jb_of2 (x := p1) (m := 8) (by omega) (by omega)
    obtain ⟨b, hb1, rfl, hb3⟩ := jb_of2 (x := p2) (m := 9) (by omega) (by omega)
    obtain ⟨T, hT1, rfl, hT3⟩ := jb_of2 (x := p3) (m := 9) (by omega) (by omega)
    obtain ⟨m, hm1, rfl, hm3⟩ := jb_of2 (x := p4) (m := 8) (by omega) (by omega)
    have hP : 1 ≤ P := by omega
    have hP2 : P < 9 := by omega
    have hb : b < 10 := by omega
    have hT : T < 10 := by omega
    have hm : m < P := by omega
    have er := jr_least_in hP2 hP hb hT hm
    refine jv_aload_n C dX8_least_23 0 rfl ?_
    refine jv_getf (fk := 8) C (by decide) h0 rfl hc_in8 (by decide) hf8_60 rfl h8 dX8_least_24 ?_
    refine jv_iload_n C dX8_least_27 1 rfl ?_
    refine jv_iload_n C dX8_least_28 2 rfl ?_
    refine jv_iload_n C dX8_least_29 3 rfl ?_
    refine jv_callV (na := 3) (As := [.int (nI P), .int (nI b), .int (nI T)]) (st := []) C (c_waysOf l D kp h29 h30 hP hP2 hT hb hty) gX8_least_X7_waysOf rfl (by decide) h29 rfl rfl rfl q_X7_waysOf rfl ⟨by decide, by decide⟩ ⟨by decide, by decide⟩ (fun _ h => h) (Nat.le_of_ble_eq_true rfl) rfl dX8_least_30 (fun r n1 E1 hp _ => ?_)
    obtain ⟨rfl, rfl, hf, e29, g, e30, hg⟩ := hp
    show jv_V l D vwCl kp G 0 0 n E1 33 [(0, .ref 0), (1, .int (nI P)), (2, .int (nI b)), (3, .int (nI T)), (4, .int (nI m))] [.int (nI (jw_W P T P 0 (b : Int)))]
    have hq := hpo _ (Or.inr ⟨hf, P, T, g, hP, hP2, hT, e29, e30, hg⟩)
    by_cases hw : jw_W P T P 0 (b : Int) = 0
    · refine jv_if_ne (tgt := 40) C dX8_least_33 (by decide) (fun q => absurd (by rw [hw]; exact nI_0) q) (fun _ => ?_)
      refine jv_iconst (v := -1) C dX8_least_36 (by decide) ?_
      refine jv_goto (tgt := 52) C dX8_least_37 (by decide) ?_
      exact jv_iret C B (by rw [er, if_pos hw] at hq; exact hq) ⟨by decide, by decide⟩ dX8_least_52
    · refine jv_if_ne (tgt := 40) C dX8_least_33 (by decide) (fun _ => ?_) (fun q => absurd q (nI_ne0 (Nat.pos_of_ne_zero hw) (jb_lt hP2 hT)))
      refine jv_aload_n C dX8_least_40 0 rfl ?_
      refine jv_getf (fk := 8) C (by decide) ((hf 0 (by decide) (by decide)).trans h0) rfl hc_in8 (by decide) hf8_60 rfl h8 dX8_least_41 ?_
      refine jv_iload_n C dX8_least_44 1 rfl ?_
      refine jv_iload_n C dX8_least_45 2 rfl ?_
      refine jv_iload_n C dX8_least_46 3 rfl ?_
      refine jv_iload C dX8_least_47 4 rfl ?_
      refine jv_callV (na := 4) (As := [.int (nI P), .int (nI b), .int (nI T), .int (nI m)]) (st := []) C (c_heightOfLeast l D kp e29 e30 hg hP hP2 hT hb hm hw) gX8_least_X7_heightOfLeast rfl (by decide) e29 rfl rfl rfl q_X7_heightOfLeast rfl ⟨by decide, by decide⟩ ⟨by decide, by decide⟩ (fun _ h => h) (Nat.le_of_ble_eq_true rfl) rfl dX8_least_49 (fun r n1 E2 hp _ => ?_)
      obtain ⟨rfl, rfl, rfl⟩ := hp
      show jv_V l D vwCl kp G 0 0 n E1 52 [(0, .ref 0), (1, .int (nI P)), (2, .int (nI b)), (3, .int (nI T)), (4, .int (nI m))] [.int (nI (jl_run P T b (m + 1)).2.2)]
      exact jv_iret C B (by rw [er, if_neg hw] at hq; exact hq) ⟨by decide, by decide⟩ dX8_least_52
  · show jv_V l D vwCl kp G 0 0 n E 6 [(0, .ref 0), (1, .int p1), (2, .int p2), (3, .int p3), (4, .int p4)] [.int 0]
    refine jv_if_eq (tgt := 20) C dX8_least_6 (by decide) (fun _ => no ?_) (fun h => absurd (by decide) h)
    unfold jr_least
    rw [if_neg (fun q => hc q.1)]
set_option maxRecDepth 100000 in
set_option maxHeartbeats 8000000 in
theorem c_X9_rows (l : Launch) (D : va_G) (kp : Nat → ClassId) {n : Nat} {E : Nat → jv_E} {fs : List Value} {g0 : Nat → Int64} {post : Option Value → Nat → (Nat → jv_E) → Prop} (h58 : E 58 = .inr (9, fs)) (h40 : fs[40]? = some (.ref 82)) (hlen : 0 < fs.length) (h82 : E 82 = .inl (3, 18688, .inr (.inl g0))) (p1 p2 p3 : Int32)
    (hpo : ∀ (E1 : Nat → jv_E) (gl : Nat → Int64), E1 58 = .inr (9, fs.set 0 (.int 0)) → E1 82 = .inl (3, 18688, .inr (.inl gl)) → (∀ k, k ≠ 58 → k ≠ 82 → E1 k = E k) → post (some (.long (jr_rows p1 p2 p3))) n E1) :
    jv_M l D vwCl kp yX9_rows (ck_ws 154) (ck_rm 2 70) ck_NN [.ref 58, .int p1, .int p2, .int p3] n E 0 0 post := by
  refine jv_of (cc := cX9_rows) (maxL := 4) (rt := some .long) (by decide) rfl (Nat.le_of_ble_eq_true rfl) (fun G C B hI hnl => ?_)
  show jv_V l D vwCl kp G 0 0 n E 0 [(0, .ref 58), (1, .int p1), (2, .int p2), (3, .int p3)] []
  have h41 : (fs.set 0 (.int 0))[40]? = some (.ref 82) := by rw [List.getElem?_set_ne (by decide)]; exact h40
  have hq : ∀ E1 : Nat → jv_E, (∀ k, k ≠ 82 → E1 k = va_up E 58 (.inr (9, fs.set 0 (.int 0))) k) → E1 58 = .inr (9, fs.set 0 (.int 0)) ∧ ∀ k, k ≠ 58 → k ≠ 82 → E1 k = E k := fun E1 h => ⟨(h 58 (by decide)).trans (va_up_self _ _ _), fun k a b => (h k b).trans (va_up_ne _ _ a)⟩
  refine jv_aload_n C dX9_rows_0 0 rfl ?_
  refine jv_iconst (v := 0) C dX9_rows_1 (by decide) ?_
  refine jv_putf (fk := 0) (ty := .int) (fs2 := fs.set 0 (.int 0)) C (by decide) h58 rfl hc_in9 tyX9 tyX9_ok nmX9 (by decide) hf9_92 rfl rfl rfl (fun _ => rfl) (fun _ => rfl) hlen dX9_rows_2 rfl ?_
  refine jv_iload_n C dX9_rows_5 1 rfl ?_
  refine jv_iload_n C dX9_rows_6 2 rfl ?_
  refine jv_iload_n C dX9_rows_7 3 rfl ?_
  refine jv_callS (na := 3) (As := [.int p1, .int p2, .int p3]) (st := []) C (c_X9_areRows l D kp p1 p2 p3) gX9_rows_X9_areRows rfl rfl rfl q_X9_areRows rfl ⟨by decide, by decide⟩ ⟨by decide, by decide⟩ (fun _ h => h) (Nat.le_of_ble_eq_true rfl) rfl dX9_rows_8 (fun r n1 E1 hp _ => ?_)
  obtain ⟨⟨rfl, hc⟩ | ⟨rfl, hc⟩, rfl, rfl⟩ := hp
  · obtain ⟨P, hP1, rfl, hP3⟩ := jb_of2 (x := p1) (m := 8) (by omega) (by omega)
    obtain ⟨b, hb1, rfl, hb3⟩ := jb_of2 (x := p2) (m := 9) (by omega) (by omega)
    obtain ⟨T, hT1, rfl, hT3⟩ := jb_of2 (x := p3) (m := 9) (by omega) (by omega)
    have hP : 1 ≤ P := by omega
    have hP2 : P < 9 := by omega
    have hb : b < 10 := by omega
    have hT : T < 10 := by omega
    have hX := jm_72 hP2 hb
    show jv_V l D vwCl kp G 0 0 n (va_up E 58 (.inr (9, fs.set 0 (.int 0)))) 11 [(0, .ref 58), (1, .int (nI P)), (2, .int (nI b)), (3, .int (nI T))] [.int 1]
    refine jv_if_ne (tgt := 18) C dX9_rows_11 (by decide) (fun _ => ?_) (fun h => absurd h (by decide))
    refine jv_aload_n C dX9_rows_18 0 rfl ?_
    refine jv_iload_n C dX9_rows_19 1 rfl ?_
    refine jv_iload_n C dX9_rows_20 2 rfl ?_
    refine jv_iload_n C dX9_rows_21 3 rfl ?_
    refine jv_callV (na := 3) (As := [.int (nI P), .int (nI b), .int (nI T)]) (st := []) C (c_X9_laysRows l D kp (va_up_self _ _ _) h41 (jv_n (by decide) h82) hP hP2 hb hT) gX9_rows_X9_laysRows rfl (by decide) (va_up_self _ _ _) rfl rfl rfl q_X9_laysRows rfl ⟨by decide, by decide⟩ ⟨by decide, by decide⟩ (fun _ h => h) (Nat.le_of_ble_eq_true rfl) rfl dX9_rows_22 (fun r n1 E1 hp _ => ?_)
    obtain ⟨rfl, rfl, k58, gl, k82, kI⟩ := hp
    show jv_V l D vwCl kp G 0 0 n E1 25 [(0, .ref 58), (1, .int (nI P)), (2, .int (nI b)), (3, .int (nI T))] []
    refine jv_aload_n C dX9_rows_25 0 rfl ?_
    refine jv_getf (fk := 40) C (by decide) (hq _ k58).1 rfl hc_in9 (by decide) hf9_86 rfl h41 dX9_rows_26 ?_
    refine jv_iconst (v := nI 0) C dX9_rows_29 (by decide) ?_
    refine jv_iload_n C dX9_rows_30 1 rfl ?_
    refine jv_iload_n C dX9_rows_31 2 rfl ?_
    refine jv_imul C dX9_rows_32 ?_
    refine jv_ti (pk_mul P b) ?_
    refine jv_callS (na := 2) (As := [.int (nI 0), .int (nI (P * b))]) (st := [.ref 82]) C (c_X9_at l D kp 0 (P * b)) gX9_rows_X9_at rfl rfl rfl q_X9_at rfl ⟨by decide, by decide⟩ ⟨by decide, by decide⟩ (fun _ h => h) (Nat.le_of_ble_eq_true rfl) rfl dX9_rows_33 (fun r n1 E2 hp _ => ?_)
    obtain ⟨rfl, rfl, rfl⟩ := hp
    show jv_V l D vwCl kp G 0 0 n E1 36 [(0, .ref 58), (1, .int (nI P)), (2, .int (nI b)), (3, .int (nI T))] [.int (nI (73 * 0 + P * b)), .ref 82]
    refine jv_lald C (by decide) k82 (jb_in (by omega) (by decide)) dX9_rows_36 ?_
    have hp2 := jb_p2 P hP2
    refine jv_tl (y := jr_rows (nI P) (nI b) (nI T)) (by rw [jr_rows_in hP hP2 hb hT, jw_eq hP hP2, jb_cl (by omega), kI 0 (by omega) (by omega) _ (Nat.le_refl _), (jw_start P hP2).1]) ?_
    exact jv_lret C B (hpo _ gl (hq _ k58).1 k82 (hq _ k58).2) ⟨by decide, by decide⟩ dX9_rows_37
  · show jv_V l D vwCl kp G 0 0 n (va_up E 58 (.inr (9, fs.set 0 (.int 0)))) 11 [(0, .ref 58), (1, .int p1), (2, .int p2), (3, .int p3)] [.int 0]
    refine jv_if_ne (tgt := 18) C dX9_rows_11 (by decide) (fun h => absurd (by decide) h) (fun _ => ?_)
    refine jv_ldc2 (v := (-2)) C dX9_rows_14 (ck_wsin kj29.1) ?_
    exact jv_lret C B (by rw [← show jr_rows p1 p2 p3 = -2 by unfold jr_rows; rw [if_neg hc]]; exact hpo _ g0 (va_up_self _ _ _) ((va_up_ne _ _ (by decide)).trans h82) (fun k a _ => va_up_ne _ _ a)) ⟨by decide, by decide⟩ dX9_rows_17

theorem jb_nI_inj {a b : Nat} (h : nI a = nI b) (ha : a < 1000) (hb : b < 1000) : a = b := by
  have q := congrArg Int32.toInt h
  rw [nI_toInt (by omega), nI_toInt (by omega)] at q
  omega
theorem k116_of {E : Nat → jv_E} {p : Int} (h : ck_lk E 116 p = 1) : vf_ty E := by
  rw [ck_lk_v (by decide)] at h
  exact cb_1 h
theorem k116_mk {E : Nat → jv_E} {p : Int} (h : vf_ty E) : ck_lk E 116 p = 1 := by
  rw [ck_lk_v (by decide)]
  exact cb_t h
theorem i32_bd (x : Int32) : -2147483648 ≤ x.toInt ∧ x.toInt ≤ 2147483647 := by
  have b1 := Int32.le_toInt x
  have b2 := Int32.toInt_lt x
  omega
theorem k208 {E : Nat → jv_E} {p : Int} {x1 x2 x3 : Int32} (h : p = 18446744073709551616 * (x1.toInt + 2147483648) + 4294967296 * (x2.toInt + 2147483648) + (x3.toInt + 2147483648)) : ck_lk E 208 p = (jr_rows x1 x2 x3).toInt := by
  have b1 := i32_bd x1
  have b2 := i32_bd x2
  have b3 := i32_bd x3
  rw [ck_lk_v (by decide)]
  show (jr_rows (Int32.ofInt (p / 18446744073709551616 - 2147483648)) (Int32.ofInt (p / 4294967296 % 4294967296 - 2147483648)) (Int32.ofInt (p % 4294967296 - 2147483648))).toInt = _
  rw [show p / 18446744073709551616 - 2147483648 = x1.toInt by omega, show p / 4294967296 % 4294967296 - 2147483648 = x2.toInt by omega, show p % 4294967296 - 2147483648 = x3.toInt by omega, Int32.ofInt_toInt, Int32.ofInt_toInt, Int32.ofInt_toInt]
theorem k209 {E : Nat → jv_E} {p : Int} {x1 x2 x3 x4 : Int32} (h : p = 79228162514264337593543950336 * (x1.toInt + 2147483648) + 18446744073709551616 * (x2.toInt + 2147483648) + 4294967296 * (x3.toInt + 2147483648) + (x4.toInt + 2147483648)) : ck_lk E 209 p = (jr_least x1 x2 x3 x4).toInt := by
  have b1 := i32_bd x1
  have b2 := i32_bd x2
  have b3 := i32_bd x3
  have b4 := i32_bd x4
  rw [ck_lk_v (by decide)]
  show (jr_least (Int32.ofInt (p / 79228162514264337593543950336 - 2147483648)) (Int32.ofInt (p / 18446744073709551616 % 4294967296 - 2147483648)) (Int32.ofInt (p / 4294967296 % 4294967296 - 2147483648)) (Int32.ofInt (p % 4294967296 - 2147483648))).toInt = _
  rw [show p / 79228162514264337593543950336 - 2147483648 = x1.toInt by omega, show p / 18446744073709551616 % 4294967296 - 2147483648 = x2.toInt by omega, show p / 4294967296 % 4294967296 - 2147483648 = x3.toInt by omega, show p % 4294967296 - 2147483648 = x4.toInt by omega, Int32.ofInt_toInt, Int32.ofInt_toInt, Int32.ofInt_toInt, Int32.ofInt_toInt]
theorem jb_po_ty {E E1 : Nat → jv_E} (h : vf_ty E) (hp : jb_po E E1) : vf_ty E1 := by
  rcases hp with q | ⟨-, P, T, g, hP, hP2, hT, e29, e30, hJ⟩
  · rw [q]; exact h
  · intro u0 u1 g2 h29 h30 P' T' a b c hu0 hu1
    rw [e29] at h29
    rw [e30] at h30
    cases h29
    cases h30
    have q1 := jb_nI_inj hu0 (by omega) (by omega)
    have q2 := jb_nI_inj hu1 (by omega) (by omega)
    rw [← q1, ← q2]
    exact hJ
theorem jb_po_gi {E E1 : Nat → jv_E} (h : ck_gi E) (hp : jb_po E E1) : ck_gi E1 ∧ (∀ k, k ∉ [29, 30] → E1 k = E k) ∧ ∀ Φ, ck_gf Φ E → ck_gf Φ E1 := by
  rcases hp with q | ⟨hf, P, T, g, hP, hP2, hT, e29, e30, hJ⟩
  · rw [q]; exact ⟨h, fun _ _ => rfl, fun _ a => a⟩
  · have hE1 : E1 = va_up (va_up E 29 (.inr (7, [.int (nI P), .int (nI T), .ref 30]))) 30 (.inl (0, 2560, .inl g)) := by
      funext k
      by_cases a : k = 30
      · subst a; rw [e30, va_up_self]
      · rw [va_up_ne _ _ a]
        by_cases b : k = 29
        · subst b; rw [e29, va_up_self]
        · rw [va_up_ne _ _ b]; exact hf k b a
    have nP : (nI P).toInt = P := nI_toInt (by omega)
    have nT : (nI T).toInt = T := nI_toInt (by omega)
    refine ⟨?_, fun k hk => hf k (fun q => hk (by rw [q]; decide)) (fun q => hk (by rw [q]; decide)), fun Φ a => ?_⟩
    · rw [hE1]
      refine ck_gi_up (ck_gi_up h (show ck_CT[29]? = some _ from rfl) ⟨_, rfl, ⟨nI P, rfl, ?_, ?_⟩, ⟨nI T, rfl, ?_, ?_⟩, rfl, trivial⟩) (show ck_CT[30]? = some _ from rfl) ((ck_okI (by decide)).mpr ⟨g, rfl, fun i _ => ?_⟩)
      · show (0 : Int) ≤ (nI P).toInt
        omega
      · show (nI P).toInt ≤ 8
        omega
      · show (0 : Int) ≤ (nI T).toInt
        omega
      · show (nI T).toInt ≤ 9
        omega
      · rw [ck_bd1 rfl i 0]
        exact i32_bd (g i)
    · rw [hE1]
      exact ck_gf_up (by decide) (ck_gf_up (by decide) a)
theorem ccX8rows {l : Launch} {D : va_G} {kp : Nat → ClassId} : ck_con l D kp ck_NN ceX8rows := by
  refine (ck_con_M (by decide)).mpr ?_
  intro σ E ar hgi hF hargs hP hΦ
  obtain ⟨a0, s0, rfl, h0, hs0⟩ := ck_rs_cons hargs
  obtain ⟨a1, s1, rfl, ⟨w1, x1, rfl, hx1⟩, hs1⟩ := ck_rs_cons hs0
  obtain ⟨a2, s2, rfl, ⟨w2, x2, rfl, hx2⟩, hs2⟩ := ck_rs_cons hs1
  obtain ⟨a3, s3, rfl, ⟨w3, x3, rfl, hx3⟩, hs3⟩ := ck_rs_cons hs2
  have e5 := ck_rs_nil hs3
  subst e5
  have h0 : a0 = .ref 0 := h0
  subst h0
  have hx1 : x1.toInt = 0 + (1 * σ 0 + 0) := hx1
  have hb1 := i32_bd x1
  have hx2 : x2.toInt = 0 + (1 * σ 1 + 0) := hx2
  have hb2 := i32_bd x2
  have hx3 : x3.toInt = 0 + (1 * σ 2 + 0) := hx3
  have hb3 := i32_bd x3
  have p0 : ck_lk E 116 (0 + 0) = 0 + (1 * σ 3 + 0) := (hP _ (List.mem_of_getElem? (i := 0) rfl)).2.2
  have f0 : (0 : Int) ≤ -1 + (1 * σ 3 + 0) := hF _ (List.mem_of_getElem? (i := 6) rfl)
  have f1 : (0 : Int) ≤ 1 + (-1 * σ 3 + 0) := hF _ (List.mem_of_getElem? (i := 7) rfl)
  have hty := k116_of (p0.trans (show (0 : Int) + (1 * σ 3 + 0) = 1 by omega))
  obtain ⟨fs, e0, hl⟩ := hgi 0 _ rfl
  obtain ⟨v8, hv8, hr8⟩ := ck_okl_get (j := 8) hl rfl
  have hr8 : v8 = .ref 29 := hr8
  subst hr8
  obtain ⟨fs2, e29, hl2⟩ := hgi 29 _ rfl
  obtain ⟨g, e30, hg⟩ := (ck_okI (by decide)).mp (hgi 30 _ rfl)
  match fs2, hl2, e29 with
  | [], hl2, _ => exact hl2.elim
  | [_], hl2, _ => exact hl2.2.elim
  | [_, _], hl2, _ => exact hl2.2.2.elim
  | _ :: _ :: _ :: _ :: _, hl2, _ => exact hl2.2.2.2.elim
  | [b0, b1, b2], hl2, e29 =>
  obtain ⟨⟨u0, q0, -⟩, ⟨u1, q1, -⟩, q2, -⟩ := hl2
  have q2 : b2 = .ref 30 := q2
  subst q0; subst q1; subst q2
  refine c_X8_rows l D kp (fs := fs) e0 hv8 e29 e30 (hty u0 u1 g e29 e30) x1 x2 x3 (fun E1 hpo => ?_)
  obtain ⟨k1, k2, k3⟩ := jb_po_gi hgi hpo
  refine ⟨rfl, k1, fun k hk => k2 k hk, _, List.mem_of_getElem? (i := 0) rfl, (fun i => if i = 4 then (jr_rows x1 x2 x3).toInt else σ i), (fun i hi => by show (if i = 4 then _ else σ i) = σ i; rw [if_neg (show ¬ i = 4 by have : i < 4 := hi; omega)]), fun _ h => absurd h List.not_mem_nil, fun _ h => absurd h List.not_mem_nil, ⟨ck_wb_ok rfl, _, rfl, ?_⟩, (List.forall_mem_cons.mpr ⟨⟨⟨ck_wb_ok rfl, ck_wb_ok rfl⟩, (show (0 : Int) ≤ 0 + 0 by decide), k116_mk (jb_po_ty hty hpo)⟩, (List.forall_mem_cons.mpr ⟨⟨⟨ck_wb_ok rfl, ck_wb_ok rfl⟩, ?_, ?_⟩, (fun _ h => absurd h List.not_mem_nil)⟩)⟩), k3 _ hΦ⟩
  · show (jr_rows x1 x2 x3).toInt = 0 + (1 * (jr_rows x1 x2 x3).toInt + 0)
    omega
  · show (0 : Int) ≤ 39614081266355540835774234624 + (18446744073709551616 * σ 0 + (4294967296 * σ 1 + (1 * σ 2 + 0)))
    omega
  · refine (k208 (E := E1) (x1 := x1) (x2 := x2) (x3 := x3) ?_).trans ?_
    · show 39614081266355540835774234624 + (18446744073709551616 * σ 0 + (4294967296 * σ 1 + (1 * σ 2 + 0))) = 18446744073709551616 * (x1.toInt + 2147483648) + 4294967296 * (x2.toInt + 2147483648) + (x3.toInt + 2147483648)
      omega
    · show (jr_rows x1 x2 x3).toInt = 0 + (1 * (jr_rows x1 x2 x3).toInt + 0)
      omega
theorem ccX8least {l : Launch} {D : va_G} {kp : Nat → ClassId} : ck_con l D kp ck_NN ceX8least := by
  refine (ck_con_M (by decide)).mpr ?_
  intro σ E ar hgi hF hargs hP hΦ
  obtain ⟨a0, s0, rfl, h0, hs0⟩ := ck_rs_cons hargs
  obtain ⟨a1, s1, rfl, ⟨w1, x1, rfl, hx1⟩, hs1⟩ := ck_rs_cons hs0
  obtain ⟨a2, s2, rfl, ⟨w2, x2, rfl, hx2⟩, hs2⟩ := ck_rs_cons hs1
  obtain ⟨a3, s3, rfl, ⟨w3, x3, rfl, hx3⟩, hs3⟩ := ck_rs_cons hs2
  obtain ⟨a4, s4, rfl, ⟨w4, x4, rfl, hx4⟩, hs4⟩ := ck_rs_cons hs3
  have e5 := ck_rs_nil hs4
  subst e5
  have h0 : a0 = .ref 0 := h0
  subst h0
  have hx1 : x1.toInt = 0 + (1 * σ 0 + 0) := hx1
  have hb1 := i32_bd x1
  have hx2 : x2.toInt = 0 + (1 * σ 1 + 0) := hx2
  have hb2 := i32_bd x2
  have hx3 : x3.toInt = 0 + (1 * σ 2 + 0) := hx3
  have hb3 := i32_bd x3
  have hx4 : x4.toInt = 0 + (1 * σ 3 + 0) := hx4
  have hb4 := i32_bd x4
  have p0 : ck_lk E 116 (0 + 0) = 0 + (1 * σ 4 + 0) := (hP _ (List.mem_of_getElem? (i := 0) rfl)).2.2
  have f0 : (0 : Int) ≤ -1 + (1 * σ 4 + 0) := hF _ (List.mem_of_getElem? (i := 8) rfl)
  have f1 : (0 : Int) ≤ 1 + (-1 * σ 4 + 0) := hF _ (List.mem_of_getElem? (i := 9) rfl)
  have hty := k116_of (p0.trans (show (0 : Int) + (1 * σ 4 + 0) = 1 by omega))
  obtain ⟨fs, e0, hl⟩ := hgi 0 _ rfl
  obtain ⟨v8, hv8, hr8⟩ := ck_okl_get (j := 8) hl rfl
  have hr8 : v8 = .ref 29 := hr8
  subst hr8
  obtain ⟨fs2, e29, hl2⟩ := hgi 29 _ rfl
  obtain ⟨g, e30, hg⟩ := (ck_okI (by decide)).mp (hgi 30 _ rfl)
  match fs2, hl2, e29 with
  | [], hl2, _ => exact hl2.elim
  | [_], hl2, _ => exact hl2.2.elim
  | [_, _], hl2, _ => exact hl2.2.2.elim
  | _ :: _ :: _ :: _ :: _, hl2, _ => exact hl2.2.2.2.elim
  | [b0, b1, b2], hl2, e29 =>
  obtain ⟨⟨u0, q0, -⟩, ⟨u1, q1, -⟩, q2, -⟩ := hl2
  have q2 : b2 = .ref 30 := q2
  subst q0; subst q1; subst q2
  refine c_X8_least l D kp (fs := fs) e0 hv8 e29 e30 (hty u0 u1 g e29 e30) x1 x2 x3 x4 (fun E1 hpo => ?_)
  obtain ⟨k1, k2, k3⟩ := jb_po_gi hgi hpo
  refine ⟨rfl, k1, fun k hk => k2 k hk, _, List.mem_of_getElem? (i := 0) rfl, (fun i => if i = 5 then (jr_least x1 x2 x3 x4).toInt else σ i), (fun i hi => by show (if i = 5 then _ else σ i) = σ i; rw [if_neg (show ¬ i = 5 by have : i < 5 := hi; omega)]), fun _ h => absurd h List.not_mem_nil, fun _ h => absurd h List.not_mem_nil, ⟨ck_wb_ok rfl, _, rfl, ?_⟩, (List.forall_mem_cons.mpr ⟨⟨⟨ck_wb_ok rfl, ck_wb_ok rfl⟩, (show (0 : Int) ≤ 0 + 0 by decide), k116_mk (jb_po_ty hty hpo)⟩, (List.forall_mem_cons.mpr ⟨⟨⟨ck_wb_ok rfl, ck_wb_ok rfl⟩, ?_, ?_⟩, (fun _ h => absurd h List.not_mem_nil)⟩)⟩), k3 _ hΦ⟩
  · show (jr_least x1 x2 x3 x4).toInt = 0 + (1 * (jr_least x1 x2 x3 x4).toInt + 0)
    omega
  · show (0 : Int) ≤ 170141183500083312998042844551658340352 + (79228162514264337593543950336 * σ 0 + (18446744073709551616 * σ 1 + (4294967296 * σ 2 + (1 * σ 3 + 0))))
    omega
  · refine (k209 (E := E1) (x1 := x1) (x2 := x2) (x3 := x3) (x4 := x4) ?_).trans ?_
    · show 170141183500083312998042844551658340352 + (79228162514264337593543950336 * σ 0 + (18446744073709551616 * σ 1 + (4294967296 * σ 2 + (1 * σ 3 + 0)))) = 79228162514264337593543950336 * (x1.toInt + 2147483648) + 18446744073709551616 * (x2.toInt + 2147483648) + 4294967296 * (x3.toInt + 2147483648) + (x4.toInt + 2147483648)
      omega
    · show (jr_least x1 x2 x3 x4).toInt = 0 + (1 * (jr_least x1 x2 x3 x4).toInt + 0)
      omega
theorem ccXrows {l : Launch} {D : va_G} {kp : Nat → ClassId} : ck_con l D kp ck_NN ceXrows := by
  refine (ck_con_M (by decide)).mpr ?_
  intro σ E ar hgi hF hargs hP hΦ
  obtain ⟨a0, s0, rfl, h0, hs0⟩ := ck_rs_cons hargs
  obtain ⟨a1, s1, rfl, ⟨w1, x1, rfl, hx1⟩, hs1⟩ := ck_rs_cons hs0
  obtain ⟨a2, s2, rfl, ⟨w2, x2, rfl, hx2⟩, hs2⟩ := ck_rs_cons hs1
  obtain ⟨a3, s3, rfl, ⟨w3, x3, rfl, hx3⟩, hs3⟩ := ck_rs_cons hs2
  have e5 := ck_rs_nil hs3
  subst e5
  have h0 : a0 = .ref 58 := h0
  subst h0
  have hx1 : x1.toInt = 0 + (1 * σ 0 + 0) := hx1
  have hb1 := i32_bd x1
  have hx2 : x2.toInt = 0 + (1 * σ 1 + 0) := hx2
  have hb2 := i32_bd x2
  have hx3 : x3.toInt = 0 + (1 * σ 2 + 0) := hx3
  have hb3 := i32_bd x3
  obtain ⟨fs, e58, hl⟩ := hgi 58 _ rfl
  obtain ⟨g, e82, hg⟩ := ck_okJ.mp (hgi 82 _ rfl)
  obtain ⟨v40, hv40, hr40⟩ := ck_okl_get (j := 40) hl rfl
  have hr40 : v40 = .ref 82 := hr40
  subst hr40
  obtain ⟨v0, hv0, -⟩ := ck_okl_get (j := 0) hl rfl
  have hlen : 0 < fs.length := by
    cases fs with
    | nil => cases hv0
    | cons a b => exact Nat.zero_lt_succ _
  refine c_X9_rows l D kp (fs := fs) e58 hv40 hlen e82 x1 x2 x3 (fun E1 g1 k58 k82 kE => ?_)
  have hE1 : E1 = va_up (va_up E 58 (.inr (9, fs.set 0 (.int 0)))) 82 (.inl (3, 18688, .inr (.inl g1))) := by
    funext k
    by_cases a : k = 82
    · subst a; rw [k82, va_up_self]
    · rw [va_up_ne _ _ a]
      by_cases b : k = 58
      · subst b; rw [k58, va_up_self]
      · rw [va_up_ne _ _ b]; exact kE k b a
  have hg1 : ck_gi E1 := by
    rw [hE1]
    refine ck_gi_up (ck_gi_up hgi (show ck_CT[58]? = some _ from rfl) ⟨_, rfl, ck_okl_set hl rfl ⟨0, rfl, by decide, by decide⟩⟩) (show ck_CT[82]? = some _ from rfl) (ck_okJ.mpr ⟨g1, rfl, fun i _ => ?_⟩)
    have b1 := Int64.le_toInt (g1 i)
    have b2 := Int64.toInt_lt (g1 i)
    rw [ck_bd1 rfl i 0]
    show (-9223372036854775808 : Int) ≤ (g1 i).toInt ∧ (g1 i).toInt ≤ 9223372036854775807
    omega
  have hf1 : ∀ Φ, ck_gf Φ E → ck_gf Φ E1 := fun Φ a => by
    rw [hE1]
    exact ck_gf_up (by decide) (ck_gf_up (by decide) a)
  refine ⟨rfl, hg1, fun k hk => kE k (fun q => hk (by rw [q]; decide)) (fun q => hk (by rw [q]; decide)), _, List.mem_of_getElem? (i := 0) rfl, (fun i => if i = 3 then (jr_rows x1 x2 x3).toInt else σ i), (fun i hi => by show (if i = 3 then _ else σ i) = σ i; rw [if_neg (show ¬ i = 3 by have : i < 3 := hi; omega)]), fun _ h => absurd h List.not_mem_nil, fun _ h => absurd h List.not_mem_nil, ⟨ck_wb_ok rfl, _, rfl, ?_⟩, (List.forall_mem_cons.mpr ⟨⟨⟨ck_wb_ok rfl, ck_wb_ok rfl⟩, ?_, ?_⟩, (fun _ h => absurd h List.not_mem_nil)⟩), hf1 _ hΦ⟩
  · show (jr_rows x1 x2 x3).toInt = 0 + (1 * (jr_rows x1 x2 x3).toInt + 0)
    omega
  · show (0 : Int) ≤ 39614081266355540835774234624 + (18446744073709551616 * σ 0 + (4294967296 * σ 1 + (1 * σ 2 + 0)))
    omega
  · refine (k208 (E := E1) (x1 := x1) (x2 := x2) (x3 := x3) ?_).trans ?_
    · show 39614081266355540835774234624 + (18446744073709551616 * σ 0 + (4294967296 * σ 1 + (1 * σ 2 + 0))) = 18446744073709551616 * (x1.toInt + 2147483648) + 4294967296 * (x2.toInt + 2147483648) + (x3.toInt + 2147483648)
      omega
    · show (jr_rows x1 x2 x3).toInt = 0 + (1 * (jr_rows x1 x2 x3).toInt + 0)
      omega
theorem ccXleast {l : Launch} {D : va_G} {kp : Nat → ClassId} : ck_con l D kp ck_NN ceXleast := by
  refine (ck_con_M (by decide)).mpr ?_
  intro σ E ar hgi hF hargs hP hΦ
  obtain ⟨a0, s0, rfl, h0, hs0⟩ := ck_rs_cons hargs
  obtain ⟨a1, s1, rfl, ⟨w1, x1, rfl, hx1⟩, hs1⟩ := ck_rs_cons hs0
  obtain ⟨a2, s2, rfl, ⟨w2, x2, rfl, hx2⟩, hs2⟩ := ck_rs_cons hs1
  obtain ⟨a3, s3, rfl, ⟨w3, x3, rfl, hx3⟩, hs3⟩ := ck_rs_cons hs2
  obtain ⟨a4, s4, rfl, ⟨w4, x4, rfl, hx4⟩, hs4⟩ := ck_rs_cons hs3
  have e5 := ck_rs_nil hs4
  subst e5
  have h0 : a0 = .ref 58 := h0
  subst h0
  have hx1 : x1.toInt = 0 + (1 * σ 0 + 0) := hx1
  have hb1 := i32_bd x1
  have hx2 : x2.toInt = 0 + (1 * σ 1 + 0) := hx2
  have hb2 := i32_bd x2
  have hx3 : x3.toInt = 0 + (1 * σ 2 + 0) := hx3
  have hb3 := i32_bd x3
  have hx4 : x4.toInt = 0 + (1 * σ 3 + 0) := hx4
  have hb4 := i32_bd x4
  obtain ⟨fs, e58, hl⟩ := hgi 58 _ rfl
  obtain ⟨g, e82, hg⟩ := ck_okJ.mp (hgi 82 _ rfl)
  obtain ⟨v40, hv40, hr40⟩ := ck_okl_get (j := 40) hl rfl
  have hr40 : v40 = .ref 82 := hr40
  subst hr40
  obtain ⟨v0, hv0, -⟩ := ck_okl_get (j := 0) hl rfl
  have hlen : 0 < fs.length := by
    cases fs with
    | nil => cases hv0
    | cons a b => exact Nat.zero_lt_succ _
  refine c_X9_least l D kp (fs := fs) e58 hv40 hlen e82 x1 x2 x3 x4 (fun E1 g1 k58 k82 kE => ?_)
  have hE1 : E1 = va_up (va_up E 58 (.inr (9, fs.set 0 (.int 0)))) 82 (.inl (3, 18688, .inr (.inl g1))) := by
    funext k
    by_cases a : k = 82
    · subst a; rw [k82, va_up_self]
    · rw [va_up_ne _ _ a]
      by_cases b : k = 58
      · subst b; rw [k58, va_up_self]
      · rw [va_up_ne _ _ b]; exact kE k b a
  have hg1 : ck_gi E1 := by
    rw [hE1]
    refine ck_gi_up (ck_gi_up hgi (show ck_CT[58]? = some _ from rfl) ⟨_, rfl, ck_okl_set hl rfl ⟨0, rfl, by decide, by decide⟩⟩) (show ck_CT[82]? = some _ from rfl) (ck_okJ.mpr ⟨g1, rfl, fun i _ => ?_⟩)
    have b1 := Int64.le_toInt (g1 i)
    have b2 := Int64.toInt_lt (g1 i)
    rw [ck_bd1 rfl i 0]
    show (-9223372036854775808 : Int) ≤ (g1 i).toInt ∧ (g1 i).toInt ≤ 9223372036854775807
    omega
  have hf1 : ∀ Φ, ck_gf Φ E → ck_gf Φ E1 := fun Φ a => by
    rw [hE1]
    exact ck_gf_up (by decide) (ck_gf_up (by decide) a)
  refine ⟨rfl, hg1, fun k hk => kE k (fun q => hk (by rw [q]; decide)) (fun q => hk (by rw [q]; decide)), _, List.mem_of_getElem? (i := 0) rfl, (fun i => if i = 4 then (jr_least x1 x2 x3 x4).toInt else σ i), (fun i hi => by show (if i = 4 then _ else σ i) = σ i; rw [if_neg (show ¬ i = 4 by have : i < 4 := hi; omega)]), fun _ h => absurd h List.not_mem_nil, fun _ h => absurd h List.not_mem_nil, ⟨ck_wb_ok rfl, _, rfl, ?_⟩, (List.forall_mem_cons.mpr ⟨⟨⟨ck_wb_ok rfl, ck_wb_ok rfl⟩, ?_, ?_⟩, (fun _ h => absurd h List.not_mem_nil)⟩), hf1 _ hΦ⟩
  · show (jr_least x1 x2 x3 x4).toInt = 0 + (1 * (jr_least x1 x2 x3 x4).toInt + 0)
    omega
  · show (0 : Int) ≤ 170141183500083312998042844551658340352 + (79228162514264337593543950336 * σ 0 + (18446744073709551616 * σ 1 + (4294967296 * σ 2 + (1 * σ 3 + 0))))
    omega
  · refine (k209 (E := E1) (x1 := x1) (x2 := x2) (x3 := x3) (x4 := x4) ?_).trans ?_
    · show 170141183500083312998042844551658340352 + (79228162514264337593543950336 * σ 0 + (18446744073709551616 * σ 1 + (4294967296 * σ 2 + (1 * σ 3 + 0)))) = 79228162514264337593543950336 * (x1.toInt + 2147483648) + 18446744073709551616 * (x2.toInt + 2147483648) + 4294967296 * (x3.toInt + 2147483648) + (x4.toInt + 2147483648)
      omega
    · show (jr_least x1 x2 x3 x4).toInt = 0 + (1 * (jr_least x1 x2 x3 x4).toInt + 0)
      omega
