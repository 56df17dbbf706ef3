theorem in_X7_bitOf_7 : ∀ w ∈ u_ws RX7 TX7 3, w ∈ wsX7_bitOf := by decide +kernel
theorem in_X7_turnsOf_7 : ∀ w ∈ u_ws RX7 TX7 3, w ∈ wsX7_turnsOf := by decide +kernel
theorem in_X7_addWays_7 : ∀ w ∈ u_ws RX7 TX7 3, w ∈ wsX7_addWays := by decide +kernel
theorem in_X7_fill_7 : ∀ w ∈ u_ws RX7 TX7 3, w ∈ wsX7_fill := by decide +kernel
theorem in_X7_waysOn_7 : ∀ w ∈ u_ws RX7 TX7 3, w ∈ wsX7_waysOn := by decide +kernel
theorem in_X7_waysOf_7 : ∀ w ∈ u_ws RX7 TX7 3, w ∈ wsX7_waysOf := by decide +kernel
theorem in_X7_leastHeight_7 : ∀ w ∈ u_ws RX7 TX7 3, w ∈ wsX7_leastHeight := by decide +kernel
theorem in_X7_heightOfLeast_7 : ∀ w ∈ u_ws RX7 TX7 3, w ∈ wsX7_heightOfLeast := by decide +kernel
theorem q_J6_bitCount_0f7a4 : yJ6_bitCount_0f7a4.cls ≠ "java/lang/invoke/MethodHandle" ∧ yJ6_bitCount_0f7a4.cls ≠ "java/lang/invoke/VarHandle" ∧ (parseMethodDescriptor yJ6_bitCount_0f7a4.desc).map (fun d => d.parameters.length) = some 1 := by decide +kernel
theorem q_X7_bitOf : yX7_bitOf.cls ≠ "java/lang/invoke/MethodHandle" ∧ yX7_bitOf.cls ≠ "java/lang/invoke/VarHandle" ∧ (parseMethodDescriptor yX7_bitOf.desc).map (fun d => d.parameters.length) = some 1 := by decide +kernel
theorem q_X7_turnsOf : yX7_turnsOf.cls ≠ "java/lang/invoke/MethodHandle" ∧ yX7_turnsOf.cls ≠ "java/lang/invoke/VarHandle" ∧ (parseMethodDescriptor yX7_turnsOf.desc).map (fun d => d.parameters.length) = some 1 := by decide +kernel
theorem q_X7_addWays : yX7_addWays.cls ≠ "java/lang/invoke/MethodHandle" ∧ yX7_addWays.cls ≠ "java/lang/invoke/VarHandle" ∧ (parseMethodDescriptor yX7_addWays.desc).map (fun d => d.parameters.length) = some 2 := by decide +kernel
theorem q_X7_fill : yX7_fill.cls ≠ "java/lang/invoke/MethodHandle" ∧ yX7_fill.cls ≠ "java/lang/invoke/VarHandle" ∧ (parseMethodDescriptor yX7_fill.desc).map (fun d => d.parameters.length) = some 2 := by decide +kernel
theorem q_X7_waysOn : yX7_waysOn.cls ≠ "java/lang/invoke/MethodHandle" ∧ yX7_waysOn.cls ≠ "java/lang/invoke/VarHandle" ∧ (parseMethodDescriptor yX7_waysOn.desc).map (fun d => d.parameters.length) = some 2 := by decide +kernel
theorem q_X7_waysOf : yX7_waysOf.cls ≠ "java/lang/invoke/MethodHandle" ∧ yX7_waysOf.cls ≠ "java/lang/invoke/VarHandle" ∧ (parseMethodDescriptor yX7_waysOf.desc).map (fun d => d.parameters.length) = some 3 := by decide +kernel
theorem q_X7_leastHeight : yX7_leastHeight.cls ≠ "java/lang/invoke/MethodHandle" ∧ yX7_leastHeight.cls ≠ "java/lang/invoke/VarHandle" ∧ (parseMethodDescriptor yX7_leastHeight.desc).map (fun d => d.parameters.length) = some 3 := by decide +kernel
theorem q_X7_heightOfLeast : yX7_heightOfLeast.cls ≠ "java/lang/invoke/MethodHandle" ∧ yX7_heightOfLeast.cls ≠ "java/lang/invoke/VarHandle" ∧ (parseMethodDescriptor yX7_heightOfLeast.desc).map (fun d => d.parameters.length) = some 4 := by decide +kernel
def jb_cnt (p1 : Int32) : Int32 := (((((((p1 - (((p1.toUInt32 >>> ((1 : Int32).toUInt32 &&& Int32.toUInt32 31)).toInt32) &&& 1431655765)) &&& 858993459) + ((((p1 - (((p1.toUInt32 >>> ((1 : Int32).toUInt32 &&& Int32.toUInt32 31)).toInt32) &&& 1431655765)).toUInt32 >>> ((2 : Int32).toUInt32 &&& Int32.toUInt32 31)).toInt32) &&& 858993459)) + (((((p1 - (((p1.toUInt32 >>> ((1 : Int32).toUInt32 &&& Int32.toUInt32 31)).toInt32) &&& 1431655765)) &&& 858993459) + ((((p1 - (((p1.toUInt32 >>> ((1 : Int32).toUInt32 &&& Int32.toUInt32 31)).toInt32) &&& 1431655765)).toUInt32 >>> ((2 : Int32).toUInt32 &&& Int32.toUInt32 31)).toInt32) &&& 858993459)).toUInt32 >>> ((4 : Int32).toUInt32 &&& Int32.toUInt32 31)).toInt32)) &&& 252645135) + (((((((p1 - (((p1.toUInt32 >>> ((1 : Int32).toUInt32 &&& Int32.toUInt32 31)).toInt32) &&& 1431655765)) &&& 858993459) + ((((p1 - (((p1.toUInt32 >>> ((1 : Int32).toUInt32 &&& Int32.toUInt32 31)).toInt32) &&& 1431655765)).toUInt32 >>> ((2 : Int32).toUInt32 &&& Int32.toUInt32 31)).toInt32) &&& 858993459)) + (((((p1 - (((p1.toUInt32 >>> ((1 : Int32).toUInt32 &&& Int32.toUInt32 31)).toInt32) &&& 1431655765)) &&& 858993459) + ((((p1 - (((p1.toUInt32 >>> ((1 : Int32).toUInt32 &&& Int32.toUInt32 31)).toInt32) &&& 1431655765)).toUInt32 >>> ((2 : Int32).toUInt32 &&& Int32.toUInt32 31)).toInt32) &&& 858993459)).toUInt32 >>> ((4 : Int32).toUInt32 &&& Int32.toUInt32 31)).toInt32)) &&& 252645135).toUInt32 >>> ((8 : Int32).toUInt32 &&& Int32.toUInt32 31)).toInt32)) + ((((((((p1 - (((p1.toUInt32 >>> ((1 : Int32).toUInt32 &&& Int32.toUInt32 31)).toInt32) &&& 1431655765)) &&& 858993459) + ((((p1 - (((p1.toUInt32 >>> ((1 : Int32).toUInt32 &&& Int32.toUInt32 31)).toInt32) &&& 1431655765)).toUInt32 >>> ((2 : Int32).toUInt32 &&& Int32.toUInt32 31)).toInt32) &&& 858993459)) + (((((p1 - (((p1.toUInt32 >>> ((1 : Int32).toUInt32 &&& Int32.toUInt32 31)).toInt32) &&& 1431655765)) &&& 858993459) + ((((p1 - (((p1.toUInt32 >>> ((1 : Int32).toUInt32 &&& Int32.toUInt32 31)).toInt32) &&& 1431655765)).toUInt32 >>> ((2 : Int32).toUInt32 &&& Int32.toUInt32 31)).toInt32) &&& 858993459)).toUInt32 >>> ((4 : Int32).toUInt32 &&& Int32.toUInt32 31)).toInt32)) &&& 252645135) + (((((((p1 - (((p1.toUInt32 >>> ((1 : Int32).toUInt32 &&& Int32.toUInt32 31)).toInt32) &&& 1431655765)) &&& 858993459) + ((((p1 - (((p1.toUInt32 >>> ((1 : Int32).toUInt32 &&& Int32.toUInt32 31)).toInt32) &&& 1431655765)).toUInt32 >>> ((2 : Int32).toUInt32 &&& Int32.toUInt32 31)).toInt32) &&& 858993459)) + (((((p1 - (((p1.toUInt32 >>> ((1 : Int32).toUInt32 &&& Int32.toUInt32 31)).toInt32) &&& 1431655765)) &&& 858993459) + ((((p1 - (((p1.toUInt32 >>> ((1 : Int32).toUInt32 &&& Int32.toUInt32 31)).toInt32) &&& 1431655765)).toUInt32 >>> ((2 : Int32).toUInt32 &&& Int32.toUInt32 31)).toInt32) &&& 858993459)).toUInt32 >>> ((4 : Int32).toUInt32 &&& Int32.toUInt32 31)).toInt32)) &&& 252645135).toUInt32 >>> ((8 : Int32).toUInt32 &&& Int32.toUInt32 31)).toInt32)).toUInt32 >>> ((16 : Int32).toUInt32 &&& Int32.toUInt32 31)).toInt32)) &&& 63
set_option maxRecDepth 100000 in
set_option maxHeartbeats 4000000 in
theorem c_J6_bitCount_0f7a4 (l : Launch) (D : va_G) (kp : Nat → ClassId) {n : Nat} {E : Nat → jv_E}  (p1 : Int32) : jv_M l D vwCl kp yJ6_bitCount_0f7a4 wsJ6_bitCount_0f7a4 rm1 [] [.int p1] n E 0 0 (fun r n1 E1 => some (.int (jb_cnt p1)) = r ∧ n = n1 ∧ E = E1) := by
  refine jv_of (by decide) rfl (Nat.le_of_ble_eq_true rfl) (fun G C B hI hnl => ?_)
  show jv_V l D vwCl kp G 0 0 n E 0 [(0, .int p1)] []
  refine jv_iload_n C dJ6_bitCount_0f7a4_0 0 rfl ?_
  refine jv_iload_n C dJ6_bitCount_0f7a4_1 0 rfl ?_
  refine jv_iconst (v := 1) C dJ6_bitCount_0f7a4_2 (by decide) ?_
  refine jv_iushr C dJ6_bitCount_0f7a4_3 ?_
  refine jv_ldcw (v := 1431655765) C dJ6_bitCount_0f7a4_4 (by decide +kernel) ?_
  refine jv_iand C dJ6_bitCount_0f7a4_7 ?_
  refine jv_isub C dJ6_bitCount_0f7a4_8 ?_
  refine jv_istore_n (lv2 := [(0, .int (p1 - (((p1.toUInt32 >>> ((1 : Int32).toUInt32 &&& Int32.toUInt32 31)).toInt32) &&& 1431655765)))]) C dJ6_bitCount_0f7a4_9 rfl hnl (by decide) rfl ?_
  refine jv_iload_n C dJ6_bitCount_0f7a4_10 0 rfl ?_
  refine jv_ldcw (v := 858993459) C dJ6_bitCount_0f7a4_11 (by decide +kernel) ?_
  refine jv_iand C dJ6_bitCount_0f7a4_14 ?_
  refine jv_iload_n C dJ6_bitCount_0f7a4_15 0 rfl ?_
  refine jv_iconst (v := 2) C dJ6_bitCount_0f7a4_16 (by decide) ?_
  refine jv_iushr C dJ6_bitCount_0f7a4_17 ?_
  refine jv_ldcw (v := 858993459) C dJ6_bitCount_0f7a4_18 (by decide +kernel) ?_
  refine jv_iand C dJ6_bitCount_0f7a4_21 ?_
  refine jv_iadd C dJ6_bitCount_0f7a4_22 ?_
  refine jv_istore_n (lv2 := [(0, .int (((p1 - (((p1.toUInt32 >>> ((1 : Int32).toUInt32 &&& Int32.toUInt32 31)).toInt32) &&& 1431655765)) &&& 858993459) + ((((p1 - (((p1.toUInt32 >>> ((1 : Int32).toUInt32 &&& Int32.toUInt32 31)).toInt32) &&& 1431655765)).toUInt32 >>> ((2 : Int32).toUInt32 &&& Int32.toUInt32 31)).toInt32) &&& 858993459)))]) C dJ6_bitCount_0f7a4_23 rfl hnl (by decide) rfl ?_
  refine jv_iload_n C dJ6_bitCount_0f7a4_24 0 rfl ?_
  refine jv_iload_n C dJ6_bitCount_0f7a4_25 0 rfl ?_
  refine jv_iconst (v := 4) C dJ6_bitCount_0f7a4_26 (by decide) ?_
  refine jv_iushr C dJ6_bitCount_0f7a4_27 ?_
  refine jv_iadd C dJ6_bitCount_0f7a4_28 ?_
  refine jv_ldcw (v := 252645135) C dJ6_bitCount_0f7a4_29 (by decide +kernel) ?_
  refine jv_iand C dJ6_bitCount_0f7a4_32 ?_
  refine jv_istore_n (lv2 := [(0, .int (((((p1 - (((p1.toUInt32 >>> ((1 : Int32).toUInt32 &&& Int32.toUInt32 31)).toInt32) &&& 1431655765)) &&& 858993459) + ((((p1 - (((p1.toUInt32 >>> ((1 : Int32).toUInt32 &&& Int32.toUInt32 31)).toInt32) &&& 1431655765)).toUInt32 >>> ((2 : Int32).toUInt32 &&& Int32.toUInt32 31)).toInt32) &&& 858993459)) + (((((p1 - (((p1.toUInt32 >>> ((1 : Int32).toUInt32 &&& Int32.toUInt32 31)).toInt32) &&& 1431655765)) &&& 858993459) + ((((p1 - (((p1.toUInt32 >>> ((1 : Int32).toUInt32 &&& Int32.toUInt32 31)).toInt32) &&& 1431655765)).toUInt32 >>> ((2 : Int32).toUInt32 &&& Int32.toUInt32 31)).toInt32) &&& 858993459)).toUInt32 >>> ((4 : Int32).toUInt32 &&& Int32.toUInt32 31)).toInt32)) &&& 252645135))]) C dJ6_bitCount_0f7a4_33 rfl hnl (by decide) rfl ?_
  refine jv_iload_n C dJ6_bitCount_0f7a4_34 0 rfl ?_
  refine jv_iload_n C dJ6_bitCount_0f7a4_35 0 rfl ?_
  refine jv_bipush (v := 8) C dJ6_bitCount_0f7a4_36 (by decide) ?_
  refine jv_iushr C dJ6_bitCount_0f7a4_38 ?_
  refine jv_iadd C dJ6_bitCount_0f7a4_39 ?_
  refine jv_istore_n (lv2 := [(0, .int ((((((p1 - (((p1.toUInt32 >>> ((1 : Int32).toUInt32 &&& Int32.toUInt32 31)).toInt32) &&& 1431655765)) &&& 858993459) + ((((p1 - (((p1.toUInt32 >>> ((1 : Int32).toUInt32 &&& Int32.toUInt32 31)).toInt32) &&& 1431655765)).toUInt32 >>> ((2 : Int32).toUInt32 &&& Int32.toUInt32 31)).toInt32) &&& 858993459)) + (((((p1 - (((p1.toUInt32 >>> ((1 : Int32).toUInt32 &&& Int32.toUInt32 31)).toInt32) &&& 1431655765)) &&& 858993459) + ((((p1 - (((p1.toUInt32 >>> ((1 : Int32).toUInt32 &&& Int32.toUInt32 31)).toInt32) &&& 1431655765)).toUInt32 >>> ((2 : Int32).toUInt32 &&& Int32.toUInt32 31)).toInt32) &&& 858993459)).toUInt32 >>> ((4 : Int32).toUInt32 &&& Int32.toUInt32 31)).toInt32)) &&& 252645135) + (((((((p1 - (((p1.toUInt32 >>> ((1 : Int32).toUInt32 &&& Int32.toUInt32 31)).toInt32) &&& 1431655765)) &&& 858993459) + ((((p1 - (((p1.toUInt32 >>> ((1 : Int32).toUInt32 &&& Int32.toUInt32 31)).toInt32) &&& 1431655765)).toUInt32 >>> ((2 : Int32).toUInt32 &&& Int32.toUInt32 31)).toInt32) &&& 858993459)) + (((((p1 - (((p1.toUInt32 >>> ((1 : Int32).toUInt32 &&& Int32.toUInt32 31)).toInt32) &&& 1431655765)) &&& 858993459) + ((((p1 - (((p1.toUInt32 >>> ((1 : Int32).toUInt32 &&& Int32.toUInt32 31)).toInt32) &&& 1431655765)).toUInt32 >>> ((2 : Int32).toUInt32 &&& Int32.toUInt32 31)).toInt32) &&& 858993459)).toUInt32 >>> ((4 : Int32).toUInt32 &&& Int32.toUInt32 31)).toInt32)) &&& 252645135).toUInt32 >>> ((8 : Int32).toUInt32 &&& Int32.toUInt32 31)).toInt32)))]) C dJ6_bitCount_0f7a4_40 rfl hnl (by decide) rfl ?_
  refine jv_iload_n C dJ6_bitCount_0f7a4_41 0 rfl ?_
  refine jv_iload_n C dJ6_bitCount_0f7a4_42 0 rfl ?_
  refine jv_bipush (v := 16) C dJ6_bitCount_0f7a4_43 (by decide) ?_
  refine jv_iushr C dJ6_bitCount_0f7a4_45 ?_
  refine jv_iadd C dJ6_bitCount_0f7a4_46 ?_
  refine jv_istore_n (lv2 := [(0, .int (((((((p1 - (((p1.toUInt32 >>> ((1 : Int32).toUInt32 &&& Int32.toUInt32 31)).toInt32) &&& 1431655765)) &&& 858993459) + ((((p1 - (((p1.toUInt32 >>> ((1 : Int32).toUInt32 &&& Int32.toUInt32 31)).toInt32) &&& 1431655765)).toUInt32 >>> ((2 : Int32).toUInt32 &&& Int32.toUInt32 31)).toInt32) &&& 858993459)) + (((((p1 - (((p1.toUInt32 >>> ((1 : Int32).toUInt32 &&& Int32.toUInt32 31)).toInt32) &&& 1431655765)) &&& 858993459) + ((((p1 - (((p1.toUInt32 >>> ((1 : Int32).toUInt32 &&& Int32.toUInt32 31)).toInt32) &&& 1431655765)).toUInt32 >>> ((2 : Int32).toUInt32 &&& Int32.toUInt32 31)).toInt32) &&& 858993459)).toUInt32 >>> ((4 : Int32).toUInt32 &&& Int32.toUInt32 31)).toInt32)) &&& 252645135) + (((((((p1 - (((p1.toUInt32 >>> ((1 : Int32).toUInt32 &&& Int32.toUInt32 31)).toInt32) &&& 1431655765)) &&& 858993459) + ((((p1 - (((p1.toUInt32 >>> ((1 : Int32).toUInt32 &&& Int32.toUInt32 31)).toInt32) &&& 1431655765)).toUInt32 >>> ((2 : Int32).toUInt32 &&& Int32.toUInt32 31)).toInt32) &&& 858993459)) + (((((p1 - (((p1.toUInt32 >>> ((1 : Int32).toUInt32 &&& Int32.toUInt32 31)).toInt32) &&& 1431655765)) &&& 858993459) + ((((p1 - (((p1.toUInt32 >>> ((1 : Int32).toUInt32 &&& Int32.toUInt32 31)).toInt32) &&& 1431655765)).toUInt32 >>> ((2 : Int32).toUInt32 &&& Int32.toUInt32 31)).toInt32) &&& 858993459)).toUInt32 >>> ((4 : Int32).toUInt32 &&& Int32.toUInt32 31)).toInt32)) &&& 252645135).toUInt32 >>> ((8 : Int32).toUInt32 &&& Int32.toUInt32 31)).toInt32)) + ((((((((p1 - (((p1.toUInt32 >>> ((1 : Int32).toUInt32 &&& Int32.toUInt32 31)).toInt32) &&& 1431655765)) &&& 858993459) + ((((p1 - (((p1.toUInt32 >>> ((1 : Int32).toUInt32 &&& Int32.toUInt32 31)).toInt32) &&& 1431655765)).toUInt32 >>> ((2 : Int32).toUInt32 &&& Int32.toUInt32 31)).toInt32) &&& 858993459)) + (((((p1 - (((p1.toUInt32 >>> ((1 : Int32).toUInt32 &&& Int32.toUInt32 31)).toInt32) &&& 1431655765)) &&& 858993459) + ((((p1 - (((p1.toUInt32 >>> ((1 : Int32).toUInt32 &&& Int32.toUInt32 31)).toInt32) &&& 1431655765)).toUInt32 >>> ((2 : Int32).toUInt32 &&& Int32.toUInt32 31)).toInt32) &&& 858993459)).toUInt32 >>> ((4 : Int32).toUInt32 &&& Int32.toUInt32 31)).toInt32)) &&& 252645135) + (((((((p1 - (((p1.toUInt32 >>> ((1 : Int32).toUInt32 &&& Int32.toUInt32 31)).toInt32) &&& 1431655765)) &&& 858993459) + ((((p1 - (((p1.toUInt32 >>> ((1 : Int32).toUInt32 &&& Int32.toUInt32 31)).toInt32) &&& 1431655765)).toUInt32 >>> ((2 : Int32).toUInt32 &&& Int32.toUInt32 31)).toInt32) &&& 858993459)) + (((((p1 - (((p1.toUInt32 >>> ((1 : Int32).toUInt32 &&& Int32.toUInt32 31)).toInt32) &&& 1431655765)) &&& 858993459) + ((((p1 - (((p1.toUInt32 >>> ((1 : Int32).toUInt32 &&& Int32.toUInt32 31)).toInt32) &&& 1431655765)).toUInt32 >>> ((2 : Int32).toUInt32 &&& Int32.toUInt32 31)).toInt32) &&& 858993459)).toUInt32 >>> ((4 : Int32).toUInt32 &&& Int32.toUInt32 31)).toInt32)) &&& 252645135).toUInt32 >>> ((8 : Int32).toUInt32 &&& Int32.toUInt32 31)).toInt32)).toUInt32 >>> ((16 : Int32).toUInt32 &&& Int32.toUInt32 31)).toInt32)))]) C dJ6_bitCount_0f7a4_47 rfl hnl (by decide) rfl ?_
  refine jv_iload_n C dJ6_bitCount_0f7a4_48 0 rfl ?_
  refine jv_bipush (v := 63) C dJ6_bitCount_0f7a4_49 (by decide) ?_
  refine jv_iand C dJ6_bitCount_0f7a4_51 ?_
  exact jv_iret C B ⟨rfl, rfl, rfl⟩ ⟨by decide, by decide⟩ dJ6_bitCount_0f7a4_52
def jw_bc (s : Nat) : Nat := jw_sum (fun m => if s.testBit m then 1 else 0) 8
theorem jb_cnt_ok : ∀ s, s < 256 → jb_cnt (nI s) = nI (jw_bc s) := by decide +kernel
theorem jb_sh : ∀ k, k < 9 → (1 : Int32) <<< (nI k &&& 31) = nI (2 ^ k) := by decide +kernel
theorem jb_U : ∀ p, p < 9 → ∀ s, s < 2 ^ p → jw_U p s + jw_bc s = p := by decide +kernel
theorem jb_U0 : ∀ p, p < 9 → ∀ s, s < 2 ^ p - 1 → 0 < jw_U p s := by decide +kernel
theorem jb_Uf : ∀ p, p < 9 → jw_U p (2 ^ p - 1) = 0 := by decide +kernel
theorem jb_p2 : ∀ p, p < 9 → 1 ≤ 2 ^ p ∧ 2 ^ p ≤ 256 := by decide +kernel
theorem jb_or1 : ∀ p, p < 9 → ∀ s, s < 2 ^ p → ∀ m, m < p → (s ||| 2 ^ m) < 2 ^ p := by decide +kernel
theorem jb_or2 : ∀ s, s < 256 → ∀ m, m < 8 → s.testBit m = true → (s ||| 2 ^ m) = s := by decide +kernel
theorem jb_or3 : ∀ s, s < 256 → ∀ m, m < 8 → s.testBit m = false → s < (s ||| 2 ^ m) := by decide +kernel
theorem jb_or (p : Nat) (hp : p < 9) (s : Nat) (hs : s < 2 ^ p) (m : Nat) (hm : m < p) : (s ||| 2 ^ m) < 2 ^ p ∧ (s.testBit m = true → (s ||| 2 ^ m) = s) ∧ (s.testBit m = false → s < (s ||| 2 ^ m)) := by
  have h1 := (jb_p2 p hp).2
  exact ⟨jb_or1 p hp s hs m hm, jb_or2 s (by omega) m (by omega), jb_or3 s (by omega) m (by omega)⟩
theorem jb_m10 (s : Nat) : nI s * 10 = nI (s * 10) := pk_mul s 10
theorem jb_ne0 {p : Nat} (h : 1 ≤ p) (h2 : p < 100) : ¬ nI p = 0 := nI_ne0 (by omega) (by omega)
theorem jb_cl {k : Nat} (h : k < 100000) : (nI k).toNatClampNeg = k := nI_clamp (by omega)
theorem jb_in {k z : Nat} (h : k < z) (hz : z ≤ 100000) : vp_in (nI k) z := vp_in_nI h (by omega)
set_option maxRecDepth 100000 in
set_option maxHeartbeats 8000000 in
theorem c_bitOf (l : Launch) (D : va_G) (kp : Nat → ClassId) {n : Nat} {E : Nat → jv_E} {P d : Nat} {T : Int32} (h29 : E 29 = .inr (7, [.int (nI P), .int T, .ref 30])) (hP : 1 ≤ P) (hP2 : P < 9) (hd : d < 1000) :
    jv_M l D vwCl kp yX7_bitOf wsX7_bitOf rm1 [] [.ref 29, .int (nI d)] n E 0 0 (fun r n1 E1 => some (.int (nI (2 ^ (d % P)))) = r ∧ n = n1 ∧ E = E1) := by
  refine jv_of (by decide) rfl (Nat.le_of_ble_eq_true rfl) (fun G C B hI hnl => ?_)
  show jv_V l D vwCl kp G 0 0 n E 0 [(0, .ref 29), (1, .int (nI d))] []
  refine jv_aload_n C dX7_bitOf_0 0 rfl ?_
  refine jv_getf (fk := 0) C (by decide) h29 rfl in_X7_bitOf_7 (by decide) (by decide +kernel) rfl rfl dX7_bitOf_1 ?_
  refine jv_iconst (v := 1) C dX7_bitOf_4 (by decide) ?_
  refine jv_icmp_ge (tgt := 12) C dX7_bitOf_5 (by decide) (fun _ => ?_) (fun h => absurd (nI_le (a := 1) hP (by omega)) h)
  refine jv_iconst (v := 1) C dX7_bitOf_12 (by decide) ?_
  refine jv_iload_n C dX7_bitOf_13 1 rfl ?_
  refine jv_aload_n C dX7_bitOf_14 0 rfl ?_
  refine jv_getf (fk := 0) C (by decide) h29 rfl in_X7_bitOf_7 (by decide) (by decide +kernel) rfl rfl dX7_bitOf_15 ?_
  refine jv_irem C dX7_bitOf_18 (jb_ne0 hP (by omega)) ?_
  refine jv_ti (pk_rem (by omega) (by omega) (by omega)) ?_
  refine jv_ishl C dX7_bitOf_19 ?_
  refine jv_ti (jb_sh (d % P) (Nat.lt_trans (Nat.mod_lt _ (by omega)) hP2)) ?_
  exact jv_iret C B ⟨rfl, rfl, rfl⟩ ⟨by decide, by decide⟩ dX7_bitOf_20
set_option maxRecDepth 100000 in
set_option maxHeartbeats 8000000 in
theorem c_turnsOf (l : Launch) (D : va_G) (kp : Nat → ClassId) {n : Nat} {E : Nat → jv_E} {P d : Nat} {T : Int32} (h29 : E 29 = .inr (7, [.int (nI P), .int T, .ref 30])) (hP : 1 ≤ P) (hP2 : P < 9) (hd : d < 1000) :
    jv_M l D vwCl kp yX7_turnsOf wsX7_turnsOf rm1 [] [.ref 29, .int (nI d)] n E 0 0 (fun r n1 E1 => some (.int (nI (d / P))) = r ∧ n = n1 ∧ E = E1) := by
  refine jv_of (by decide) rfl (Nat.le_of_ble_eq_true rfl) (fun G C B hI hnl => ?_)
  show jv_V l D vwCl kp G 0 0 n E 0 [(0, .ref 29), (1, .int (nI d))] []
  refine jv_aload_n C dX7_turnsOf_0 0 rfl ?_
  refine jv_getf (fk := 0) C (by decide) h29 rfl in_X7_turnsOf_7 (by decide) (by decide +kernel) rfl rfl dX7_turnsOf_1 ?_
  refine jv_iconst (v := 1) C dX7_turnsOf_4 (by decide) ?_
  refine jv_icmp_ge (tgt := 12) C dX7_turnsOf_5 (by decide) (fun _ => ?_) (fun h => absurd (nI_le (a := 1) hP (by omega)) h)
  refine jv_iload_n C dX7_turnsOf_12 1 rfl ?_
  refine jv_aload_n C dX7_turnsOf_13 0 rfl ?_
  refine jv_getf (fk := 0) C (by decide) h29 rfl in_X7_turnsOf_7 (by decide) (by decide +kernel) rfl rfl dX7_turnsOf_14 ?_
  refine jv_idiv C dX7_turnsOf_17 (jb_ne0 hP (by omega)) ?_
  refine jv_ti (pk_div (by omega) (by omega) (by omega)) ?_
  exact jv_iret C B ⟨rfl, rfl, rfl⟩ ⟨by decide, by decide⟩ dX7_turnsOf_18
/-- what addWays leaves: in the row of s, from its place q on, the row of a is added -/
def jb_add (g : Nat → Int32) (s a q x : Nat) : Nat → Int32 := fun j => if s * 10 + q ≤ j ∧ j < s * 10 + x then g j + g (a * 10 + (j - s * 10 - q)) else g j
theorem jb_add0 (g : Nat → Int32) (s a q : Nat) : jb_add g s a q q = g := by
  funext j
  unfold jb_add
  rw [if_neg (by omega)]
theorem jb_addx {g : Nat → Int32} {s a q : Nat} (h : 10 ≤ q) : jb_add g s a q 10 = g := by
  funext j
  unfold jb_add
  rw [if_neg (by omega)]
theorem jb_nor (a b : Nat) : nI a ||| nI b = nI (a ||| b) := by
  unfold nI
  apply Int32.toBitVec_inj.mp
  rw [Int32.toBitVec_or]
  show BitVec.ofNat 32 a ||| BitVec.ofNat 32 b = BitVec.ofNat 32 (a ||| b)
  apply BitVec.eq_of_getLsbD_eq
  intro i hi
  simp [BitVec.getLsbD_or, BitVec.getLsbD_ofNat, hi]
theorem jb_add_step {g : Nat → Int32} {s a q x : Nat} (hq : q ≤ x) (hx : x < 10) (hsa : s < a) : upd (jb_add g s a q x) (s * 10 + x) (jb_add g s a q x (s * 10 + x) + jb_add g s a q x (a * 10 + x - q)) = jb_add g s a q (x + 1) := by
  funext j
  by_cases hj : j = s * 10 + x
  · subst hj
    rw [pk_us]
    unfold jb_add
    rw [if_neg (by omega), if_neg (by omega), if_pos (by omega)]
    congr 2
    omega
  · rw [pk_un hj]
    unfold jb_add
    by_cases h1 : s * 10 + q ≤ j ∧ j < s * 10 + x
    · rw [if_pos h1, if_pos (by omega)]
    · rw [if_neg h1, if_neg (by omega)]
set_option maxRecDepth 100000 in
set_option maxHeartbeats 8000000 in
theorem lp_add {l : Launch} {D : va_G} {kp : Nat → ClassId} {G : jv_G} {n : Nat} {E0 : Nat → jv_E} {P : Nat} {T : Int32} {s a q d h : Nat} {g : Nat → Int32} {post : Option Value → Nat → (Nat → jv_E) → Prop} (C : jv_C D vwCl kp G cX7_addWays yX7_addWays.cls wsX7_addWays rm2 []) (hnl : jv_nL G = 7)
    (B : jv_R D vwCl kp G E0 none 0 0 post) (hpost : ∀ E1, (∀ j, j ≠ 30 → E1 j = E0 j) → E1 30 = .inl (0, 2560, .inl (jb_add g s a q 10)) → post none n E1)
    (hs : s < 256) (ha : a < 256) (hsa : s < a) (hq : q ≤ 10) :
    ∀ (f x : Nat) (E : Nat → jv_E), x + f = 10 → q ≤ x → E 29 = .inr (7, [.int (nI P), .int T, .ref 30]) → E 30 = .inl (0, 2560, .inl (jb_add g s a q x)) → (∀ j, j ≠ 30 → E j = E0 j) → jv_V l D vwCl kp G 0 0 n E 34 [(6, .int (nI x)), (5, .int (nI q)), (4, .int (nI a)), (3, .int (nI d)), (0, .ref 29), (1, .int (nI s)), (2, .int (nI h))] [] := by
  intro f
  induction f with
  | zero =>
    intro x E h1 h2 h29 h30 hfr
    have hx : x = 10 := by omega
    subst hx
    refine jv_iload C dX7_addWays_34 0 rfl ?_
    refine jv_bipush (v := 10) C dX7_addWays_36 (by decide) ?_
    refine jv_icmp_ge (tgt := 78) C dX7_addWays_38 (by decide) (fun _ => ?_) (fun h => absurd (by decide) h)
    exact jv_vret C B (hpost E hfr h30) ⟨by decide, by decide⟩ dX7_addWays_78
  | succ f ih =>
    intro x E h1 h2 h29 h30 hfr
    refine jv_iload C dX7_addWays_34 0 rfl ?_
    refine jv_bipush (v := 10) C dX7_addWays_36 (by decide) ?_
    refine jv_icmp_ge (tgt := 78) C dX7_addWays_38 (by decide) (fun h => absurd h (nI_ge (b := 10) (a := x) (by omega) (by decide))) (fun _ => ?_)
    refine jv_aload_n C dX7_addWays_41 4 rfl ?_
    refine jv_getf (fk := 2) C (by decide) h29 rfl in_X7_addWays_7 (by decide) (by decide +kernel) rfl rfl dX7_addWays_42 ?_
    refine jv_iload_n C dX7_addWays_45 5 rfl ?_
    refine jv_bipush (v := 10) C dX7_addWays_46 (by decide) ?_
    refine jv_imul C dX7_addWays_48 ?_
    refine jv_ti (jb_m10 s) ?_
    refine jv_iload C dX7_addWays_49 0 rfl ?_
    refine jv_iadd C dX7_addWays_51 ?_
    refine jv_ti (nI_add (s * 10) x) ?_
    refine jv_dup2 C dX7_addWays_52 rfl rfl ?_
    refine jv_iald C (by decide) h30 (jb_in (by omega) (by decide)) dX7_addWays_53 ?_
    refine jv_ti (y := jb_add g s a q x (s * 10 + x)) (by rw [jb_cl (by omega)]) ?_
    refine jv_aload_n C dX7_addWays_54 4 rfl ?_
    refine jv_getf (fk := 2) C (by decide) h29 rfl in_X7_addWays_7 (by decide) (by decide +kernel) rfl rfl dX7_addWays_55 ?_
    refine jv_iload C dX7_addWays_58 2 rfl ?_
    refine jv_bipush (v := 10) C dX7_addWays_60 (by decide) ?_
    refine jv_imul C dX7_addWays_62 ?_
    refine jv_ti (jb_m10 a) ?_
    refine jv_iload C dX7_addWays_63 0 rfl ?_
    refine jv_iadd C dX7_addWays_65 ?_
    refine jv_ti (nI_add (a * 10) x) ?_
    refine jv_iload C dX7_addWays_66 1 rfl ?_
    refine jv_isub C dX7_addWays_68 ?_
    refine jv_ti (pk_sub (a := a * 10 + x) (b := q) (by omega)) ?_
    refine jv_iald C (by decide) h30 (jb_in (by omega) (by decide)) dX7_addWays_69 ?_
    refine jv_ti (y := jb_add g s a q x (a * 10 + x - q)) (by rw [jb_cl (by omega)]) ?_
    refine jv_iadd C dX7_addWays_70 ?_
    refine jv_iast C (by decide) h30 (jb_in (by omega) (by decide)) dX7_addWays_71 ?_
    refine jv_iinc (v := nI (x + 1)) (lv2 := [(6, .int (nI (x + 1))), (5, .int (nI q)), (4, .int (nI a)), (3, .int (nI d)), (0, .ref 29), (1, .int (nI s)), (2, .int (nI h))]) C dX7_addWays_72 hnl 0 rfl (nI_1 x) (by decide) rfl ?_
    refine jv_goto (tgt := 34) C dX7_addWays_75 (by decide) ?_
    refine ih (x + 1) _ (by omega) (by omega) (jv_n (by decide) h29) ?_ (fun j hj => (va_up_ne _ _ hj).trans (hfr j hj))
    rw [va_up_self, jb_cl (by omega), jb_add_step h2 (by omega) hsa]
set_option maxRecDepth 100000 in
set_option maxHeartbeats 8000000 in
/-- addWays(s, h): a throw of the height h from the set s -/
theorem c_addWays (l : Launch) (D : va_G) (kp : Nat → ClassId) {n : Nat} {E : Nat → jv_E} {P s h : Nat} {T : Int32} {g : Nat → Int32} (h29 : E 29 = .inr (7, [.int (nI P), .int T, .ref 30])) (h30 : E 30 = .inl (0, 2560, .inl g)) (hP : 1 ≤ P) (hP2 : P < 9) (hs : s < 2 ^ P) (hh : h < 10) :
    jv_M l D vwCl kp yX7_addWays wsX7_addWays rm2 [] [.ref 29, .int (nI s), .int (nI h)] n E 0 0 (fun r n1 E1 => none = r ∧ n = n1 ∧ (∀ j, j ≠ 30 → E1 j = E j) ∧ E1 30 = .inl (0, 2560, .inl (if s.testBit ((jw_bc s + h) % P) then g else jb_add g s (s ||| 2 ^ ((jw_bc s + h) % P)) ((jw_bc s + h) / P) 10))) := by
  have hp2 := jb_p2 P hP2
  have hU := jb_U P hP2 s hs
  have hm : (jw_bc s + h) % P < P := Nat.mod_lt _ (by omega)
  obtain ⟨o1, o2, o3⟩ := jb_or P hP2 s hs _ hm
  refine jv_of (by decide) rfl (Nat.le_of_ble_eq_true rfl) (fun G C B hI hnl => ?_)
  show jv_V l D vwCl kp G 0 0 n E 0 [(0, .ref 29), (1, .int (nI s)), (2, .int (nI h))] []
  refine jv_iload_n C dX7_addWays_0 1 rfl ?_
  refine jv_callS (na := 1) (As := [.int (nI s)]) (st := []) C (c_J6_bitCount_0f7a4 l D kp (nI s)) gX7_addWays_J6_bitCount_0f7a4 rfl rfl rfl q_J6_bitCount_0f7a4 rfl ⟨by decide, by decide⟩ ⟨by decide, by decide⟩ (fun _ h => absurd h List.not_mem_nil) (Nat.le_of_ble_eq_true rfl) rfl dX7_addWays_1 (fun r n1 E1 hp _ => ?_)
  obtain ⟨rfl, rfl, rfl⟩ := hp
  show jv_V l D vwCl kp G 0 0 n E 4 [(0, .ref 29), (1, .int (nI s)), (2, .int (nI h))] [.int (jb_cnt (nI s))]
  refine jv_ti (jb_cnt_ok s (by omega)) ?_
  refine jv_iload_n C dX7_addWays_4 2 rfl ?_
  refine jv_iadd C dX7_addWays_5 ?_
  refine jv_ti (nI_add (jw_bc s) h) ?_
  refine jv_istore_n (lv2 := [(3, .int (nI (jw_bc s + h))), (0, .ref 29), (1, .int (nI s)), (2, .int (nI h))]) C dX7_addWays_6 rfl hnl (by decide) rfl ?_
  refine jv_iload_n C dX7_addWays_7 2 rfl ?_
  refine jv_aload_n C dX7_addWays_8 1 rfl ?_
  refine jv_iload_n C dX7_addWays_9 0 rfl ?_
  refine jv_callV (na := 1) (As := [.int (nI (jw_bc s + h))]) (st := [.int (nI s)]) C (c_bitOf l D kp h29 hP hP2 (by omega)) gX7_addWays_X7_bitOf rfl (by decide) h29 rfl rfl rfl q_X7_bitOf rfl ⟨by decide, by decide⟩ ⟨by decide, by decide⟩ (fun _ h => absurd h List.not_mem_nil) (Nat.le_of_ble_eq_true rfl) rfl dX7_addWays_10 (fun r n1 E1 hp _ => ?_)
  obtain ⟨rfl, rfl, rfl⟩ := hp
  show jv_V l D vwCl kp G 0 0 n E 13 [(3, .int (nI (jw_bc s + h))), (0, .ref 29), (1, .int (nI s)), (2, .int (nI h))] [.int (nI (2 ^ ((jw_bc s + h) % P))), .int (nI s)]
  refine jv_ior C dX7_addWays_13 ?_
  refine jv_ti (jb_nor s (2 ^ ((jw_bc s + h) % P))) ?_
  refine jv_istore (lv2 := [(4, .int (nI (s ||| 2 ^ ((jw_bc s + h) % P)))), (3, .int (nI (jw_bc s + h))), (0, .ref 29), (1, .int (nI s)), (2, .int (nI h))]) C dX7_addWays_14 hnl (by decide) rfl ?_
  refine jv_iload C dX7_addWays_16 0 rfl ?_
  refine jv_iload_n C dX7_addWays_18 3 rfl ?_
  by_cases tb : s.testBit ((jw_bc s + h) % P) = true
  · have e : nI (s ||| 2 ^ ((jw_bc s + h) % P)) = nI s := by rw [o2 tb]
    refine jv_icmp_ne (tgt := 23) C dX7_addWays_19 (by decide) (fun h => absurd e h) (fun _ => ?_)
    exact jv_vret C B ⟨rfl, rfl, fun _ _ => rfl, by rw [if_pos tb]; exact h30⟩ ⟨by decide, by decide⟩ dX7_addWays_22
  · have tb2 := o3 (by simpa using tb)
    have e : ¬ nI (s ||| 2 ^ ((jw_bc s + h) % P)) = nI s := fun q => by
      have := (nI_eq (by omega) (by omega)).mp q
      omega
    refine jv_icmp_ne (tgt := 23) C dX7_addWays_19 (by decide) (fun _ => ?_) (fun h => absurd h e)
    refine jv_aload_n C dX7_addWays_23 2 rfl ?_
    refine jv_iload_n C dX7_addWays_24 1 rfl ?_
    refine jv_callV (na := 1) (As := [.int (nI (jw_bc s + h))]) (st := []) C (c_turnsOf l D kp h29 hP hP2 (by omega)) gX7_addWays_X7_turnsOf rfl (by decide) h29 rfl rfl rfl q_X7_turnsOf rfl ⟨by decide, by decide⟩ ⟨by decide, by decide⟩ (fun _ h => absurd h List.not_mem_nil) (Nat.le_of_ble_eq_true rfl) rfl dX7_addWays_25 (fun r n1 E1 hp _ => ?_)
    obtain ⟨rfl, rfl, rfl⟩ := hp
    show jv_V l D vwCl kp G 0 0 n E 28 [(4, .int (nI (s ||| 2 ^ ((jw_bc s + h) % P)))), (3, .int (nI (jw_bc s + h))), (0, .ref 29), (1, .int (nI s)), (2, .int (nI h))] [.int (nI ((jw_bc s + h) / P))]
    refine jv_istore (lv2 := [(5, .int (nI ((jw_bc s + h) / P))), (4, .int (nI (s ||| 2 ^ ((jw_bc s + h) % P)))), (3, .int (nI (jw_bc s + h))), (0, .ref 29), (1, .int (nI s)), (2, .int (nI h))]) C dX7_addWays_28 hnl (by decide) rfl ?_
    refine jv_iload C dX7_addWays_30 0 rfl ?_
    refine jv_istore (lv2 := [(6, .int (nI ((jw_bc s + h) / P))), (5, .int (nI ((jw_bc s + h) / P))), (4, .int (nI (s ||| 2 ^ ((jw_bc s + h) % P)))), (3, .int (nI (jw_bc s + h))), (0, .ref 29), (1, .int (nI s)), (2, .int (nI h))]) C dX7_addWays_32 hnl (by decide) rfl ?_
    have hqb : (jw_bc s + h) / P ≤ jw_bc s + h := Nat.div_le_self _ _
    rcases Nat.lt_or_ge 10 ((jw_bc s + h) / P) with hq | hq
    · refine jv_iload C dX7_addWays_34 0 rfl ?_
      refine jv_bipush (v := 10) C dX7_addWays_36 (by decide) ?_
      refine jv_icmp_ge (tgt := 78) C dX7_addWays_38 (by decide) (fun _ => ?_) (fun h => absurd (nI_le (a := 10) (by omega) (by omega)) h)
      exact jv_vret C B ⟨rfl, rfl, fun _ _ => rfl, by rw [if_neg tb, jb_addx (by omega)]; exact h30⟩ ⟨by decide, by decide⟩ dX7_addWays_78
    · exact lp_add C hnl B (fun E1 k1 k2 => ⟨rfl, rfl, k1, by rw [if_neg tb]; exact k2⟩) (by omega) (by omega) tb2 hq (10 - (jw_bc s + h) / P) _ E (by omega) (Nat.le_refl _) h29 (by rw [jb_add0]; exact h30) (fun _ _ => rfl)
