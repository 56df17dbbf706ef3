set_option maxRecDepth 100000 in
set_option maxHeartbeats 4000000 in
theorem c_X9_in (l : Launch) (D : va_G) (kp : Nat → ClassId) {n : Nat} {E : Nat → jv_E}  (p1 : Int64) (p2 : Int64) (p3 : Int64) (vi li hi : Int) (e1 : p1.toInt = vi) (e2 : p2.toInt = li) (e3 : p3.toInt = hi) : jv_M l D vwCl kp yX9_in wsX9_in rm1 [] [.long p1, .long p2, .long p3] n E 0 0 (fun r n1 E1 => ((some (.int 1) = r ∧ li ≤ vi ∧ vi ≤ hi) ∨ (some (.int 0) = r ∧ (vi < li ∨ hi < vi))) ∧ n = n1 ∧ E = E1) := by
  refine jv_of (by decide) rfl (Nat.le_of_ble_eq_true rfl) (fun G C B hI hnl => ?_)
  show jv_V l D vwCl kp G 0 0 n E 0 [(0, .long p1), (2, .long p2), (4, .long p3)] []
  refine jv_lload_n C dX9_in_0 0 rfl ?_
  refine jv_lload_n C dX9_in_1 1 rfl ?_
  refine jv_lcmp C dX9_in_2 ?_
  refine jv_if_lt (tgt := 17) C dX9_in_3 (by decide) (fun c1 => ?_) (fun c1 => ?_)
  · refine jv_iconst (v := 0) C dX9_in_17 (by decide) ?_
    exact jv_zret C B (by decide) ⟨Or.inr ⟨rfl, by subst e1; subst e2; subst e3; have a0 := jv_lc_lt c1; omega⟩, rfl, rfl⟩ ⟨by decide, by decide⟩ dX9_in_18
  · refine jv_lload_n C dX9_in_6 0 rfl ?_
    refine jv_lload C dX9_in_7 2 rfl ?_
    refine jv_lcmp C dX9_in_9 ?_
    refine jv_if_gt (tgt := 17) C dX9_in_10 (by decide) (fun c2 => ?_) (fun c2 => ?_)
    · refine jv_iconst (v := 0) C dX9_in_17 (by decide) ?_
      exact jv_zret C B (by decide) ⟨Or.inr ⟨rfl, by subst e1; subst e2; subst e3; have a0 := jv_lc_nlt c1; have a1 := jv_lc_gt c2; omega⟩, rfl, rfl⟩ ⟨by decide, by decide⟩ dX9_in_18
    · refine jv_iconst (v := 1) C dX9_in_13 (by decide) ?_
      refine jv_goto (tgt := 18) C dX9_in_14 (by decide) ?_
      exact jv_zret C B (by decide) ⟨Or.inl ⟨rfl, by subst e1; subst e2; subst e3; have a0 := jv_lc_nlt c1; have a1 := jv_lc_ngt c2; omega⟩, rfl, rfl⟩ ⟨by decide, by decide⟩ dX9_in_18
theorem q_X9_in : yX9_in.cls ≠ "java/lang/invoke/MethodHandle" ∧ yX9_in.cls ≠ "java/lang/invoke/VarHandle" ∧ (parseMethodDescriptor yX9_in.desc).map (fun d => d.parameters.length) = some 3 := by decide +kernel
set_option maxRecDepth 100000 in
set_option maxHeartbeats 4000000 in
theorem c_X9_isSlot (l : Launch) (D : va_G) (kp : Nat → ClassId) {n : Nat} {E : Nat → jv_E}  (p1 : Int32) : jv_M l D vwCl kp yX9_isSlot wsX9_isSlot rm2 [] [.int p1] n E 0 0 (fun r n1 E1 => ((some (.int 1) = r ∧ 0 ≤ p1.toInt ∧ p1.toInt ≤ 3) ∨ (some (.int 0) = r ∧ (p1.toInt < 0 ∨ 3 < p1.toInt))) ∧ n = n1 ∧ E = E1) := by
  refine jv_of (by decide) rfl (Nat.le_of_ble_eq_true rfl) (fun G C B hI hnl => ?_)
  show jv_V l D vwCl kp G 0 0 n E 0 [(0, .int p1)] []
  refine jv_iload_n C dX9_isSlot_0 0 rfl ?_
  refine jv_i2l C dX9_isSlot_1 ?_
  refine jv_lconst (v := 0) C dX9_isSlot_2 (by decide) ?_
  refine jv_ldc2 (v := 3) C dX9_isSlot_3 (by decide +kernel) ?_
  refine jv_callS (na := 3) (As := [.long p1.toInt64, .long 0, .long 3]) (st := []) C (c_X9_in l D kp p1.toInt64 0 3 p1.toInt 0 3 (jv_t64 p1) (by decide) (by decide)) gX9_isSlot_X9_in rfl rfl rfl q_X9_in rfl ⟨by decide, by decide⟩ ⟨by decide, by decide⟩ (fun _ h => absurd h List.not_mem_nil) (Nat.le_of_ble_eq_true rfl) rfl dX9_isSlot_6 (fun r n1 E_1 hp _ => ?_)
  obtain ⟨⟨rfl, q2⟩ | ⟨rfl, q2⟩, rfl, rfl⟩ := hp
  · show jv_V l D vwCl kp G 0 0 n E 9 [(0, .int p1)] [.int 1]
    exact jv_zret C B (by decide) ⟨Or.inl ⟨rfl, by have a0 := q2; omega⟩, rfl, rfl⟩ ⟨by decide, by decide⟩ dX9_isSlot_9
  · show jv_V l D vwCl kp G 0 0 n E 9 [(0, .int p1)] [.int 0]
    exact jv_zret C B (by decide) ⟨Or.inr ⟨rfl, by have a0 := q2; omega⟩, rfl, rfl⟩ ⟨by decide, by decide⟩ dX9_isSlot_9
theorem in_X9_isRoof_9 : ∀ w ∈ u_ws RX9 TX9 46, w ∈ wsX9_isRoof := by decide +kernel
set_option maxRecDepth 100000 in
set_option maxHeartbeats 4000000 in
theorem c_X9_isRoof (l : Launch) (D : va_G) (kp : Nat → ClassId) {n : Nat} {E : Nat → jv_E} (h58 : E 58 = cx58) (h65 : E 65 = cx65) (p1 : Int32) : jv_M l D vwCl kp yX9_isRoof wsX9_isRoof rm2 [] [.ref 58, .int p1] n E 0 0 (fun r n1 E1 => some (.int 0) = r ∧ n = n1 ∧ E = E1) := by
  refine jv_of (by decide) rfl (Nat.le_of_ble_eq_true rfl) (fun G C B hI hnl => ?_)
  show jv_V l D vwCl kp G 0 0 n E 0 [(0, .ref 58), (1, .int p1)] []
  refine jv_iload_n C dX9_isRoof_0 1 rfl ?_
  refine jv_i2l C dX9_isRoof_1 ?_
  refine jv_lconst (v := 0) C dX9_isRoof_2 (by decide) ?_
  refine jv_aload_n C dX9_isRoof_3 0 rfl ?_
  refine jv_getf (fk := 17) C (by decide) h58 rfl in_X9_isRoof_9 (by decide) (by decide +kernel) rfl rfl dX9_isRoof_4 ?_
  refine jv_iconst (v := 0) C dX9_isRoof_7 (by decide) ?_
  refine jv_iald C (by decide) h65 (jv_vi (by decide)) dX9_isRoof_8 ?_
  refine jv_ti (y := 0) (by decide) ?_
  refine jv_iconst (v := 1) C dX9_isRoof_9 (by decide) ?_
  refine jv_isub C dX9_isRoof_10 ?_
  refine jv_ti (y := (-1)) (by decide) ?_
  refine jv_i2l C dX9_isRoof_11 ?_
  refine jv_tl (y := (-1)) (by decide) ?_
  refine jv_callS (na := 3) (As := [.long p1.toInt64, .long 0, .long (-1)]) (st := []) C (c_X9_in l D kp p1.toInt64 0 (-1) p1.toInt 0 (-1) (jv_t64 p1) (by decide) (by decide)) gX9_isRoof_X9_in rfl rfl rfl q_X9_in rfl ⟨by decide, by decide⟩ ⟨by decide, by decide⟩ (fun _ h => absurd h List.not_mem_nil) (Nat.le_of_ble_eq_true rfl) rfl dX9_isRoof_12 (fun r n1 E_1 hp _ => ?_)
  obtain ⟨hq, rfl, rfl⟩ := hp
  obtain ⟨rfl, q2⟩ := hq.resolve_left (fun h => absurd h.2 (by skip; omega))
  show jv_V l D vwCl kp G 0 0 n E 15 [(0, .ref 58), (1, .int p1)] [.int 0]
  exact jv_zret C B (by decide) ⟨rfl, rfl, rfl⟩ ⟨by decide, by decide⟩ dX9_isRoof_15
theorem in_X9_isCity_9 : ∀ w ∈ u_ws RX9 TX9 46, w ∈ wsX9_isCity := by decide +kernel
set_option maxRecDepth 100000 in
set_option maxHeartbeats 4000000 in
theorem c_X9_isCity (l : Launch) (D : va_G) (kp : Nat → ClassId) {n : Nat} {E : Nat → jv_E} (h58 : E 58 = cx58) (h65 : E 65 = cx65)  : jv_M l D vwCl kp yX9_isCity wsX9_isCity rm1 [] [.ref 58] n E 0 0 (fun r n1 E1 => some (.int 0) = r ∧ n = n1 ∧ E = E1) := by
  refine jv_of (by decide) rfl (Nat.le_of_ble_eq_true rfl) (fun G C B hI hnl => ?_)
  show jv_V l D vwCl kp G 0 0 n E 0 [(0, .ref 58)] []
  refine jv_aload_n C dX9_isCity_0 0 rfl ?_
  refine jv_getf (fk := 17) C (by decide) h58 rfl in_X9_isCity_9 (by decide) (by decide +kernel) rfl rfl dX9_isCity_1 ?_
  refine jv_iconst (v := 0) C dX9_isCity_4 (by decide) ?_
  refine jv_iald C (by decide) h65 (jv_vi (by decide)) dX9_isCity_5 ?_
  refine jv_ti (y := 0) (by decide) ?_
  refine jv_if_le (tgt := 13) C dX9_isCity_6 (by decide) (fun _ => ?_) (fun h => absurd (by decide) h)
  refine jv_iconst (v := 0) C dX9_isCity_13 (by decide) ?_
  exact jv_zret C B (by decide) ⟨rfl, rfl, rfl⟩ ⟨by decide, by decide⟩ dX9_isCity_14
theorem q_X9_isRoof : yX9_isRoof.cls ≠ "java/lang/invoke/MethodHandle" ∧ yX9_isRoof.cls ≠ "java/lang/invoke/VarHandle" ∧ (parseMethodDescriptor yX9_isRoof.desc).map (fun d => d.parameters.length) = some 1 := by decide +kernel
set_option maxRecDepth 100000 in
set_option maxHeartbeats 4000000 in
theorem c_X9_isThrow (l : Launch) (D : va_G) (kp : Nat → ClassId) {n : Nat} {E : Nat → jv_E} (h58 : E 58 = cx58) (h65 : E 65 = cx65) (p1 : Int32) (p2 : Int32) : jv_M l D vwCl kp yX9_isThrow wsX9_isThrow rm3 [] [.ref 58, .int p1, .int p2] n E 0 0 (fun r n1 E1 => some (.int 0) = r ∧ n = n1 ∧ E = E1) := by
  refine jv_of (by decide) rfl (Nat.le_of_ble_eq_true rfl) (fun G C B hI hnl => ?_)
  show jv_V l D vwCl kp G 0 0 n E 0 [(0, .ref 58), (1, .int p1), (2, .int p2)] []
  refine jv_aload_n C dX9_isThrow_0 0 rfl ?_
  refine jv_iload_n C dX9_isThrow_1 1 rfl ?_
  refine jv_callV (na := 1) (As := [.int p1]) (st := []) C (c_X9_isRoof l D kp h58 h65 p1) gX9_isThrow_X9_isRoof rfl (by decide) h58 rfl rfl rfl q_X9_isRoof rfl ⟨by decide, by decide⟩ ⟨by decide, by decide⟩ (fun _ h => absurd h List.not_mem_nil) (Nat.le_of_ble_eq_true rfl) rfl dX9_isThrow_2 (fun r n1 E_1 hp _ => ?_)
  obtain ⟨rfl, rfl, rfl⟩ := hp
  show jv_V l D vwCl kp G 0 0 n E 5 [(0, .ref 58), (1, .int p1), (2, .int p2)] [.int 0]
  refine jv_if_eq (tgt := 30) C dX9_isThrow_5 (by decide) (fun _ => ?_) (fun h => absurd (by decide) h)
  refine jv_iconst (v := 0) C dX9_isThrow_30 (by decide) ?_
  exact jv_zret C B (by decide) ⟨rfl, rfl, rfl⟩ ⟨by decide, by decide⟩ dX9_isThrow_31
set_option maxRecDepth 100000 in
set_option maxHeartbeats 4000000 in
theorem c_X9_isToss (l : Launch) (D : va_G) (kp : Nat → ClassId) {n : Nat} {E : Nat → jv_E} (h58 : E 58 = cx58) (h65 : E 65 = cx65) (p1 : Int32) (p2 : Int32) : jv_M l D vwCl kp yX9_isToss wsX9_isToss rm3 [] [.ref 58, .int p1, .int p2] n E 0 0 (fun r n1 E1 => some (.int 0) = r ∧ n = n1 ∧ E = E1) := by
  refine jv_of (by decide) rfl (Nat.le_of_ble_eq_true rfl) (fun G C B hI hnl => ?_)
  show jv_V l D vwCl kp G 0 0 n E 0 [(0, .ref 58), (1, .int p1), (2, .int p2)] []
  refine jv_aload_n C dX9_isToss_0 0 rfl ?_
  refine jv_iload_n C dX9_isToss_1 1 rfl ?_
  refine jv_callV (na := 1) (As := [.int p1]) (st := []) C (c_X9_isRoof l D kp h58 h65 p1) gX9_isToss_X9_isRoof rfl (by decide) h58 rfl rfl rfl q_X9_isRoof rfl ⟨by decide, by decide⟩ ⟨by decide, by decide⟩ (fun _ h => absurd h List.not_mem_nil) (Nat.le_of_ble_eq_true rfl) rfl dX9_isToss_2 (fun r n1 E_1 hp _ => ?_)
  obtain ⟨rfl, rfl, rfl⟩ := hp
  show jv_V l D vwCl kp G 0 0 n E 5 [(0, .ref 58), (1, .int p1), (2, .int p2)] [.int 0]
  refine jv_if_eq (tgt := 19) C dX9_isToss_5 (by decide) (fun _ => ?_) (fun h => absurd (by decide) h)
  refine jv_iconst (v := 0) C dX9_isToss_19 (by decide) ?_
  exact jv_zret C B (by decide) ⟨rfl, rfl, rfl⟩ ⟨by decide, by decide⟩ dX9_isToss_20
theorem in_X9_isLetter_9 : ∀ w ∈ u_ws RX9 TX9 46, w ∈ wsX9_isLetter := by decide +kernel
set_option maxRecDepth 100000 in
set_option maxHeartbeats 4000000 in
theorem c_X9_isLetter (l : Launch) (D : va_G) (kp : Nat → ClassId) {n : Nat} {E : Nat → jv_E} (h58 : E 58 = cx58) (h70 : E 70 = cx70) (p1 : Int32) : jv_M l D vwCl kp yX9_isLetter wsX9_isLetter rm2 [] [.ref 58, .int p1] n E 0 0 (fun r n1 E1 => some (.int 0) = r ∧ n = n1 ∧ E = E1) := by
  refine jv_of (by decide) rfl (Nat.le_of_ble_eq_true rfl) (fun G C B hI hnl => ?_)
  show jv_V l D vwCl kp G 0 0 n E 0 [(0, .ref 58), (1, .int p1)] []
  refine jv_iload_n C dX9_isLetter_0 1 rfl ?_
  refine jv_i2l C dX9_isLetter_1 ?_
  refine jv_lconst (v := 0) C dX9_isLetter_2 (by decide) ?_
  refine jv_aload_n C dX9_isLetter_3 0 rfl ?_
  refine jv_getf (fk := 22) C (by decide) h58 rfl in_X9_isLetter_9 (by decide) (by decide +kernel) rfl rfl dX9_isLetter_4 ?_
  refine jv_iconst (v := 1) C dX9_isLetter_7 (by decide) ?_
  refine jv_iald C (by decide) h70 (jv_vi (by decide)) dX9_isLetter_8 ?_
  refine jv_ti (y := 0) (by decide) ?_
  refine jv_iconst (v := 1) C dX9_isLetter_9 (by decide) ?_
  refine jv_isub C dX9_isLetter_10 ?_
  refine jv_ti (y := (-1)) (by decide) ?_
  refine jv_i2l C dX9_isLetter_11 ?_
  refine jv_tl (y := (-1)) (by decide) ?_
  refine jv_callS (na := 3) (As := [.long p1.toInt64, .long 0, .long (-1)]) (st := []) C (c_X9_in l D kp p1.toInt64 0 (-1) p1.toInt 0 (-1) (jv_t64 p1) (by decide) (by decide)) gX9_isLetter_X9_in rfl rfl rfl q_X9_in rfl ⟨by decide, by decide⟩ ⟨by decide, by decide⟩ (fun _ h => absurd h List.not_mem_nil) (Nat.le_of_ble_eq_true rfl) rfl dX9_isLetter_12 (fun r n1 E_1 hp _ => ?_)
  obtain ⟨hq, rfl, rfl⟩ := hp
  obtain ⟨rfl, q2⟩ := hq.resolve_left (fun h => absurd h.2 (by skip; omega))
  show jv_V l D vwCl kp G 0 0 n E 15 [(0, .ref 58), (1, .int p1)] [.int 0]
  exact jv_zret C B (by decide) ⟨rfl, rfl, rfl⟩ ⟨by decide, by decide⟩ dX9_isLetter_15
theorem q_X9_isThrow : yX9_isThrow.cls ≠ "java/lang/invoke/MethodHandle" ∧ yX9_isThrow.cls ≠ "java/lang/invoke/VarHandle" ∧ (parseMethodDescriptor yX9_isThrow.desc).map (fun d => d.parameters.length) = some 2 := by decide +kernel
set_option maxRecDepth 100000 in
set_option maxHeartbeats 4000000 in
theorem c_X9_isChange (l : Launch) (D : va_G) (kp : Nat → ClassId) {n : Nat} {E : Nat → jv_E} (h58 : E 58 = cx58) (h65 : E 65 = cx65) (p1 : Int32) (p2 : Int32) (p3 : Int32) (p4 : Int32) : jv_M l D vwCl kp yX9_isChange wsX9_isChange rm4 [] [.ref 58, .int p1, .int p2, .int p3, .int p4] n E 0 0 (fun r n1 E1 => some (.int 0) = r ∧ n = n1 ∧ E = E1) := by
  refine jv_of (by decide) rfl (Nat.le_of_ble_eq_true rfl) (fun G C B hI hnl => ?_)
  show jv_V l D vwCl kp G 0 0 n E 0 [(0, .ref 58), (1, .int p1), (2, .int p2), (3, .int p3), (4, .int p4)] []
  refine jv_aload_n C dX9_isChange_0 0 rfl ?_
  refine jv_iload_n C dX9_isChange_1 1 rfl ?_
  refine jv_iload_n C dX9_isChange_2 2 rfl ?_
  refine jv_callV (na := 2) (As := [.int p1, .int p2]) (st := []) C (c_X9_isThrow l D kp h58 h65 p1 p2) gX9_isChange_X9_isThrow rfl (by decide) h58 rfl rfl rfl q_X9_isThrow rfl ⟨by decide, by decide⟩ ⟨by decide, by decide⟩ (fun _ h => absurd h List.not_mem_nil) (Nat.le_of_ble_eq_true rfl) rfl dX9_isChange_3 (fun r n1 E_1 hp _ => ?_)
  obtain ⟨rfl, rfl, rfl⟩ := hp
  show jv_V l D vwCl kp G 0 0 n E 6 [(0, .ref 58), (1, .int p1), (2, .int p2), (3, .int p3), (4, .int p4)] [.int 0]
  refine jv_if_eq (tgt := 23) C dX9_isChange_6 (by decide) (fun _ => ?_) (fun h => absurd (by decide) h)
  refine jv_iconst (v := 0) C dX9_isChange_23 (by decide) ?_
  exact jv_zret C B (by decide) ⟨rfl, rfl, rfl⟩ ⟨by decide, by decide⟩ dX9_isChange_24
theorem q_X9_isCity : yX9_isCity.cls ≠ "java/lang/invoke/MethodHandle" ∧ yX9_isCity.cls ≠ "java/lang/invoke/VarHandle" ∧ (parseMethodDescriptor yX9_isCity.desc).map (fun d => d.parameters.length) = some 0 := by decide +kernel
set_option maxRecDepth 100000 in
set_option maxHeartbeats 4000000 in
theorem c_X9_isGust (l : Launch) (D : va_G) (kp : Nat → ClassId) {n : Nat} {E : Nat → jv_E} (h58 : E 58 = cx58) (h65 : E 65 = cx65) (p1 : Int32) (p2 : Int32) : jv_M l D vwCl kp yX9_isGust wsX9_isGust rm2 [] [.ref 58, .int p1, .int p2] n E 0 0 (fun r n1 E1 => some (.int 0) = r ∧ n = n1 ∧ E = E1) := by
  refine jv_of (by decide) rfl (Nat.le_of_ble_eq_true rfl) (fun G C B hI hnl => ?_)
  show jv_V l D vwCl kp G 0 0 n E 0 [(0, .ref 58), (1, .int p1), (2, .int p2)] []
  refine jv_aload_n C dX9_isGust_0 0 rfl ?_
  refine jv_callV (na := 0) (As := []) (st := []) C (c_X9_isCity l D kp h58 h65 ) gX9_isGust_X9_isCity rfl (by decide) h58 rfl rfl rfl q_X9_isCity rfl ⟨by decide, by decide⟩ ⟨by decide, by decide⟩ (fun _ h => absurd h List.not_mem_nil) (Nat.le_of_ble_eq_true rfl) rfl dX9_isGust_1 (fun r n1 E_1 hp _ => ?_)
  obtain ⟨rfl, rfl, rfl⟩ := hp
  show jv_V l D vwCl kp G 0 0 n E 4 [(0, .ref 58), (1, .int p1), (2, .int p2)] [.int 0]
  refine jv_if_eq (tgt := 35) C dX9_isGust_4 (by decide) (fun _ => ?_) (fun h => absurd (by decide) h)
  refine jv_iconst (v := 0) C dX9_isGust_35 (by decide) ?_
  exact jv_zret C B (by decide) ⟨rfl, rfl, rfl⟩ ⟨by decide, by decide⟩ dX9_isGust_36
theorem q_X9_isSlot : yX9_isSlot.cls ≠ "java/lang/invoke/MethodHandle" ∧ yX9_isSlot.cls ≠ "java/lang/invoke/VarHandle" ∧ (parseMethodDescriptor yX9_isSlot.desc).map (fun d => d.parameters.length) = some 1 := by decide +kernel
set_option maxRecDepth 100000 in
set_option maxHeartbeats 4000000 in
theorem c_X9_whyNot (l : Launch) (D : va_G) (kp : Nat → ClassId) {n : Nat} {E : Nat → jv_E} (h58 : E 58 = cx58) (h65 : E 65 = cx65) (p1 : Int32) (p2 : Int32) : jv_M l D vwCl kp yX9_whyNot wsX9_whyNot rm3 [] [.ref 58, .int p1, .int p2] n E 0 0 (fun r n1 E1 => some (.int (-2)) = r ∧ n = n1 ∧ E = E1) := by
  refine jv_of (by decide) rfl (Nat.le_of_ble_eq_true rfl) (fun G C B hI hnl => ?_)
  show jv_V l D vwCl kp G 0 0 n E 0 [(0, .ref 58), (1, .int p1), (2, .int p2)] []
  refine jv_iload_n C dX9_whyNot_0 1 rfl ?_
  refine jv_callS (na := 1) (As := [.int p1]) (st := []) C (c_X9_isSlot l D kp  p1) gX9_whyNot_X9_isSlot rfl rfl rfl q_X9_isSlot rfl ⟨by decide, by decide⟩ ⟨by decide, by decide⟩ (fun _ h => absurd h List.not_mem_nil) (Nat.le_of_ble_eq_true rfl) rfl dX9_whyNot_1 (fun r n1 E_1 hp _ => ?_)
  obtain ⟨⟨rfl, q2⟩ | ⟨rfl, q2⟩, rfl, rfl⟩ := hp
  · show jv_V l D vwCl kp G 0 0 n E 4 [(0, .ref 58), (1, .int p1), (2, .int p2)] [.int 1]
    refine jv_if_eq (tgt := 15) C dX9_whyNot_4 (by decide) (fun h => absurd h (by decide)) (fun _ => ?_)
    refine jv_aload_n C dX9_whyNot_7 0 rfl ?_
    refine jv_iload_n C dX9_whyNot_8 2 rfl ?_
    refine jv_callV (na := 1) (As := [.int p2]) (st := []) C (c_X9_isRoof l D kp h58 h65 p2) gX9_whyNot_X9_isRoof rfl (by decide) h58 rfl rfl rfl q_X9_isRoof rfl ⟨by decide, by decide⟩ ⟨by decide, by decide⟩ (fun _ h => absurd h List.not_mem_nil) (Nat.le_of_ble_eq_true rfl) rfl dX9_whyNot_9 (fun r n1 E_3 hp _ => ?_)
    obtain ⟨rfl, rfl, rfl⟩ := hp
    show jv_V l D vwCl kp G 0 0 n E 12 [(0, .ref 58), (1, .int p1), (2, .int p2)] [.int 0]
    refine jv_if_ne (tgt := 18) C dX9_whyNot_12 (by decide) (fun h => absurd h (by decide)) (fun _ => ?_)
    refine jv_bipush (v := (-2)) C dX9_whyNot_15 (by decide) ?_
    exact jv_iret C B ⟨rfl, rfl, rfl⟩ ⟨by decide, by decide⟩ dX9_whyNot_17
  · show jv_V l D vwCl kp G 0 0 n E 4 [(0, .ref 58), (1, .int p1), (2, .int p2)] [.int 0]
    refine jv_if_eq (tgt := 15) C dX9_whyNot_4 (by decide) (fun _ => ?_) (fun h => absurd (by decide) h)
    refine jv_bipush (v := (-2)) C dX9_whyNot_15 (by decide) ?_
    exact jv_iret C B ⟨rfl, rfl, rfl⟩ ⟨by decide, by decide⟩ dX9_whyNot_17
theorem in_X9_tosses_9 : ∀ w ∈ u_ws RX9 TX9 46, w ∈ wsX9_tosses := by decide +kernel
set_option maxRecDepth 100000 in
set_option maxHeartbeats 4000000 in
theorem c_X9_tosses (l : Launch) (D : va_G) (kp : Nat → ClassId) {n : Nat} {E : Nat → jv_E} (h58 : E 58 = cx58) (h65 : E 65 = cx65) (p1 : Int32) (p2 : Int32) (p3 : Int32) : jv_M l D vwCl kp yX9_tosses wsX9_tosses rm3 [] [.ref 58, .int p1, .int p2, .int p3] n E 0 0 (fun r n1 E1 => some (.int (-2)) = r) := by
  refine jv_of (by decide) rfl (Nat.le_of_ble_eq_true rfl) (fun G C B hI hnl => ?_)
  show jv_V l D vwCl kp G 0 0 n E 0 [(0, .ref 58), (1, .int p1), (2, .int p2), (3, .int p3)] []
  refine jv_aload_n C dX9_tosses_0 0 rfl ?_
  refine jv_iconst (v := 0) C dX9_tosses_1 (by decide) ?_
  refine jv_putf (fk := 0) (ty := .int) (fs2 := [.int 0, .ref 59, .ref 60, .ref 61, .ref 62, .ref 63, .int 0, .int 0, .int 0, .int 0, .int 0, .long 0, .int 0, .int 0, .int 0, .int (-1), .ref 64, .ref 65, .ref 66, .ref 67, .ref 68, .ref 69, .ref 70, .ref 71, .ref 72, .ref 73, .int 0, .ref 74, .ref 75, .ref 76, .int 0, .int 0, .ref 77, .ref 78, .ref 79, .int 0, .int 0, .int 0, .ref 80, .ref 81, .ref 82, .long 0, .ref 83, .int 0, .int 0, .int 0]) C (by decide) h58 rfl in_X9_tosses_9 tyX9 tyX9_ok nmX9 (by decide) (by decide +kernel) rfl rfl rfl (fun _ => rfl) (fun _ => rfl) (Nat.le_of_ble_eq_true rfl) dX9_tosses_2 rfl ?_
  refine jv_aload_n C dX9_tosses_5 0 rfl ?_
  refine jv_iload_n C dX9_tosses_6 1 rfl ?_
  refine jv_callV (na := 1) (As := [.int p1]) (st := []) C (c_X9_isRoof l D kp (va_up_self _ _ _) (jv_n (by decide) h65) p1) gX9_tosses_X9_isRoof rfl (by decide) (va_up_self _ _ _) rfl rfl rfl q_X9_isRoof rfl ⟨by decide, by decide⟩ ⟨by decide, by decide⟩ (fun _ h => absurd h List.not_mem_nil) (Nat.le_of_ble_eq_true rfl) rfl dX9_tosses_7 (fun r n1 E_1 hp _ => ?_)
  obtain ⟨rfl, rfl, rfl⟩ := hp
  show jv_V l D vwCl kp G 0 0 n (va_up E 58 (.inr (9, [.int 0, .ref 59, .ref 60, .ref 61, .ref 62, .ref 63, .int 0, .int 0, .int 0, .int 0, .int 0, .long 0, .int 0, .int 0, .int 0, .int (-1), .ref 64, .ref 65, .ref 66, .ref 67, .ref 68, .ref 69, .ref 70, .ref 71, .ref 72, .ref 73, .int 0, .ref 74, .ref 75, .ref 76, .int 0, .int 0, .ref 77, .ref 78, .ref 79, .int 0, .int 0, .int 0, .ref 80, .ref 81, .ref 82, .long 0, .ref 83, .int 0, .int 0, .int 0]))) 10 [(0, .ref 58), (1, .int p1), (2, .int p2), (3, .int p3)] [.int 0]
  refine jv_if_eq (tgt := 32) C dX9_tosses_10 (by decide) (fun _ => ?_) (fun h => absurd (by decide) h)
  refine jv_bipush (v := (-2)) C dX9_tosses_32 (by decide) ?_
  exact jv_iret C B rfl ⟨by decide, by decide⟩ dX9_tosses_34
theorem in_X9_period_9 : ∀ w ∈ u_ws RX9 TX9 46, w ∈ wsX9_period := by decide +kernel
set_option maxRecDepth 100000 in
set_option maxHeartbeats 4000000 in
theorem c_X9_period (l : Launch) (D : va_G) (kp : Nat → ClassId) {n : Nat} {E : Nat → jv_E} (h58 : E 58 = cx58) (h65 : E 65 = cx65) (p1 : Int32) : jv_M l D vwCl kp yX9_period wsX9_period rm3 [] [.ref 58, .int p1] n E 0 0 (fun r n1 E1 => some (.int (-2)) = r) := by
  refine jv_of (by decide) rfl (Nat.le_of_ble_eq_true rfl) (fun G C B hI hnl => ?_)
  show jv_V l D vwCl kp G 0 0 n E 0 [(0, .ref 58), (1, .int p1)] []
  refine jv_aload_n C dX9_period_0 0 rfl ?_
  refine jv_iconst (v := 0) C dX9_period_1 (by decide) ?_
  refine jv_putf (fk := 0) (ty := .int) (fs2 := [.int 0, .ref 59, .ref 60, .ref 61, .ref 62, .ref 63, .int 0, .int 0, .int 0, .int 0, .int 0, .long 0, .int 0, .int 0, .int 0, .int (-1), .ref 64, .ref 65, .ref 66, .ref 67, .ref 68, .ref 69, .ref 70, .ref 71, .ref 72, .ref 73, .int 0, .ref 74, .ref 75, .ref 76, .int 0, .int 0, .ref 77, .ref 78, .ref 79, .int 0, .int 0, .int 0, .ref 80, .ref 81, .ref 82, .long 0, .ref 83, .int 0, .int 0, .int 0]) C (by decide) h58 rfl in_X9_period_9 tyX9 tyX9_ok nmX9 (by decide) (by decide +kernel) rfl rfl rfl (fun _ => rfl) (fun _ => rfl) (Nat.le_of_ble_eq_true rfl) dX9_period_2 rfl ?_
  refine jv_aload_n C dX9_period_5 0 rfl ?_
  refine jv_iload_n C dX9_period_6 1 rfl ?_
  refine jv_callV (na := 1) (As := [.int p1]) (st := []) C (c_X9_isRoof l D kp (va_up_self _ _ _) (jv_n (by decide) h65) p1) gX9_period_X9_isRoof rfl (by decide) (va_up_self _ _ _) rfl rfl rfl q_X9_isRoof rfl ⟨by decide, by decide⟩ ⟨by decide, by decide⟩ (fun _ h => absurd h List.not_mem_nil) (Nat.le_of_ble_eq_true rfl) rfl dX9_period_7 (fun r n1 E_1 hp _ => ?_)
  obtain ⟨rfl, rfl, rfl⟩ := hp
  show jv_V l D vwCl kp G 0 0 n (va_up E 58 (.inr (9, [.int 0, .ref 59, .ref 60, .ref 61, .ref 62, .ref 63, .int 0, .int 0, .int 0, .int 0, .int 0, .long 0, .int 0, .int 0, .int 0, .int (-1), .ref 64, .ref 65, .ref 66, .ref 67, .ref 68, .ref 69, .ref 70, .ref 71, .ref 72, .ref 73, .int 0, .ref 74, .ref 75, .ref 76, .int 0, .int 0, .ref 77, .ref 78, .ref 79, .int 0, .int 0, .int 0, .ref 80, .ref 81, .ref 82, .long 0, .ref 83, .int 0, .int 0, .int 0]))) 10 [(0, .ref 58), (1, .int p1)] [.int 0]
  refine jv_if_eq (tgt := 22) C dX9_period_10 (by decide) (fun _ => ?_) (fun h => absurd (by decide) h)
  refine jv_bipush (v := (-2)) C dX9_period_22 (by decide) ?_
  exact jv_iret C B rfl ⟨by decide, by decide⟩ dX9_period_24
theorem in_X9_turn_9 : ∀ w ∈ u_ws RX9 TX9 46, w ∈ wsX9_turn := by decide +kernel
set_option maxRecDepth 100000 in
set_option maxHeartbeats 4000000 in
theorem c_X9_turn (l : Launch) (D : va_G) (kp : Nat → ClassId) {n : Nat} {E : Nat → jv_E} (h58 : E 58 = cx58) (h65 : E 65 = cx65)  : jv_M l D vwCl kp yX9_turn wsX9_turn rm2 [] [.ref 58] n E 0 0 (fun r n1 E1 => some (.int (-2)) = r) := by
  refine jv_of (by decide) rfl (Nat.le_of_ble_eq_true rfl) (fun G C B hI hnl => ?_)
  show jv_V l D vwCl kp G 0 0 n E 0 [(0, .ref 58)] []
  refine jv_aload_n C dX9_turn_0 0 rfl ?_
  refine jv_iconst (v := 0) C dX9_turn_1 (by decide) ?_
  refine jv_putf (fk := 0) (ty := .int) (fs2 := [.int 0, .ref 59, .ref 60, .ref 61, .ref 62, .ref 63, .int 0, .int 0, .int 0, .int 0, .int 0, .long 0, .int 0, .int 0, .int 0, .int (-1), .ref 64, .ref 65, .ref 66, .ref 67, .ref 68, .ref 69, .ref 70, .ref 71, .ref 72, .ref 73, .int 0, .ref 74, .ref 75, .ref 76, .int 0, .int 0, .ref 77, .ref 78, .ref 79, .int 0, .int 0, .int 0, .ref 80, .ref 81, .ref 82, .long 0, .ref 83, .int 0, .int 0, .int 0]) C (by decide) h58 rfl in_X9_turn_9 tyX9 tyX9_ok nmX9 (by decide) (by decide +kernel) rfl rfl rfl (fun _ => rfl) (fun _ => rfl) (Nat.le_of_ble_eq_true rfl) dX9_turn_2 rfl ?_
  refine jv_aload_n C dX9_turn_5 0 rfl ?_
  refine jv_callV (na := 0) (As := []) (st := []) C (c_X9_isCity l D kp (va_up_self _ _ _) (jv_n (by decide) h65) ) gX9_turn_X9_isCity rfl (by decide) (va_up_self _ _ _) rfl rfl rfl q_X9_isCity rfl ⟨by decide, by decide⟩ ⟨by decide, by decide⟩ (fun _ h => absurd h List.not_mem_nil) (Nat.le_of_ble_eq_true rfl) rfl dX9_turn_6 (fun r n1 E_1 hp _ => ?_)
  obtain ⟨rfl, rfl, rfl⟩ := hp
  show jv_V l D vwCl kp G 0 0 n (va_up E 58 (.inr (9, [.int 0, .ref 59, .ref 60, .ref 61, .ref 62, .ref 63, .int 0, .int 0, .int 0, .int 0, .int 0, .long 0, .int 0, .int 0, .int 0, .int (-1), .ref 64, .ref 65, .ref 66, .ref 67, .ref 68, .ref 69, .ref 70, .ref 71, .ref 72, .ref 73, .int 0, .ref 74, .ref 75, .ref 76, .int 0, .int 0, .ref 77, .ref 78, .ref 79, .int 0, .int 0, .int 0, .ref 80, .ref 81, .ref 82, .long 0, .ref 83, .int 0, .int 0, .int 0]))) 9 [(0, .ref 58)] [.int 0]
  refine jv_if_eq (tgt := 19) C dX9_turn_9 (by decide) (fun _ => ?_) (fun h => absurd (by decide) h)
  refine jv_bipush (v := (-2)) C dX9_turn_19 (by decide) ?_
  exact jv_iret C B rfl ⟨by decide, by decide⟩ dX9_turn_21
theorem in_X9_set_9 : ∀ w ∈ u_ws RX9 TX9 46, w ∈ wsX9_set := by decide +kernel
set_option maxRecDepth 100000 in
set_option maxHeartbeats 4000000 in
theorem c_X9_set (l : Launch) (D : va_G) (kp : Nat → ClassId) {n : Nat} {E : Nat → jv_E} (h58 : E 58 = cx58) (h65 : E 65 = cx65) (p1 : Int32) (p2 : Int32) (p3 : Int32) (p4 : Int32) : jv_M l D vwCl kp yX9_set wsX9_set rm4 [] [.ref 58, .int p1, .int p2, .int p3, .int p4] n E 0 0 (fun r n1 E1 => some (.int (-2)) = r) := by
  refine jv_of (by decide) rfl (Nat.le_of_ble_eq_true rfl) (fun G C B hI hnl => ?_)
  show jv_V l D vwCl kp G 0 0 n E 0 [(0, .ref 58), (1, .int p1), (2, .int p2), (3, .int p3), (4, .int p4)] []
  refine jv_aload_n C dX9_set_0 0 rfl ?_
  refine jv_iconst (v := 0) C dX9_set_1 (by decide) ?_
  refine jv_putf (fk := 0) (ty := .int) (fs2 := [.int 0, .ref 59, .ref 60, .ref 61, .ref 62, .ref 63, .int 0, .int 0, .int 0, .int 0, .int 0, .long 0, .int 0, .int 0, .int 0, .int (-1), .ref 64, .ref 65, .ref 66, .ref 67, .ref 68, .ref 69, .ref 70, .ref 71, .ref 72, .ref 73, .int 0, .ref 74, .ref 75, .ref 76, .int 0, .int 0, .ref 77, .ref 78, .ref 79, .int 0, .int 0, .int 0, .ref 80, .ref 81, .ref 82, .long 0, .ref 83, .int 0, .int 0, .int 0]) C (by decide) h58 rfl in_X9_set_9 tyX9 tyX9_ok nmX9 (by decide) (by decide +kernel) rfl rfl rfl (fun _ => rfl) (fun _ => rfl) (Nat.le_of_ble_eq_true rfl) dX9_set_2 rfl ?_
  refine jv_aload_n C dX9_set_5 0 rfl ?_
  refine jv_iload_n C dX9_set_6 1 rfl ?_
  refine jv_iload_n C dX9_set_7 2 rfl ?_
  refine jv_callV (na := 2) (As := [.int p1, .int p2]) (st := []) C (c_X9_isThrow l D kp (va_up_self _ _ _) (jv_n (by decide) h65) p1 p2) gX9_set_X9_isThrow rfl (by decide) (va_up_self _ _ _) rfl rfl rfl q_X9_isThrow rfl ⟨by decide, by decide⟩ ⟨by decide, by decide⟩ (fun _ h => absurd h List.not_mem_nil) (Nat.le_of_ble_eq_true rfl) rfl dX9_set_8 (fun r n1 E_1 hp _ => ?_)
  obtain ⟨rfl, rfl, rfl⟩ := hp
  show jv_V l D vwCl kp G 0 0 n (va_up E 58 (.inr (9, [.int 0, .ref 59, .ref 60, .ref 61, .ref 62, .ref 63, .int 0, .int 0, .int 0, .int 0, .int 0, .long 0, .int 0, .int 0, .int 0, .int (-1), .ref 64, .ref 65, .ref 66, .ref 67, .ref 68, .ref 69, .ref 70, .ref 71, .ref 72, .ref 73, .int 0, .ref 74, .ref 75, .ref 76, .int 0, .int 0, .ref 77, .ref 78, .ref 79, .int 0, .int 0, .int 0, .ref 80, .ref 81, .ref 82, .long 0, .ref 83, .int 0, .int 0, .int 0]))) 11 [(0, .ref 58), (1, .int p1), (2, .int p2), (3, .int p3), (4, .int p4)] [.int 0]
  refine jv_if_eq (tgt := 45) C dX9_set_11 (by decide) (fun _ => ?_) (fun h => absurd (by decide) h)
  refine jv_bipush (v := (-2)) C dX9_set_45 (by decide) ?_
  exact jv_iret C B rfl ⟨by decide, by decide⟩ dX9_set_47
theorem in_X9_swap_9 : ∀ w ∈ u_ws RX9 TX9 46, w ∈ wsX9_swap := by decide +kernel
set_option maxRecDepth 100000 in
set_option maxHeartbeats 4000000 in
theorem c_X9_swap (l : Launch) (D : va_G) (kp : Nat → ClassId) {n : Nat} {E : Nat → jv_E} (h58 : E 58 = cx58) (h65 : E 65 = cx65) (p1 : Int32) (p2 : Int32) (p3 : Int32) : jv_M l D vwCl kp yX9_swap wsX9_swap rm4 [] [.ref 58, .int p1, .int p2, .int p3] n E 0 0 (fun r n1 E1 => some (.int (-2)) = r) := by
  refine jv_of (by decide) rfl (Nat.le_of_ble_eq_true rfl) (fun G C B hI hnl => ?_)
  show jv_V l D vwCl kp G 0 0 n E 0 [(0, .ref 58), (1, .int p1), (2, .int p2), (3, .int p3)] []
  refine jv_aload_n C dX9_swap_0 0 rfl ?_
  refine jv_iconst (v := 0) C dX9_swap_1 (by decide) ?_
  refine jv_putf (fk := 0) (ty := .int) (fs2 := [.int 0, .ref 59, .ref 60, .ref 61, .ref 62, .ref 63, .int 0, .int 0, .int 0, .int 0, .int 0, .long 0, .int 0, .int 0, .int 0, .int (-1), .ref 64, .ref 65, .ref 66, .ref 67, .ref 68, .ref 69, .ref 70, .ref 71, .ref 72, .ref 73, .int 0, .ref 74, .ref 75, .ref 76, .int 0, .int 0, .ref 77, .ref 78, .ref 79, .int 0, .int 0, .int 0, .ref 80, .ref 81, .ref 82, .long 0, .ref 83, .int 0, .int 0, .int 0]) C (by decide) h58 rfl in_X9_swap_9 tyX9 tyX9_ok nmX9 (by decide) (by decide +kernel) rfl rfl rfl (fun _ => rfl) (fun _ => rfl) (Nat.le_of_ble_eq_true rfl) dX9_swap_2 rfl ?_
  refine jv_aload_n C dX9_swap_5 0 rfl ?_
  refine jv_iload_n C dX9_swap_6 1 rfl ?_
  refine jv_iload_n C dX9_swap_7 2 rfl ?_
  refine jv_callV (na := 2) (As := [.int p1, .int p2]) (st := []) C (c_X9_isThrow l D kp (va_up_self _ _ _) (jv_n (by decide) h65) p1 p2) gX9_swap_X9_isThrow rfl (by decide) (va_up_self _ _ _) rfl rfl rfl q_X9_isThrow rfl ⟨by decide, by decide⟩ ⟨by decide, by decide⟩ (fun _ h => absurd h List.not_mem_nil) (Nat.le_of_ble_eq_true rfl) rfl dX9_swap_8 (fun r n1 E_1 hp _ => ?_)
  obtain ⟨rfl, rfl, rfl⟩ := hp
  show jv_V l D vwCl kp G 0 0 n (va_up E 58 (.inr (9, [.int 0, .ref 59, .ref 60, .ref 61, .ref 62, .ref 63, .int 0, .int 0, .int 0, .int 0, .int 0, .long 0, .int 0, .int 0, .int 0, .int (-1), .ref 64, .ref 65, .ref 66, .ref 67, .ref 68, .ref 69, .ref 70, .ref 71, .ref 72, .ref 73, .int 0, .ref 74, .ref 75, .ref 76, .int 0, .int 0, .ref 77, .ref 78, .ref 79, .int 0, .int 0, .int 0, .ref 80, .ref 81, .ref 82, .long 0, .ref 83, .int 0, .int 0, .int 0]))) 11 [(0, .ref 58), (1, .int p1), (2, .int p2), (3, .int p3)] [.int 0]
  refine jv_if_eq (tgt := 28) C dX9_swap_11 (by decide) (fun _ => ?_) (fun h => absurd (by decide) h)
  refine jv_bipush (v := (-2)) C dX9_swap_28 (by decide) ?_
  exact jv_iret C B rfl ⟨by decide, by decide⟩ dX9_swap_30
theorem in_X9_shift_9 : ∀ w ∈ u_ws RX9 TX9 46, w ∈ wsX9_shift := by decide +kernel
set_option maxRecDepth 100000 in
set_option maxHeartbeats 4000000 in
theorem c_X9_shift (l : Launch) (D : va_G) (kp : Nat → ClassId) {n : Nat} {E : Nat → jv_E} (h58 : E 58 = cx58) (h65 : E 65 = cx65) (p1 : Int32) (p2 : Int32) : jv_M l D vwCl kp yX9_shift wsX9_shift rm4 [] [.ref 58, .int p1, .int p2] n E 0 0 (fun r n1 E1 => some (.int (-2)) = r) := by
  refine jv_of (by decide) rfl (Nat.le_of_ble_eq_true rfl) (fun G C B hI hnl => ?_)
  show jv_V l D vwCl kp G 0 0 n E 0 [(0, .ref 58), (1, .int p1), (2, .int p2)] []
  refine jv_aload_n C dX9_shift_0 0 rfl ?_
  refine jv_iconst (v := 0) C dX9_shift_1 (by decide) ?_
  refine jv_putf (fk := 0) (ty := .int) (fs2 := [.int 0, .ref 59, .ref 60, .ref 61, .ref 62, .ref 63, .int 0, .int 0, .int 0, .int 0, .int 0, .long 0, .int 0, .int 0, .int 0, .int (-1), .ref 64, .ref 65, .ref 66, .ref 67, .ref 68, .ref 69, .ref 70, .ref 71, .ref 72, .ref 73, .int 0, .ref 74, .ref 75, .ref 76, .int 0, .int 0, .ref 77, .ref 78, .ref 79, .int 0, .int 0, .int 0, .ref 80, .ref 81, .ref 82, .long 0, .ref 83, .int 0, .int 0, .int 0]) C (by decide) h58 rfl in_X9_shift_9 tyX9 tyX9_ok nmX9 (by decide) (by decide +kernel) rfl rfl rfl (fun _ => rfl) (fun _ => rfl) (Nat.le_of_ble_eq_true rfl) dX9_shift_2 rfl ?_
  refine jv_aload_n C dX9_shift_5 0 rfl ?_
  refine jv_iload_n C dX9_shift_6 1 rfl ?_
  refine jv_iload_n C dX9_shift_7 2 rfl ?_
  refine jv_callV (na := 2) (As := [.int p1, .int p2]) (st := []) C (c_X9_isThrow l D kp (va_up_self _ _ _) (jv_n (by decide) h65) p1 p2) gX9_shift_X9_isThrow rfl (by decide) (va_up_self _ _ _) rfl rfl rfl q_X9_isThrow rfl ⟨by decide, by decide⟩ ⟨by decide, by decide⟩ (fun _ h => absurd h List.not_mem_nil) (Nat.le_of_ble_eq_true rfl) rfl dX9_shift_8 (fun r n1 E_1 hp _ => ?_)
  obtain ⟨rfl, rfl, rfl⟩ := hp
  show jv_V l D vwCl kp G 0 0 n (va_up E 58 (.inr (9, [.int 0, .ref 59, .ref 60, .ref 61, .ref 62, .ref 63, .int 0, .int 0, .int 0, .int 0, .int 0, .long 0, .int 0, .int 0, .int 0, .int (-1), .ref 64, .ref 65, .ref 66, .ref 67, .ref 68, .ref 69, .ref 70, .ref 71, .ref 72, .ref 73, .int 0, .ref 74, .ref 75, .ref 76, .int 0, .int 0, .ref 77, .ref 78, .ref 79, .int 0, .int 0, .int 0, .ref 80, .ref 81, .ref 82, .long 0, .ref 83, .int 0, .int 0, .int 0]))) 11 [(0, .ref 58), (1, .int p1), (2, .int p2)] [.int 0]
  refine jv_if_ne (tgt := 17) C dX9_shift_11 (by decide) (fun h => absurd h (by decide)) (fun _ => ?_)
  refine jv_bipush (v := (-2)) C dX9_shift_14 (by decide) ?_
  exact jv_iret C B rfl ⟨by decide, by decide⟩ dX9_shift_16
theorem in_X9_keeps_9 : ∀ w ∈ u_ws RX9 TX9 46, w ∈ wsX9_keeps := by decide +kernel
set_option maxRecDepth 100000 in
set_option maxHeartbeats 4000000 in
theorem c_X9_keeps (l : Launch) (D : va_G) (kp : Nat → ClassId) {n : Nat} {E : Nat → jv_E} (h58 : E 58 = cx58) (h65 : E 65 = cx65)  : jv_M l D vwCl kp yX9_keeps wsX9_keeps rm2 [] [.ref 58] n E 0 0 (fun r n1 E1 => some (.int (-2)) = r) := by
  refine jv_of (by decide) rfl (Nat.le_of_ble_eq_true rfl) (fun G C B hI hnl => ?_)
  show jv_V l D vwCl kp G 0 0 n E 0 [(0, .ref 58)] []
  refine jv_aload_n C dX9_keeps_0 0 rfl ?_
  refine jv_iconst (v := 0) C dX9_keeps_1 (by decide) ?_
  refine jv_putf (fk := 0) (ty := .int) (fs2 := [.int 0, .ref 59, .ref 60, .ref 61, .ref 62, .ref 63, .int 0, .int 0, .int 0, .int 0, .int 0, .long 0, .int 0, .int 0, .int 0, .int (-1), .ref 64, .ref 65, .ref 66, .ref 67, .ref 68, .ref 69, .ref 70, .ref 71, .ref 72, .ref 73, .int 0, .ref 74, .ref 75, .ref 76, .int 0, .int 0, .ref 77, .ref 78, .ref 79, .int 0, .int 0, .int 0, .ref 80, .ref 81, .ref 82, .long 0, .ref 83, .int 0, .int 0, .int 0]) C (by decide) h58 rfl in_X9_keeps_9 tyX9 tyX9_ok nmX9 (by decide) (by decide +kernel) rfl rfl rfl (fun _ => rfl) (fun _ => rfl) (Nat.le_of_ble_eq_true rfl) dX9_keeps_2 rfl ?_
  refine jv_aload_n C dX9_keeps_5 0 rfl ?_
  refine jv_callV (na := 0) (As := []) (st := []) C (c_X9_isCity l D kp (va_up_self _ _ _) (jv_n (by decide) h65) ) gX9_keeps_X9_isCity rfl (by decide) (va_up_self _ _ _) rfl rfl rfl q_X9_isCity rfl ⟨by decide, by decide⟩ ⟨by decide, by decide⟩ (fun _ h => absurd h List.not_mem_nil) (Nat.le_of_ble_eq_true rfl) rfl dX9_keeps_6 (fun r n1 E_1 hp _ => ?_)
  obtain ⟨rfl, rfl, rfl⟩ := hp
  show jv_V l D vwCl kp G 0 0 n (va_up E 58 (.inr (9, [.int 0, .ref 59, .ref 60, .ref 61, .ref 62, .ref 63, .int 0, .int 0, .int 0, .int 0, .int 0, .long 0, .int 0, .int 0, .int 0, .int (-1), .ref 64, .ref 65, .ref 66, .ref 67, .ref 68, .ref 69, .ref 70, .ref 71, .ref 72, .ref 73, .int 0, .ref 74, .ref 75, .ref 76, .int 0, .int 0, .ref 77, .ref 78, .ref 79, .int 0, .int 0, .int 0, .ref 80, .ref 81, .ref 82, .long 0, .ref 83, .int 0, .int 0, .int 0]))) 9 [(0, .ref 58)] [.int 0]
  refine jv_if_ne (tgt := 17) C dX9_keeps_9 (by decide) (fun h => absurd h (by decide)) (fun _ => ?_)
  refine jv_bipush (v := (-2)) C dX9_keeps_12 (by decide) ?_
  refine jv_goto (tgt := 29) C dX9_keeps_14 (by decide) ?_
  exact jv_iret C B rfl ⟨by decide, by decide⟩ dX9_keeps_29
theorem in_X9_clash_9 : ∀ w ∈ u_ws RX9 TX9 46, w ∈ wsX9_clash := by decide +kernel
set_option maxRecDepth 100000 in
set_option maxHeartbeats 4000000 in
theorem c_X9_clash (l : Launch) (D : va_G) (kp : Nat → ClassId) {n : Nat} {E : Nat → jv_E} (h58 : E 58 = cx58) (h65 : E 65 = cx65) (p1 : Int32) : jv_M l D vwCl kp yX9_clash wsX9_clash rm2 [] [.ref 58, .int p1] n E 0 0 (fun r n1 E1 => some (.int (-2)) = r) := by
  refine jv_of (by decide) rfl (Nat.le_of_ble_eq_true rfl) (fun G C B hI hnl => ?_)
  show jv_V l D vwCl kp G 0 0 n E 0 [(0, .ref 58), (1, .int p1)] []
  refine jv_aload_n C dX9_clash_0 0 rfl ?_
  refine jv_iconst (v := 0) C dX9_clash_1 (by decide) ?_
  refine jv_putf (fk := 0) (ty := .int) (fs2 := [.int 0, .ref 59, .ref 60, .ref 61, .ref 62, .ref 63, .int 0, .int 0, .int 0, .int 0, .int 0, .long 0, .int 0, .int 0, .int 0, .int (-1), .ref 64, .ref 65, .ref 66, .ref 67, .ref 68, .ref 69, .ref 70, .ref 71, .ref 72, .ref 73, .int 0, .ref 74, .ref 75, .ref 76, .int 0, .int 0, .ref 77, .ref 78, .ref 79, .int 0, .int 0, .int 0, .ref 80, .ref 81, .ref 82, .long 0, .ref 83, .int 0, .int 0, .int 0]) C (by decide) h58 rfl in_X9_clash_9 tyX9 tyX9_ok nmX9 (by decide) (by decide +kernel) rfl rfl rfl (fun _ => rfl) (fun _ => rfl) (Nat.le_of_ble_eq_true rfl) dX9_clash_2 rfl ?_
  refine jv_aload_n C dX9_clash_5 0 rfl ?_
  refine jv_callV (na := 0) (As := []) (st := []) C (c_X9_isCity l D kp (va_up_self _ _ _) (jv_n (by decide) h65) ) gX9_clash_X9_isCity rfl (by decide) (va_up_self _ _ _) rfl rfl rfl q_X9_isCity rfl ⟨by decide, by decide⟩ ⟨by decide, by decide⟩ (fun _ h => absurd h List.not_mem_nil) (Nat.le_of_ble_eq_true rfl) rfl dX9_clash_6 (fun r n1 E_1 hp _ => ?_)
  obtain ⟨rfl, rfl, rfl⟩ := hp
  show jv_V l D vwCl kp G 0 0 n (va_up E 58 (.inr (9, [.int 0, .ref 59, .ref 60, .ref 61, .ref 62, .ref 63, .int 0, .int 0, .int 0, .int 0, .int 0, .long 0, .int 0, .int 0, .int 0, .int (-1), .ref 64, .ref 65, .ref 66, .ref 67, .ref 68, .ref 69, .ref 70, .ref 71, .ref 72, .ref 73, .int 0, .ref 74, .ref 75, .ref 76, .int 0, .int 0, .ref 77, .ref 78, .ref 79, .int 0, .int 0, .int 0, .ref 80, .ref 81, .ref 82, .long 0, .ref 83, .int 0, .int 0, .int 0]))) 9 [(0, .ref 58), (1, .int p1)] [.int 0]
  refine jv_if_eq (tgt := 24) C dX9_clash_9 (by decide) (fun _ => ?_) (fun h => absurd (by decide) h)
  refine jv_bipush (v := (-2)) C dX9_clash_24 (by decide) ?_
  exact jv_iret C B rfl ⟨by decide, by decide⟩ dX9_clash_26
theorem in_X9_balls_9 : ∀ w ∈ u_ws RX9 TX9 46, w ∈ wsX9_balls := by decide +kernel
set_option maxRecDepth 100000 in
set_option maxHeartbeats 4000000 in
theorem c_X9_balls (l : Launch) (D : va_G) (kp : Nat → ClassId) {n : Nat} {E : Nat → jv_E} (h58 : E 58 = cx58) (h65 : E 65 = cx65)  : jv_M l D vwCl kp yX9_balls wsX9_balls rm2 [] [.ref 58] n E 0 0 (fun r n1 E1 => some (.int (-2)) = r) := by
  refine jv_of (by decide) rfl (Nat.le_of_ble_eq_true rfl) (fun G C B hI hnl => ?_)
  show jv_V l D vwCl kp G 0 0 n E 0 [(0, .ref 58)] []
  refine jv_aload_n C dX9_balls_0 0 rfl ?_
  refine jv_iconst (v := 0) C dX9_balls_1 (by decide) ?_
  refine jv_putf (fk := 0) (ty := .int) (fs2 := [.int 0, .ref 59, .ref 60, .ref 61, .ref 62, .ref 63, .int 0, .int 0, .int 0, .int 0, .int 0, .long 0, .int 0, .int 0, .int 0, .int (-1), .ref 64, .ref 65, .ref 66, .ref 67, .ref 68, .ref 69, .ref 70, .ref 71, .ref 72, .ref 73, .int 0, .ref 74, .ref 75, .ref 76, .int 0, .int 0, .ref 77, .ref 78, .ref 79, .int 0, .int 0, .int 0, .ref 80, .ref 81, .ref 82, .long 0, .ref 83, .int 0, .int 0, .int 0]) C (by decide) h58 rfl in_X9_balls_9 tyX9 tyX9_ok nmX9 (by decide) (by decide +kernel) rfl rfl rfl (fun _ => rfl) (fun _ => rfl) (Nat.le_of_ble_eq_true rfl) dX9_balls_2 rfl ?_
  refine jv_aload_n C dX9_balls_5 0 rfl ?_
  refine jv_callV (na := 0) (As := []) (st := []) C (c_X9_isCity l D kp (va_up_self _ _ _) (jv_n (by decide) h65) ) gX9_balls_X9_isCity rfl (by decide) (va_up_self _ _ _) rfl rfl rfl q_X9_isCity rfl ⟨by decide, by decide⟩ ⟨by decide, by decide⟩ (fun _ h => absurd h List.not_mem_nil) (Nat.le_of_ble_eq_true rfl) rfl dX9_balls_6 (fun r n1 E_1 hp _ => ?_)
  obtain ⟨rfl, rfl, rfl⟩ := hp
  show jv_V l D vwCl kp G 0 0 n (va_up E 58 (.inr (9, [.int 0, .ref 59, .ref 60, .ref 61, .ref 62, .ref 63, .int 0, .int 0, .int 0, .int 0, .int 0, .long 0, .int 0, .int 0, .int 0, .int (-1), .ref 64, .ref 65, .ref 66, .ref 67, .ref 68, .ref 69, .ref 70, .ref 71, .ref 72, .ref 73, .int 0, .ref 74, .ref 75, .ref 76, .int 0, .int 0, .ref 77, .ref 78, .ref 79, .int 0, .int 0, .int 0, .ref 80, .ref 81, .ref 82, .long 0, .ref 83, .int 0, .int 0, .int 0]))) 9 [(0, .ref 58)] [.int 0]
  refine jv_if_ne (tgt := 17) C dX9_balls_9 (by decide) (fun h => absurd h (by decide)) (fun _ => ?_)
  refine jv_bipush (v := (-2)) C dX9_balls_12 (by decide) ?_
  refine jv_goto (tgt := 32) C dX9_balls_14 (by decide) ?_
  exact jv_iret C B rfl ⟨by decide, by decide⟩ dX9_balls_32
theorem in_X9_lands_9 : ∀ w ∈ u_ws RX9 TX9 46, w ∈ wsX9_lands := by decide +kernel
set_option maxRecDepth 100000 in
set_option maxHeartbeats 4000000 in
theorem c_X9_lands (l : Launch) (D : va_G) (kp : Nat → ClassId) {n : Nat} {E : Nat → jv_E} (h58 : E 58 = cx58) (h65 : E 65 = cx65) (p1 : Int32) (p2 : Int32) : jv_M l D vwCl kp yX9_lands wsX9_lands rm3 [] [.ref 58, .int p1, .int p2] n E 0 0 (fun r n1 E1 => some (.int (-2)) = r) := by
  refine jv_of (by decide) rfl (Nat.le_of_ble_eq_true rfl) (fun G C B hI hnl => ?_)
  show jv_V l D vwCl kp G 0 0 n E 0 [(0, .ref 58), (1, .int p1), (2, .int p2)] []
  refine jv_aload_n C dX9_lands_0 0 rfl ?_
  refine jv_iconst (v := 0) C dX9_lands_1 (by decide) ?_
  refine jv_putf (fk := 0) (ty := .int) (fs2 := [.int 0, .ref 59, .ref 60, .ref 61, .ref 62, .ref 63, .int 0, .int 0, .int 0, .int 0, .int 0, .long 0, .int 0, .int 0, .int 0, .int (-1), .ref 64, .ref 65, .ref 66, .ref 67, .ref 68, .ref 69, .ref 70, .ref 71, .ref 72, .ref 73, .int 0, .ref 74, .ref 75, .ref 76, .int 0, .int 0, .ref 77, .ref 78, .ref 79, .int 0, .int 0, .int 0, .ref 80, .ref 81, .ref 82, .long 0, .ref 83, .int 0, .int 0, .int 0]) C (by decide) h58 rfl in_X9_lands_9 tyX9 tyX9_ok nmX9 (by decide) (by decide +kernel) rfl rfl rfl (fun _ => rfl) (fun _ => rfl) (Nat.le_of_ble_eq_true rfl) dX9_lands_2 rfl ?_
  refine jv_aload_n C dX9_lands_5 0 rfl ?_
  refine jv_iload_n C dX9_lands_6 1 rfl ?_
  refine jv_callV (na := 1) (As := [.int p1]) (st := []) C (c_X9_isRoof l D kp (va_up_self _ _ _) (jv_n (by decide) h65) p1) gX9_lands_X9_isRoof rfl (by decide) (va_up_self _ _ _) rfl rfl rfl q_X9_isRoof rfl ⟨by decide, by decide⟩ ⟨by decide, by decide⟩ (fun _ h => absurd h List.not_mem_nil) (Nat.le_of_ble_eq_true rfl) rfl dX9_lands_7 (fun r n1 E_1 hp _ => ?_)
  obtain ⟨rfl, rfl, rfl⟩ := hp
  show jv_V l D vwCl kp G 0 0 n (va_up E 58 (.inr (9, [.int 0, .ref 59, .ref 60, .ref 61, .ref 62, .ref 63, .int 0, .int 0, .int 0, .int 0, .int 0, .long 0, .int 0, .int 0, .int 0, .int (-1), .ref 64, .ref 65, .ref 66, .ref 67, .ref 68, .ref 69, .ref 70, .ref 71, .ref 72, .ref 73, .int 0, .ref 74, .ref 75, .ref 76, .int 0, .int 0, .ref 77, .ref 78, .ref 79, .int 0, .int 0, .int 0, .ref 80, .ref 81, .ref 82, .long 0, .ref 83, .int 0, .int 0, .int 0]))) 10 [(0, .ref 58), (1, .int p1), (2, .int p2)] [.int 0]
  refine jv_if_eq (tgt := 20) C dX9_lands_10 (by decide) (fun _ => ?_) (fun h => absurd (by decide) h)
  refine jv_bipush (v := (-2)) C dX9_lands_20 (by decide) ?_
  exact jv_iret C B rfl ⟨by decide, by decide⟩ dX9_lands_22
theorem in_X9_air_9 : ∀ w ∈ u_ws RX9 TX9 46, w ∈ wsX9_air := by decide +kernel
set_option maxRecDepth 100000 in
set_option maxHeartbeats 4000000 in
theorem c_X9_air (l : Launch) (D : va_G) (kp : Nat → ClassId) {n : Nat} {E : Nat → jv_E} (h58 : E 58 = cx58) (h65 : E 65 = cx65) (p1 : Int32) : jv_M l D vwCl kp yX9_air wsX9_air rm2 [] [.ref 58, .int p1] n E 0 0 (fun r n1 E1 => some (.int (-2)) = r) := by
  refine jv_of (by decide) rfl (Nat.le_of_ble_eq_true rfl) (fun G C B hI hnl => ?_)
  show jv_V l D vwCl kp G 0 0 n E 0 [(0, .ref 58), (1, .int p1)] []
  refine jv_aload_n C dX9_air_0 0 rfl ?_
  refine jv_iconst (v := 0) C dX9_air_1 (by decide) ?_
  refine jv_putf (fk := 0) (ty := .int) (fs2 := [.int 0, .ref 59, .ref 60, .ref 61, .ref 62, .ref 63, .int 0, .int 0, .int 0, .int 0, .int 0, .long 0, .int 0, .int 0, .int 0, .int (-1), .ref 64, .ref 65, .ref 66, .ref 67, .ref 68, .ref 69, .ref 70, .ref 71, .ref 72, .ref 73, .int 0, .ref 74, .ref 75, .ref 76, .int 0, .int 0, .ref 77, .ref 78, .ref 79, .int 0, .int 0, .int 0, .ref 80, .ref 81, .ref 82, .long 0, .ref 83, .int 0, .int 0, .int 0]) C (by decide) h58 rfl in_X9_air_9 tyX9 tyX9_ok nmX9 (by decide) (by decide +kernel) rfl rfl rfl (fun _ => rfl) (fun _ => rfl) (Nat.le_of_ble_eq_true rfl) dX9_air_2 rfl ?_
  refine jv_aload_n C dX9_air_5 0 rfl ?_
  refine jv_callV (na := 0) (As := []) (st := []) C (c_X9_isCity l D kp (va_up_self _ _ _) (jv_n (by decide) h65) ) gX9_air_X9_isCity rfl (by decide) (va_up_self _ _ _) rfl rfl rfl q_X9_isCity rfl ⟨by decide, by decide⟩ ⟨by decide, by decide⟩ (fun _ h => absurd h List.not_mem_nil) (Nat.le_of_ble_eq_true rfl) rfl dX9_air_6 (fun r n1 E_1 hp _ => ?_)
  obtain ⟨rfl, rfl, rfl⟩ := hp
  show jv_V l D vwCl kp G 0 0 n (va_up E 58 (.inr (9, [.int 0, .ref 59, .ref 60, .ref 61, .ref 62, .ref 63, .int 0, .int 0, .int 0, .int 0, .int 0, .long 0, .int 0, .int 0, .int 0, .int (-1), .ref 64, .ref 65, .ref 66, .ref 67, .ref 68, .ref 69, .ref 70, .ref 71, .ref 72, .ref 73, .int 0, .ref 74, .ref 75, .ref 76, .int 0, .int 0, .ref 77, .ref 78, .ref 79, .int 0, .int 0, .int 0, .ref 80, .ref 81, .ref 82, .long 0, .ref 83, .int 0, .int 0, .int 0]))) 9 [(0, .ref 58), (1, .int p1)] [.int 0]
  refine jv_if_eq (tgt := 19) C dX9_air_9 (by decide) (fun _ => ?_) (fun h => absurd (by decide) h)
  refine jv_bipush (v := (-2)) C dX9_air_19 (by decide) ?_
  exact jv_iret C B rfl ⟨by decide, by decide⟩ dX9_air_21
theorem q_X9_isToss : yX9_isToss.cls ≠ "java/lang/invoke/MethodHandle" ∧ yX9_isToss.cls ≠ "java/lang/invoke/VarHandle" ∧ (parseMethodDescriptor yX9_isToss.desc).map (fun d => d.parameters.length) = some 2 := by decide +kernel
theorem in_X9_ball_9 : ∀ w ∈ u_ws RX9 TX9 46, w ∈ wsX9_ball := by decide +kernel
set_option maxRecDepth 100000 in
set_option maxHeartbeats 4000000 in
theorem c_X9_ball (l : Launch) (D : va_G) (kp : Nat → ClassId) {n : Nat} {E : Nat → jv_E} (h58 : E 58 = cx58) (h65 : E 65 = cx65) (p1 : Int32) (p2 : Int32) (p3 : Int32) (p4 : Int32) : jv_M l D vwCl kp yX9_ball wsX9_ball rm4 [] [.ref 58, .int p1, .int p2, .int p3, .int p4] n E 0 0 (fun r n1 E1 => some (.int (-2)) = r) := by
  refine jv_of (by decide) rfl (Nat.le_of_ble_eq_true rfl) (fun G C B hI hnl => ?_)
  show jv_V l D vwCl kp G 0 0 n E 0 [(0, .ref 58), (1, .int p1), (2, .int p2), (3, .int p3), (4, .int p4)] []
  refine jv_aload_n C dX9_ball_0 0 rfl ?_
  refine jv_iconst (v := 0) C dX9_ball_1 (by decide) ?_
  refine jv_putf (fk := 0) (ty := .int) (fs2 := [.int 0, .ref 59, .ref 60, .ref 61, .ref 62, .ref 63, .int 0, .int 0, .int 0, .int 0, .int 0, .long 0, .int 0, .int 0, .int 0, .int (-1), .ref 64, .ref 65, .ref 66, .ref 67, .ref 68, .ref 69, .ref 70, .ref 71, .ref 72, .ref 73, .int 0, .ref 74, .ref 75, .ref 76, .int 0, .int 0, .ref 77, .ref 78, .ref 79, .int 0, .int 0, .int 0, .ref 80, .ref 81, .ref 82, .long 0, .ref 83, .int 0, .int 0, .int 0]) C (by decide) h58 rfl in_X9_ball_9 tyX9 tyX9_ok nmX9 (by decide) (by decide +kernel) rfl rfl rfl (fun _ => rfl) (fun _ => rfl) (Nat.le_of_ble_eq_true rfl) dX9_ball_2 rfl ?_
  refine jv_aload_n C dX9_ball_5 0 rfl ?_
  refine jv_iload_n C dX9_ball_6 1 rfl ?_
  refine jv_iload_n C dX9_ball_7 2 rfl ?_
  refine jv_callV (na := 2) (As := [.int p1, .int p2]) (st := []) C (c_X9_isToss l D kp (va_up_self _ _ _) (jv_n (by decide) h65) p1 p2) gX9_ball_X9_isToss rfl (by decide) (va_up_self _ _ _) rfl rfl rfl q_X9_isToss rfl ⟨by decide, by decide⟩ ⟨by decide, by decide⟩ (fun _ h => absurd h List.not_mem_nil) (Nat.le_of_ble_eq_true rfl) rfl dX9_ball_8 (fun r n1 E_1 hp _ => ?_)
  obtain ⟨rfl, rfl, rfl⟩ := hp
  show jv_V l D vwCl kp G 0 0 n (va_up E 58 (.inr (9, [.int 0, .ref 59, .ref 60, .ref 61, .ref 62, .ref 63, .int 0, .int 0, .int 0, .int 0, .int 0, .long 0, .int 0, .int 0, .int 0, .int (-1), .ref 64, .ref 65, .ref 66, .ref 67, .ref 68, .ref 69, .ref 70, .ref 71, .ref 72, .ref 73, .int 0, .ref 74, .ref 75, .ref 76, .int 0, .int 0, .ref 77, .ref 78, .ref 79, .int 0, .int 0, .int 0, .ref 80, .ref 81, .ref 82, .long 0, .ref 83, .int 0, .int 0, .int 0]))) 11 [(0, .ref 58), (1, .int p1), (2, .int p2), (3, .int p3), (4, .int p4)] [.int 0]
  refine jv_if_eq (tgt := 37) C dX9_ball_11 (by decide) (fun _ => ?_) (fun h => absurd (by decide) h)
  refine jv_bipush (v := (-2)) C dX9_ball_37 (by decide) ?_
  exact jv_iret C B rfl ⟨by decide, by decide⟩ dX9_ball_39
theorem in_X9_orbit_9 : ∀ w ∈ u_ws RX9 TX9 46, w ∈ wsX9_orbit := by decide +kernel
set_option maxRecDepth 100000 in
set_option maxHeartbeats 4000000 in
theorem c_X9_orbit (l : Launch) (D : va_G) (kp : Nat → ClassId) {n : Nat} {E : Nat → jv_E} (h58 : E 58 = cx58) (h65 : E 65 = cx65) (p1 : Int32) (p2 : Int32) (p3 : Int32) : jv_M l D vwCl kp yX9_orbit wsX9_orbit rm4 [] [.ref 58, .int p1, .int p2, .int p3] n E 0 0 (fun r n1 E1 => some (.int (-2)) = r) := by
  refine jv_of (by decide) rfl (Nat.le_of_ble_eq_true rfl) (fun G C B hI hnl => ?_)
  show jv_V l D vwCl kp G 0 0 n E 0 [(0, .ref 58), (1, .int p1), (2, .int p2), (3, .int p3)] []
  refine jv_aload_n C dX9_orbit_0 0 rfl ?_
  refine jv_iconst (v := 0) C dX9_orbit_1 (by decide) ?_
  refine jv_putf (fk := 0) (ty := .int) (fs2 := [.int 0, .ref 59, .ref 60, .ref 61, .ref 62, .ref 63, .int 0, .int 0, .int 0, .int 0, .int 0, .long 0, .int 0, .int 0, .int 0, .int (-1), .ref 64, .ref 65, .ref 66, .ref 67, .ref 68, .ref 69, .ref 70, .ref 71, .ref 72, .ref 73, .int 0, .ref 74, .ref 75, .ref 76, .int 0, .int 0, .ref 77, .ref 78, .ref 79, .int 0, .int 0, .int 0, .ref 80, .ref 81, .ref 82, .long 0, .ref 83, .int 0, .int 0, .int 0]) C (by decide) h58 rfl in_X9_orbit_9 tyX9 tyX9_ok nmX9 (by decide) (by decide +kernel) rfl rfl rfl (fun _ => rfl) (fun _ => rfl) (Nat.le_of_ble_eq_true rfl) dX9_orbit_2 rfl ?_
  refine jv_aload_n C dX9_orbit_5 0 rfl ?_
  refine jv_iload_n C dX9_orbit_6 1 rfl ?_
  refine jv_iload_n C dX9_orbit_7 2 rfl ?_
  refine jv_callV (na := 2) (As := [.int p1, .int p2]) (st := []) C (c_X9_isToss l D kp (va_up_self _ _ _) (jv_n (by decide) h65) p1 p2) gX9_orbit_X9_isToss rfl (by decide) (va_up_self _ _ _) rfl rfl rfl q_X9_isToss rfl ⟨by decide, by decide⟩ ⟨by decide, by decide⟩ (fun _ h => absurd h List.not_mem_nil) (Nat.le_of_ble_eq_true rfl) rfl dX9_orbit_8 (fun r n1 E_1 hp _ => ?_)
  obtain ⟨rfl, rfl, rfl⟩ := hp
  show jv_V l D vwCl kp G 0 0 n (va_up E 58 (.inr (9, [.int 0, .ref 59, .ref 60, .ref 61, .ref 62, .ref 63, .int 0, .int 0, .int 0, .int 0, .int 0, .long 0, .int 0, .int 0, .int 0, .int (-1), .ref 64, .ref 65, .ref 66, .ref 67, .ref 68, .ref 69, .ref 70, .ref 71, .ref 72, .ref 73, .int 0, .ref 74, .ref 75, .ref 76, .int 0, .int 0, .ref 77, .ref 78, .ref 79, .int 0, .int 0, .int 0, .ref 80, .ref 81, .ref 82, .long 0, .ref 83, .int 0, .int 0, .int 0]))) 11 [(0, .ref 58), (1, .int p1), (2, .int p2), (3, .int p3)] [.int 0]
  refine jv_if_eq (tgt := 26) C dX9_orbit_11 (by decide) (fun _ => ?_) (fun h => absurd (by decide) h)
  refine jv_bipush (v := (-2)) C dX9_orbit_26 (by decide) ?_
  exact jv_iret C B rfl ⟨by decide, by decide⟩ dX9_orbit_28
theorem in_X9_orbits_9 : ∀ w ∈ u_ws RX9 TX9 46, w ∈ wsX9_orbits := by decide +kernel
set_option maxRecDepth 100000 in
set_option maxHeartbeats 4000000 in
theorem c_X9_orbits (l : Launch) (D : va_G) (kp : Nat → ClassId) {n : Nat} {E : Nat → jv_E} (h58 : E 58 = cx58) (h65 : E 65 = cx65)  : jv_M l D vwCl kp yX9_orbits wsX9_orbits rm2 [] [.ref 58] n E 0 0 (fun r n1 E1 => some (.int (-2)) = r) := by
  refine jv_of (by decide) rfl (Nat.le_of_ble_eq_true rfl) (fun G C B hI hnl => ?_)
  show jv_V l D vwCl kp G 0 0 n E 0 [(0, .ref 58)] []
  refine jv_aload_n C dX9_orbits_0 0 rfl ?_
  refine jv_iconst (v := 0) C dX9_orbits_1 (by decide) ?_
  refine jv_putf (fk := 0) (ty := .int) (fs2 := [.int 0, .ref 59, .ref 60, .ref 61, .ref 62, .ref 63, .int 0, .int 0, .int 0, .int 0, .int 0, .long 0, .int 0, .int 0, .int 0, .int (-1), .ref 64, .ref 65, .ref 66, .ref 67, .ref 68, .ref 69, .ref 70, .ref 71, .ref 72, .ref 73, .int 0, .ref 74, .ref 75, .ref 76, .int 0, .int 0, .ref 77, .ref 78, .ref 79, .int 0, .int 0, .int 0, .ref 80, .ref 81, .ref 82, .long 0, .ref 83, .int 0, .int 0, .int 0]) C (by decide) h58 rfl in_X9_orbits_9 tyX9 tyX9_ok nmX9 (by decide) (by decide +kernel) rfl rfl rfl (fun _ => rfl) (fun _ => rfl) (Nat.le_of_ble_eq_true rfl) dX9_orbits_2 rfl ?_
  refine jv_aload_n C dX9_orbits_5 0 rfl ?_
  refine jv_callV (na := 0) (As := []) (st := []) C (c_X9_isCity l D kp (va_up_self _ _ _) (jv_n (by decide) h65) ) gX9_orbits_X9_isCity rfl (by decide) (va_up_self _ _ _) rfl rfl rfl q_X9_isCity rfl ⟨by decide, by decide⟩ ⟨by decide, by decide⟩ (fun _ h => absurd h List.not_mem_nil) (Nat.le_of_ble_eq_true rfl) rfl dX9_orbits_6 (fun r n1 E_1 hp _ => ?_)
  obtain ⟨rfl, rfl, rfl⟩ := hp
  show jv_V l D vwCl kp G 0 0 n (va_up E 58 (.inr (9, [.int 0, .ref 59, .ref 60, .ref 61, .ref 62, .ref 63, .int 0, .int 0, .int 0, .int 0, .int 0, .long 0, .int 0, .int 0, .int 0, .int (-1), .ref 64, .ref 65, .ref 66, .ref 67, .ref 68, .ref 69, .ref 70, .ref 71, .ref 72, .ref 73, .int 0, .ref 74, .ref 75, .ref 76, .int 0, .int 0, .ref 77, .ref 78, .ref 79, .int 0, .int 0, .int 0, .ref 80, .ref 81, .ref 82, .long 0, .ref 83, .int 0, .int 0, .int 0]))) 9 [(0, .ref 58)] [.int 0]
  refine jv_if_ne (tgt := 15) C dX9_orbits_9 (by decide) (fun h => absurd h (by decide)) (fun _ => ?_)
  refine jv_bipush (v := (-2)) C dX9_orbits_12 (by decide) ?_
  exact jv_iret C B rfl ⟨by decide, by decide⟩ dX9_orbits_14
theorem in_X9_same_9 : ∀ w ∈ u_ws RX9 TX9 46, w ∈ wsX9_same := by decide +kernel
set_option maxRecDepth 100000 in
set_option maxHeartbeats 4000000 in
theorem c_X9_same (l : Launch) (D : va_G) (kp : Nat → ClassId) {n : Nat} {E : Nat → jv_E} (h58 : E 58 = cx58) (h65 : E 65 = cx65) (p1 : Int32) (p2 : Int32) (p3 : Int32) (p4 : Int32) : jv_M l D vwCl kp yX9_same wsX9_same rm4 [] [.ref 58, .int p1, .int p2, .int p3, .int p4] n E 0 0 (fun r n1 E1 => some (.int (-2)) = r) := by
  refine jv_of (by decide) rfl (Nat.le_of_ble_eq_true rfl) (fun G C B hI hnl => ?_)
  show jv_V l D vwCl kp G 0 0 n E 0 [(0, .ref 58), (1, .int p1), (2, .int p2), (3, .int p3), (4, .int p4)] []
  refine jv_aload_n C dX9_same_0 0 rfl ?_
  refine jv_iconst (v := 0) C dX9_same_1 (by decide) ?_
  refine jv_putf (fk := 0) (ty := .int) (fs2 := [.int 0, .ref 59, .ref 60, .ref 61, .ref 62, .ref 63, .int 0, .int 0, .int 0, .int 0, .int 0, .long 0, .int 0, .int 0, .int 0, .int (-1), .ref 64, .ref 65, .ref 66, .ref 67, .ref 68, .ref 69, .ref 70, .ref 71, .ref 72, .ref 73, .int 0, .ref 74, .ref 75, .ref 76, .int 0, .int 0, .ref 77, .ref 78, .ref 79, .int 0, .int 0, .int 0, .ref 80, .ref 81, .ref 82, .long 0, .ref 83, .int 0, .int 0, .int 0]) C (by decide) h58 rfl in_X9_same_9 tyX9 tyX9_ok nmX9 (by decide) (by decide +kernel) rfl rfl rfl (fun _ => rfl) (fun _ => rfl) (Nat.le_of_ble_eq_true rfl) dX9_same_2 rfl ?_
  refine jv_aload_n C dX9_same_5 0 rfl ?_
  refine jv_iload_n C dX9_same_6 1 rfl ?_
  refine jv_iload_n C dX9_same_7 2 rfl ?_
  refine jv_callV (na := 2) (As := [.int p1, .int p2]) (st := []) C (c_X9_isToss l D kp (va_up_self _ _ _) (jv_n (by decide) h65) p1 p2) gX9_same_X9_isToss rfl (by decide) (va_up_self _ _ _) rfl rfl rfl q_X9_isToss rfl ⟨by decide, by decide⟩ ⟨by decide, by decide⟩ (fun _ h => absurd h List.not_mem_nil) (Nat.le_of_ble_eq_true rfl) rfl dX9_same_8 (fun r n1 E_1 hp _ => ?_)
  obtain ⟨rfl, rfl, rfl⟩ := hp
  show jv_V l D vwCl kp G 0 0 n (va_up E 58 (.inr (9, [.int 0, .ref 59, .ref 60, .ref 61, .ref 62, .ref 63, .int 0, .int 0, .int 0, .int 0, .int 0, .long 0, .int 0, .int 0, .int 0, .int (-1), .ref 64, .ref 65, .ref 66, .ref 67, .ref 68, .ref 69, .ref 70, .ref 71, .ref 72, .ref 73, .int 0, .ref 74, .ref 75, .ref 76, .int 0, .int 0, .ref 77, .ref 78, .ref 79, .int 0, .int 0, .int 0, .ref 80, .ref 81, .ref 82, .long 0, .ref 83, .int 0, .int 0, .int 0]))) 11 [(0, .ref 58), (1, .int p1), (2, .int p2), (3, .int p3), (4, .int p4)] [.int 0]
  refine jv_if_eq (tgt := 24) C dX9_same_11 (by decide) (fun _ => ?_) (fun h => absurd (by decide) h)
  refine jv_bipush (v := (-2)) C dX9_same_24 (by decide) ?_
  exact jv_iret C B rfl ⟨by decide, by decide⟩ dX9_same_26
theorem in_X9_crossings_9 : ∀ w ∈ u_ws RX9 TX9 46, w ∈ wsX9_crossings := by decide +kernel
set_option maxRecDepth 100000 in
set_option maxHeartbeats 4000000 in
theorem c_X9_crossings (l : Launch) (D : va_G) (kp : Nat → ClassId) {n : Nat} {E : Nat → jv_E} (h58 : E 58 = cx58) (h65 : E 65 = cx65) (p1 : Int32) : jv_M l D vwCl kp yX9_crossings wsX9_crossings rm2 [] [.ref 58, .int p1] n E 0 0 (fun r n1 E1 => some (.int (-2)) = r) := by
  refine jv_of (by decide) rfl (Nat.le_of_ble_eq_true rfl) (fun G C B hI hnl => ?_)
  show jv_V l D vwCl kp G 0 0 n E 0 [(0, .ref 58), (1, .int p1)] []
  refine jv_aload_n C dX9_crossings_0 0 rfl ?_
  refine jv_iconst (v := 0) C dX9_crossings_1 (by decide) ?_
  refine jv_putf (fk := 0) (ty := .int) (fs2 := [.int 0, .ref 59, .ref 60, .ref 61, .ref 62, .ref 63, .int 0, .int 0, .int 0, .int 0, .int 0, .long 0, .int 0, .int 0, .int 0, .int (-1), .ref 64, .ref 65, .ref 66, .ref 67, .ref 68, .ref 69, .ref 70, .ref 71, .ref 72, .ref 73, .int 0, .ref 74, .ref 75, .ref 76, .int 0, .int 0, .ref 77, .ref 78, .ref 79, .int 0, .int 0, .int 0, .ref 80, .ref 81, .ref 82, .long 0, .ref 83, .int 0, .int 0, .int 0]) C (by decide) h58 rfl in_X9_crossings_9 tyX9 tyX9_ok nmX9 (by decide) (by decide +kernel) rfl rfl rfl (fun _ => rfl) (fun _ => rfl) (Nat.le_of_ble_eq_true rfl) dX9_crossings_2 rfl ?_
  refine jv_aload_n C dX9_crossings_5 0 rfl ?_
  refine jv_callV (na := 0) (As := []) (st := []) C (c_X9_isCity l D kp (va_up_self _ _ _) (jv_n (by decide) h65) ) gX9_crossings_X9_isCity rfl (by decide) (va_up_self _ _ _) rfl rfl rfl q_X9_isCity rfl ⟨by decide, by decide⟩ ⟨by decide, by decide⟩ (fun _ h => absurd h List.not_mem_nil) (Nat.le_of_ble_eq_true rfl) rfl dX9_crossings_6 (fun r n1 E_1 hp _ => ?_)
  obtain ⟨rfl, rfl, rfl⟩ := hp
  show jv_V l D vwCl kp G 0 0 n (va_up E 58 (.inr (9, [.int 0, .ref 59, .ref 60, .ref 61, .ref 62, .ref 63, .int 0, .int 0, .int 0, .int 0, .int 0, .long 0, .int 0, .int 0, .int 0, .int (-1), .ref 64, .ref 65, .ref 66, .ref 67, .ref 68, .ref 69, .ref 70, .ref 71, .ref 72, .ref 73, .int 0, .ref 74, .ref 75, .ref 76, .int 0, .int 0, .ref 77, .ref 78, .ref 79, .int 0, .int 0, .int 0, .ref 80, .ref 81, .ref 82, .long 0, .ref 83, .int 0, .int 0, .int 0]))) 9 [(0, .ref 58), (1, .int p1)] [.int 0]
  refine jv_if_eq (tgt := 24) C dX9_crossings_9 (by decide) (fun _ => ?_) (fun h => absurd (by decide) h)
  refine jv_bipush (v := (-2)) C dX9_crossings_24 (by decide) ?_
  exact jv_iret C B rfl ⟨by decide, by decide⟩ dX9_crossings_26
theorem in_X9_suits_9 : ∀ w ∈ u_ws RX9 TX9 46, w ∈ wsX9_suits := by decide +kernel
set_option maxRecDepth 100000 in
set_option maxHeartbeats 4000000 in
theorem c_X9_suits (l : Launch) (D : va_G) (kp : Nat → ClassId) {n : Nat} {E : Nat → jv_E} (h58 : E 58 = cx58) (h65 : E 65 = cx65) (p1 : Int32) : jv_M l D vwCl kp yX9_suits wsX9_suits rm3 [] [.ref 58, .int p1] n E 0 0 (fun r n1 E1 => some (.int (-2)) = r) := by
  refine jv_of (by decide) rfl (Nat.le_of_ble_eq_true rfl) (fun G C B hI hnl => ?_)
  show jv_V l D vwCl kp G 0 0 n E 0 [(0, .ref 58), (1, .int p1)] []
  refine jv_aload_n C dX9_suits_0 0 rfl ?_
  refine jv_iconst (v := 0) C dX9_suits_1 (by decide) ?_
  refine jv_putf (fk := 0) (ty := .int) (fs2 := [.int 0, .ref 59, .ref 60, .ref 61, .ref 62, .ref 63, .int 0, .int 0, .int 0, .int 0, .int 0, .long 0, .int 0, .int 0, .int 0, .int (-1), .ref 64, .ref 65, .ref 66, .ref 67, .ref 68, .ref 69, .ref 70, .ref 71, .ref 72, .ref 73, .int 0, .ref 74, .ref 75, .ref 76, .int 0, .int 0, .ref 77, .ref 78, .ref 79, .int 0, .int 0, .int 0, .ref 80, .ref 81, .ref 82, .long 0, .ref 83, .int 0, .int 0, .int 0]) C (by decide) h58 rfl in_X9_suits_9 tyX9 tyX9_ok nmX9 (by decide) (by decide +kernel) rfl rfl rfl (fun _ => rfl) (fun _ => rfl) (Nat.le_of_ble_eq_true rfl) dX9_suits_2 rfl ?_
  refine jv_aload_n C dX9_suits_5 0 rfl ?_
  refine jv_iload_n C dX9_suits_6 1 rfl ?_
  refine jv_callV (na := 1) (As := [.int p1]) (st := []) C (c_X9_isRoof l D kp (va_up_self _ _ _) (jv_n (by decide) h65) p1) gX9_suits_X9_isRoof rfl (by decide) (va_up_self _ _ _) rfl rfl rfl q_X9_isRoof rfl ⟨by decide, by decide⟩ ⟨by decide, by decide⟩ (fun _ h => absurd h List.not_mem_nil) (Nat.le_of_ble_eq_true rfl) rfl dX9_suits_7 (fun r n1 E_1 hp _ => ?_)
  obtain ⟨rfl, rfl, rfl⟩ := hp
  show jv_V l D vwCl kp G 0 0 n (va_up E 58 (.inr (9, [.int 0, .ref 59, .ref 60, .ref 61, .ref 62, .ref 63, .int 0, .int 0, .int 0, .int 0, .int 0, .long 0, .int 0, .int 0, .int 0, .int (-1), .ref 64, .ref 65, .ref 66, .ref 67, .ref 68, .ref 69, .ref 70, .ref 71, .ref 72, .ref 73, .int 0, .ref 74, .ref 75, .ref 76, .int 0, .int 0, .ref 77, .ref 78, .ref 79, .int 0, .int 0, .int 0, .ref 80, .ref 81, .ref 82, .long 0, .ref 83, .int 0, .int 0, .int 0]))) 10 [(0, .ref 58), (1, .int p1)] [.int 0]
  refine jv_if_ne (tgt := 18) C dX9_suits_10 (by decide) (fun h => absurd h (by decide)) (fun _ => ?_)
  refine jv_bipush (v := (-2)) C dX9_suits_13 (by decide) ?_
  refine jv_goto (tgt := 32) C dX9_suits_15 (by decide) ?_
  exact jv_iret C B rfl ⟨by decide, by decide⟩ dX9_suits_32
theorem in_X9_unsuited_9 : ∀ w ∈ u_ws RX9 TX9 46, w ∈ wsX9_unsuited := by decide +kernel
set_option maxRecDepth 100000 in
set_option maxHeartbeats 4000000 in
theorem c_X9_unsuited (l : Launch) (D : va_G) (kp : Nat → ClassId) {n : Nat} {E : Nat → jv_E} (h58 : E 58 = cx58) (h65 : E 65 = cx65) (p1 : Int32) : jv_M l D vwCl kp yX9_unsuited wsX9_unsuited rm3 [] [.ref 58, .int p1] n E 0 0 (fun r n1 E1 => some (.int (-2)) = r) := by
  refine jv_of (by decide) rfl (Nat.le_of_ble_eq_true rfl) (fun G C B hI hnl => ?_)
  show jv_V l D vwCl kp G 0 0 n E 0 [(0, .ref 58), (1, .int p1)] []
  refine jv_aload_n C dX9_unsuited_0 0 rfl ?_
  refine jv_iconst (v := 0) C dX9_unsuited_1 (by decide) ?_
  refine jv_putf (fk := 0) (ty := .int) (fs2 := [.int 0, .ref 59, .ref 60, .ref 61, .ref 62, .ref 63, .int 0, .int 0, .int 0, .int 0, .int 0, .long 0, .int 0, .int 0, .int 0, .int (-1), .ref 64, .ref 65, .ref 66, .ref 67, .ref 68, .ref 69, .ref 70, .ref 71, .ref 72, .ref 73, .int 0, .ref 74, .ref 75, .ref 76, .int 0, .int 0, .ref 77, .ref 78, .ref 79, .int 0, .int 0, .int 0, .ref 80, .ref 81, .ref 82, .long 0, .ref 83, .int 0, .int 0, .int 0]) C (by decide) h58 rfl in_X9_unsuited_9 tyX9 tyX9_ok nmX9 (by decide) (by decide +kernel) rfl rfl rfl (fun _ => rfl) (fun _ => rfl) (Nat.le_of_ble_eq_true rfl) dX9_unsuited_2 rfl ?_
  refine jv_aload_n C dX9_unsuited_5 0 rfl ?_
  refine jv_iload_n C dX9_unsuited_6 1 rfl ?_
  refine jv_callV (na := 1) (As := [.int p1]) (st := []) C (c_X9_isRoof l D kp (va_up_self _ _ _) (jv_n (by decide) h65) p1) gX9_unsuited_X9_isRoof rfl (by decide) (va_up_self _ _ _) rfl rfl rfl q_X9_isRoof rfl ⟨by decide, by decide⟩ ⟨by decide, by decide⟩ (fun _ h => absurd h List.not_mem_nil) (Nat.le_of_ble_eq_true rfl) rfl dX9_unsuited_7 (fun r n1 E_1 hp _ => ?_)
  obtain ⟨rfl, rfl, rfl⟩ := hp
  show jv_V l D vwCl kp G 0 0 n (va_up E 58 (.inr (9, [.int 0, .ref 59, .ref 60, .ref 61, .ref 62, .ref 63, .int 0, .int 0, .int 0, .int 0, .int 0, .long 0, .int 0, .int 0, .int 0, .int (-1), .ref 64, .ref 65, .ref 66, .ref 67, .ref 68, .ref 69, .ref 70, .ref 71, .ref 72, .ref 73, .int 0, .ref 74, .ref 75, .ref 76, .int 0, .int 0, .ref 77, .ref 78, .ref 79, .int 0, .int 0, .int 0, .ref 80, .ref 81, .ref 82, .long 0, .ref 83, .int 0, .int 0, .int 0]))) 10 [(0, .ref 58), (1, .int p1)] [.int 0]
  refine jv_if_eq (tgt := 21) C dX9_unsuited_10 (by decide) (fun _ => ?_) (fun h => absurd (by decide) h)
  refine jv_bipush (v := (-2)) C dX9_unsuited_21 (by decide) ?_
  exact jv_iret C B rfl ⟨by decide, by decide⟩ dX9_unsuited_23
theorem in_X9_carries_9 : ∀ w ∈ u_ws RX9 TX9 46, w ∈ wsX9_carries := by decide +kernel
set_option maxRecDepth 100000 in
set_option maxHeartbeats 4000000 in
theorem c_X9_carries (l : Launch) (D : va_G) (kp : Nat → ClassId) {n : Nat} {E : Nat → jv_E} (h58 : E 58 = cx58) (h65 : E 65 = cx65) (p1 : Int32) (p2 : Int32) : jv_M l D vwCl kp yX9_carries wsX9_carries rm3 [] [.ref 58, .int p1, .int p2] n E 0 0 (fun r n1 E1 => some (.int (-2)) = r) := by
  refine jv_of (by decide) rfl (Nat.le_of_ble_eq_true rfl) (fun G C B hI hnl => ?_)
  show jv_V l D vwCl kp G 0 0 n E 0 [(0, .ref 58), (1, .int p1), (2, .int p2)] []
  refine jv_aload_n C dX9_carries_0 0 rfl ?_
  refine jv_iconst (v := 0) C dX9_carries_1 (by decide) ?_
  refine jv_putf (fk := 0) (ty := .int) (fs2 := [.int 0, .ref 59, .ref 60, .ref 61, .ref 62, .ref 63, .int 0, .int 0, .int 0, .int 0, .int 0, .long 0, .int 0, .int 0, .int 0, .int (-1), .ref 64, .ref 65, .ref 66, .ref 67, .ref 68, .ref 69, .ref 70, .ref 71, .ref 72, .ref 73, .int 0, .ref 74, .ref 75, .ref 76, .int 0, .int 0, .ref 77, .ref 78, .ref 79, .int 0, .int 0, .int 0, .ref 80, .ref 81, .ref 82, .long 0, .ref 83, .int 0, .int 0, .int 0]) C (by decide) h58 rfl in_X9_carries_9 tyX9 tyX9_ok nmX9 (by decide) (by decide +kernel) rfl rfl rfl (fun _ => rfl) (fun _ => rfl) (Nat.le_of_ble_eq_true rfl) dX9_carries_2 rfl ?_
  refine jv_aload_n C dX9_carries_5 0 rfl ?_
  refine jv_iload_n C dX9_carries_6 1 rfl ?_
  refine jv_callV (na := 1) (As := [.int p1]) (st := []) C (c_X9_isRoof l D kp (va_up_self _ _ _) (jv_n (by decide) h65) p1) gX9_carries_X9_isRoof rfl (by decide) (va_up_self _ _ _) rfl rfl rfl q_X9_isRoof rfl ⟨by decide, by decide⟩ ⟨by decide, by decide⟩ (fun _ h => absurd h List.not_mem_nil) (Nat.le_of_ble_eq_true rfl) rfl dX9_carries_7 (fun r n1 E_1 hp _ => ?_)
  obtain ⟨rfl, rfl, rfl⟩ := hp
  show jv_V l D vwCl kp G 0 0 n (va_up E 58 (.inr (9, [.int 0, .ref 59, .ref 60, .ref 61, .ref 62, .ref 63, .int 0, .int 0, .int 0, .int 0, .int 0, .long 0, .int 0, .int 0, .int 0, .int (-1), .ref 64, .ref 65, .ref 66, .ref 67, .ref 68, .ref 69, .ref 70, .ref 71, .ref 72, .ref 73, .int 0, .ref 74, .ref 75, .ref 76, .int 0, .int 0, .ref 77, .ref 78, .ref 79, .int 0, .int 0, .int 0, .ref 80, .ref 81, .ref 82, .long 0, .ref 83, .int 0, .int 0, .int 0]))) 10 [(0, .ref 58), (1, .int p1), (2, .int p2)] [.int 0]
  refine jv_if_eq (tgt := 21) C dX9_carries_10 (by decide) (fun _ => ?_) (fun h => absurd (by decide) h)
  refine jv_bipush (v := (-2)) C dX9_carries_21 (by decide) ?_
  exact jv_iret C B rfl ⟨by decide, by decide⟩ dX9_carries_23
theorem q_X9_isLetter : yX9_isLetter.cls ≠ "java/lang/invoke/MethodHandle" ∧ yX9_isLetter.cls ≠ "java/lang/invoke/VarHandle" ∧ (parseMethodDescriptor yX9_isLetter.desc).map (fun d => d.parameters.length) = some 1 := by decide +kernel
theorem in_X9_letter_9 : ∀ w ∈ u_ws RX9 TX9 46, w ∈ wsX9_letter := by decide +kernel
set_option maxRecDepth 100000 in
set_option maxHeartbeats 4000000 in
theorem c_X9_letter (l : Launch) (D : va_G) (kp : Nat → ClassId) {n : Nat} {E : Nat → jv_E} (h58 : E 58 = cx58) (h65 : E 65 = cx65) (h70 : E 70 = cx70) (p1 : Int32) (p2 : Int32) : jv_M l D vwCl kp yX9_letter wsX9_letter rm3 [] [.ref 58, .int p1, .int p2] n E 0 0 (fun r n1 E1 => some (.int (-2)) = r) := by
  refine jv_of (by decide) rfl (Nat.le_of_ble_eq_true rfl) (fun G C B hI hnl => ?_)
  show jv_V l D vwCl kp G 0 0 n E 0 [(0, .ref 58), (1, .int p1), (2, .int p2)] []
  refine jv_aload_n C dX9_letter_0 0 rfl ?_
  refine jv_iconst (v := 0) C dX9_letter_1 (by decide) ?_
  refine jv_putf (fk := 0) (ty := .int) (fs2 := [.int 0, .ref 59, .ref 60, .ref 61, .ref 62, .ref 63, .int 0, .int 0, .int 0, .int 0, .int 0, .long 0, .int 0, .int 0, .int 0, .int (-1), .ref 64, .ref 65, .ref 66, .ref 67, .ref 68, .ref 69, .ref 70, .ref 71, .ref 72, .ref 73, .int 0, .ref 74, .ref 75, .ref 76, .int 0, .int 0, .ref 77, .ref 78, .ref 79, .int 0, .int 0, .int 0, .ref 80, .ref 81, .ref 82, .long 0, .ref 83, .int 0, .int 0, .int 0]) C (by decide) h58 rfl in_X9_letter_9 tyX9 tyX9_ok nmX9 (by decide) (by decide +kernel) rfl rfl rfl (fun _ => rfl) (fun _ => rfl) (Nat.le_of_ble_eq_true rfl) dX9_letter_2 rfl ?_
  refine jv_aload_n C dX9_letter_5 0 rfl ?_
  refine jv_iload_n C dX9_letter_6 1 rfl ?_
  refine jv_callV (na := 1) (As := [.int p1]) (st := []) C (c_X9_isLetter l D kp (va_up_self _ _ _) (jv_n (by decide) h70) p1) gX9_letter_X9_isLetter rfl (by decide) (va_up_self _ _ _) rfl rfl rfl q_X9_isLetter rfl ⟨by decide, by decide⟩ ⟨by decide, by decide⟩ (fun _ h => absurd h List.not_mem_nil) (Nat.le_of_ble_eq_true rfl) rfl dX9_letter_7 (fun r n1 E_1 hp _ => ?_)
  obtain ⟨rfl, rfl, rfl⟩ := hp
  show jv_V l D vwCl kp G 0 0 n (va_up E 58 (.inr (9, [.int 0, .ref 59, .ref 60, .ref 61, .ref 62, .ref 63, .int 0, .int 0, .int 0, .int 0, .int 0, .long 0, .int 0, .int 0, .int 0, .int (-1), .ref 64, .ref 65, .ref 66, .ref 67, .ref 68, .ref 69, .ref 70, .ref 71, .ref 72, .ref 73, .int 0, .ref 74, .ref 75, .ref 76, .int 0, .int 0, .ref 77, .ref 78, .ref 79, .int 0, .int 0, .int 0, .ref 80, .ref 81, .ref 82, .long 0, .ref 83, .int 0, .int 0, .int 0]))) 10 [(0, .ref 58), (1, .int p1), (2, .int p2)] [.int 0]
  refine jv_if_eq (tgt := 38) C dX9_letter_10 (by decide) (fun _ => ?_) (fun h => absurd (by decide) h)
  refine jv_bipush (v := (-2)) C dX9_letter_38 (by decide) ?_
  exact jv_iret C B rfl ⟨by decide, by decide⟩ dX9_letter_40
theorem in_X9_alone_9 : ∀ w ∈ u_ws RX9 TX9 46, w ∈ wsX9_alone := by decide +kernel
set_option maxRecDepth 100000 in
set_option maxHeartbeats 4000000 in
theorem c_X9_alone (l : Launch) (D : va_G) (kp : Nat → ClassId) {n : Nat} {E : Nat → jv_E} (h58 : E 58 = cx58) (h65 : E 65 = cx65) (h70 : E 70 = cx70) (p1 : Int32) : jv_M l D vwCl kp yX9_alone wsX9_alone rm3 [] [.ref 58, .int p1] n E 0 0 (fun r n1 E1 => some (.int (-2)) = r) := by
  refine jv_of (by decide) rfl (Nat.le_of_ble_eq_true rfl) (fun G C B hI hnl => ?_)
  show jv_V l D vwCl kp G 0 0 n E 0 [(0, .ref 58), (1, .int p1)] []
  refine jv_aload_n C dX9_alone_0 0 rfl ?_
  refine jv_iconst (v := 0) C dX9_alone_1 (by decide) ?_
  refine jv_putf (fk := 0) (ty := .int) (fs2 := [.int 0, .ref 59, .ref 60, .ref 61, .ref 62, .ref 63, .int 0, .int 0, .int 0, .int 0, .int 0, .long 0, .int 0, .int 0, .int 0, .int (-1), .ref 64, .ref 65, .ref 66, .ref 67, .ref 68, .ref 69, .ref 70, .ref 71, .ref 72, .ref 73, .int 0, .ref 74, .ref 75, .ref 76, .int 0, .int 0, .ref 77, .ref 78, .ref 79, .int 0, .int 0, .int 0, .ref 80, .ref 81, .ref 82, .long 0, .ref 83, .int 0, .int 0, .int 0]) C (by decide) h58 rfl in_X9_alone_9 tyX9 tyX9_ok nmX9 (by decide) (by decide +kernel) rfl rfl rfl (fun _ => rfl) (fun _ => rfl) (Nat.le_of_ble_eq_true rfl) dX9_alone_2 rfl ?_
  refine jv_aload_n C dX9_alone_5 0 rfl ?_
  refine jv_iload_n C dX9_alone_6 1 rfl ?_
  refine jv_callV (na := 1) (As := [.int p1]) (st := []) C (c_X9_isLetter l D kp (va_up_self _ _ _) (jv_n (by decide) h70) p1) gX9_alone_X9_isLetter rfl (by decide) (va_up_self _ _ _) rfl rfl rfl q_X9_isLetter rfl ⟨by decide, by decide⟩ ⟨by decide, by decide⟩ (fun _ h => absurd h List.not_mem_nil) (Nat.le_of_ble_eq_true rfl) rfl dX9_alone_7 (fun r n1 E_1 hp _ => ?_)
  obtain ⟨rfl, rfl, rfl⟩ := hp
  show jv_V l D vwCl kp G 0 0 n (va_up E 58 (.inr (9, [.int 0, .ref 59, .ref 60, .ref 61, .ref 62, .ref 63, .int 0, .int 0, .int 0, .int 0, .int 0, .long 0, .int 0, .int 0, .int 0, .int (-1), .ref 64, .ref 65, .ref 66, .ref 67, .ref 68, .ref 69, .ref 70, .ref 71, .ref 72, .ref 73, .int 0, .ref 74, .ref 75, .ref 76, .int 0, .int 0, .ref 77, .ref 78, .ref 79, .int 0, .int 0, .int 0, .ref 80, .ref 81, .ref 82, .long 0, .ref 83, .int 0, .int 0, .int 0]))) 10 [(0, .ref 58), (1, .int p1)] [.int 0]
  refine jv_if_ne (tgt := 16) C dX9_alone_10 (by decide) (fun h => absurd h (by decide)) (fun _ => ?_)
  refine jv_bipush (v := (-2)) C dX9_alone_13 (by decide) ?_
  exact jv_iret C B rfl ⟨by decide, by decide⟩ dX9_alone_15
theorem in_X9_soonest_9 : ∀ w ∈ u_ws RX9 TX9 46, w ∈ wsX9_soonest := by decide +kernel
set_option maxRecDepth 100000 in
set_option maxHeartbeats 4000000 in
theorem c_X9_soonest (l : Launch) (D : va_G) (kp : Nat → ClassId) {n : Nat} {E : Nat → jv_E} (h58 : E 58 = cx58) (h65 : E 65 = cx65) (h70 : E 70 = cx70) (p1 : Int32) (p2 : Int32) : jv_M l D vwCl kp yX9_soonest wsX9_soonest rm3 [] [.ref 58, .int p1, .int p2] n E 0 0 (fun r n1 E1 => some (.int (-2)) = r) := by
  refine jv_of (by decide) rfl (Nat.le_of_ble_eq_true rfl) (fun G C B hI hnl => ?_)
  show jv_V l D vwCl kp G 0 0 n E 0 [(0, .ref 58), (1, .int p1), (2, .int p2)] []
  refine jv_aload_n C dX9_soonest_0 0 rfl ?_
  refine jv_iconst (v := 0) C dX9_soonest_1 (by decide) ?_
  refine jv_putf (fk := 0) (ty := .int) (fs2 := [.int 0, .ref 59, .ref 60, .ref 61, .ref 62, .ref 63, .int 0, .int 0, .int 0, .int 0, .int 0, .long 0, .int 0, .int 0, .int 0, .int (-1), .ref 64, .ref 65, .ref 66, .ref 67, .ref 68, .ref 69, .ref 70, .ref 71, .ref 72, .ref 73, .int 0, .ref 74, .ref 75, .ref 76, .int 0, .int 0, .ref 77, .ref 78, .ref 79, .int 0, .int 0, .int 0, .ref 80, .ref 81, .ref 82, .long 0, .ref 83, .int 0, .int 0, .int 0]) C (by decide) h58 rfl in_X9_soonest_9 tyX9 tyX9_ok nmX9 (by decide) (by decide +kernel) rfl rfl rfl (fun _ => rfl) (fun _ => rfl) (Nat.le_of_ble_eq_true rfl) dX9_soonest_2 rfl ?_
  refine jv_aload_n C dX9_soonest_5 0 rfl ?_
  refine jv_iload_n C dX9_soonest_6 1 rfl ?_
  refine jv_callV (na := 1) (As := [.int p1]) (st := []) C (c_X9_isLetter l D kp (va_up_self _ _ _) (jv_n (by decide) h70) p1) gX9_soonest_X9_isLetter rfl (by decide) (va_up_self _ _ _) rfl rfl rfl q_X9_isLetter rfl ⟨by decide, by decide⟩ ⟨by decide, by decide⟩ (fun _ h => absurd h List.not_mem_nil) (Nat.le_of_ble_eq_true rfl) rfl dX9_soonest_7 (fun r n1 E_1 hp _ => ?_)
  obtain ⟨rfl, rfl, rfl⟩ := hp
  show jv_V l D vwCl kp G 0 0 n (va_up E 58 (.inr (9, [.int 0, .ref 59, .ref 60, .ref 61, .ref 62, .ref 63, .int 0, .int 0, .int 0, .int 0, .int 0, .long 0, .int 0, .int 0, .int 0, .int (-1), .ref 64, .ref 65, .ref 66, .ref 67, .ref 68, .ref 69, .ref 70, .ref 71, .ref 72, .ref 73, .int 0, .ref 74, .ref 75, .ref 76, .int 0, .int 0, .ref 77, .ref 78, .ref 79, .int 0, .int 0, .int 0, .ref 80, .ref 81, .ref 82, .long 0, .ref 83, .int 0, .int 0, .int 0]))) 10 [(0, .ref 58), (1, .int p1), (2, .int p2)] [.int 0]
  refine jv_if_eq (tgt := 25) C dX9_soonest_10 (by decide) (fun _ => ?_) (fun h => absurd (by decide) h)
  refine jv_bipush (v := (-2)) C dX9_soonest_25 (by decide) ?_
  exact jv_iret C B rfl ⟨by decide, by decide⟩ dX9_soonest_27
theorem in_X9_way_9 : ∀ w ∈ u_ws RX9 TX9 46, w ∈ wsX9_way := by decide +kernel
set_option maxRecDepth 100000 in
set_option maxHeartbeats 4000000 in
theorem c_X9_way (l : Launch) (D : va_G) (kp : Nat → ClassId) {n : Nat} {E : Nat → jv_E} (h58 : E 58 = cx58) (h65 : E 65 = cx65) (h70 : E 70 = cx70) (p1 : Int32) (p2 : Int32) : jv_M l D vwCl kp yX9_way wsX9_way rm3 [] [.ref 58, .int p1, .int p2] n E 0 0 (fun r n1 E1 => some (.int (-2)) = r) := by
  refine jv_of (by decide) rfl (Nat.le_of_ble_eq_true rfl) (fun G C B hI hnl => ?_)
  show jv_V l D vwCl kp G 0 0 n E 0 [(0, .ref 58), (1, .int p1), (2, .int p2)] []
  refine jv_aload_n C dX9_way_0 0 rfl ?_
  refine jv_iconst (v := 0) C dX9_way_1 (by decide) ?_
  refine jv_putf (fk := 0) (ty := .int) (fs2 := [.int 0, .ref 59, .ref 60, .ref 61, .ref 62, .ref 63, .int 0, .int 0, .int 0, .int 0, .int 0, .long 0, .int 0, .int 0, .int 0, .int (-1), .ref 64, .ref 65, .ref 66, .ref 67, .ref 68, .ref 69, .ref 70, .ref 71, .ref 72, .ref 73, .int 0, .ref 74, .ref 75, .ref 76, .int 0, .int 0, .ref 77, .ref 78, .ref 79, .int 0, .int 0, .int 0, .ref 80, .ref 81, .ref 82, .long 0, .ref 83, .int 0, .int 0, .int 0]) C (by decide) h58 rfl in_X9_way_9 tyX9 tyX9_ok nmX9 (by decide) (by decide +kernel) rfl rfl rfl (fun _ => rfl) (fun _ => rfl) (Nat.le_of_ble_eq_true rfl) dX9_way_2 rfl ?_
  refine jv_aload_n C dX9_way_5 0 rfl ?_
  refine jv_iload_n C dX9_way_6 1 rfl ?_
  refine jv_callV (na := 1) (As := [.int p1]) (st := []) C (c_X9_isLetter l D kp (va_up_self _ _ _) (jv_n (by decide) h70) p1) gX9_way_X9_isLetter rfl (by decide) (va_up_self _ _ _) rfl rfl rfl q_X9_isLetter rfl ⟨by decide, by decide⟩ ⟨by decide, by decide⟩ (fun _ h => absurd h List.not_mem_nil) (Nat.le_of_ble_eq_true rfl) rfl dX9_way_7 (fun r n1 E_1 hp _ => ?_)
  obtain ⟨rfl, rfl, rfl⟩ := hp
  show jv_V l D vwCl kp G 0 0 n (va_up E 58 (.inr (9, [.int 0, .ref 59, .ref 60, .ref 61, .ref 62, .ref 63, .int 0, .int 0, .int 0, .int 0, .int 0, .long 0, .int 0, .int 0, .int 0, .int (-1), .ref 64, .ref 65, .ref 66, .ref 67, .ref 68, .ref 69, .ref 70, .ref 71, .ref 72, .ref 73, .int 0, .ref 74, .ref 75, .ref 76, .int 0, .int 0, .ref 77, .ref 78, .ref 79, .int 0, .int 0, .int 0, .ref 80, .ref 81, .ref 82, .long 0, .ref 83, .int 0, .int 0, .int 0]))) 10 [(0, .ref 58), (1, .int p1), (2, .int p2)] [.int 0]
  refine jv_if_ne (tgt := 16) C dX9_way_10 (by decide) (fun h => absurd h (by decide)) (fun _ => ?_)
  refine jv_bipush (v := (-2)) C dX9_way_13 (by decide) ?_
  exact jv_iret C B rfl ⟨by decide, by decide⟩ dX9_way_15
theorem in_X9_readers_9 : ∀ w ∈ u_ws RX9 TX9 46, w ∈ wsX9_readers := by decide +kernel
set_option maxRecDepth 100000 in
set_option maxHeartbeats 4000000 in
theorem c_X9_readers (l : Launch) (D : va_G) (kp : Nat → ClassId) {n : Nat} {E : Nat → jv_E} (h58 : E 58 = cx58) (h65 : E 65 = cx65) (h70 : E 70 = cx70) (p1 : Int32) (p2 : Int32) : jv_M l D vwCl kp yX9_readers wsX9_readers rm3 [] [.ref 58, .int p1, .int p2] n E 0 0 (fun r n1 E1 => some (.int (-2)) = r) := by
  refine jv_of (by decide) rfl (Nat.le_of_ble_eq_true rfl) (fun G C B hI hnl => ?_)
  show jv_V l D vwCl kp G 0 0 n E 0 [(0, .ref 58), (1, .int p1), (2, .int p2)] []
  refine jv_aload_n C dX9_readers_0 0 rfl ?_
  refine jv_iconst (v := 0) C dX9_readers_1 (by decide) ?_
  refine jv_putf (fk := 0) (ty := .int) (fs2 := [.int 0, .ref 59, .ref 60, .ref 61, .ref 62, .ref 63, .int 0, .int 0, .int 0, .int 0, .int 0, .long 0, .int 0, .int 0, .int 0, .int (-1), .ref 64, .ref 65, .ref 66, .ref 67, .ref 68, .ref 69, .ref 70, .ref 71, .ref 72, .ref 73, .int 0, .ref 74, .ref 75, .ref 76, .int 0, .int 0, .ref 77, .ref 78, .ref 79, .int 0, .int 0, .int 0, .ref 80, .ref 81, .ref 82, .long 0, .ref 83, .int 0, .int 0, .int 0]) C (by decide) h58 rfl in_X9_readers_9 tyX9 tyX9_ok nmX9 (by decide) (by decide +kernel) rfl rfl rfl (fun _ => rfl) (fun _ => rfl) (Nat.le_of_ble_eq_true rfl) dX9_readers_2 rfl ?_
  refine jv_aload_n C dX9_readers_5 0 rfl ?_
  refine jv_iload_n C dX9_readers_6 1 rfl ?_
  refine jv_callV (na := 1) (As := [.int p1]) (st := []) C (c_X9_isLetter l D kp (va_up_self _ _ _) (jv_n (by decide) h70) p1) gX9_readers_X9_isLetter rfl (by decide) (va_up_self _ _ _) rfl rfl rfl q_X9_isLetter rfl ⟨by decide, by decide⟩ ⟨by decide, by decide⟩ (fun _ h => absurd h List.not_mem_nil) (Nat.le_of_ble_eq_true rfl) rfl dX9_readers_7 (fun r n1 E_1 hp _ => ?_)
  obtain ⟨rfl, rfl, rfl⟩ := hp
  show jv_V l D vwCl kp G 0 0 n (va_up E 58 (.inr (9, [.int 0, .ref 59, .ref 60, .ref 61, .ref 62, .ref 63, .int 0, .int 0, .int 0, .int 0, .int 0, .long 0, .int 0, .int 0, .int 0, .int (-1), .ref 64, .ref 65, .ref 66, .ref 67, .ref 68, .ref 69, .ref 70, .ref 71, .ref 72, .ref 73, .int 0, .ref 74, .ref 75, .ref 76, .int 0, .int 0, .ref 77, .ref 78, .ref 79, .int 0, .int 0, .int 0, .ref 80, .ref 81, .ref 82, .long 0, .ref 83, .int 0, .int 0, .int 0]))) 10 [(0, .ref 58), (1, .int p1), (2, .int p2)] [.int 0]
  refine jv_if_eq (tgt := 20) C dX9_readers_10 (by decide) (fun _ => ?_) (fun h => absurd (by decide) h)
  refine jv_bipush (v := (-2)) C dX9_readers_20 (by decide) ?_
  exact jv_iret C B rfl ⟨by decide, by decide⟩ dX9_readers_22
theorem in_X9_misses_9 : ∀ w ∈ u_ws RX9 TX9 46, w ∈ wsX9_misses := by decide +kernel
set_option maxRecDepth 100000 in
set_option maxHeartbeats 4000000 in
theorem c_X9_misses (l : Launch) (D : va_G) (kp : Nat → ClassId) {n : Nat} {E : Nat → jv_E} (h58 : E 58 = cx58) (h65 : E 65 = cx65) (p1 : Int32) (p2 : Int32) (p3 : Int32) : jv_M l D vwCl kp yX9_misses wsX9_misses rm4 [] [.ref 58, .int p1, .int p2, .int p3] n E 0 0 (fun r n1 E1 => some (.int (-2)) = r) := by
  refine jv_of (by decide) rfl (Nat.le_of_ble_eq_true rfl) (fun G C B hI hnl => ?_)
  show jv_V l D vwCl kp G 0 0 n E 0 [(0, .ref 58), (1, .int p1), (2, .int p2), (3, .int p3)] []
  refine jv_aload_n C dX9_misses_0 0 rfl ?_
  refine jv_iconst (v := 0) C dX9_misses_1 (by decide) ?_
  refine jv_putf (fk := 0) (ty := .int) (fs2 := [.int 0, .ref 59, .ref 60, .ref 61, .ref 62, .ref 63, .int 0, .int 0, .int 0, .int 0, .int 0, .long 0, .int 0, .int 0, .int 0, .int (-1), .ref 64, .ref 65, .ref 66, .ref 67, .ref 68, .ref 69, .ref 70, .ref 71, .ref 72, .ref 73, .int 0, .ref 74, .ref 75, .ref 76, .int 0, .int 0, .ref 77, .ref 78, .ref 79, .int 0, .int 0, .int 0, .ref 80, .ref 81, .ref 82, .long 0, .ref 83, .int 0, .int 0, .int 0]) C (by decide) h58 rfl in_X9_misses_9 tyX9 tyX9_ok nmX9 (by decide) (by decide +kernel) rfl rfl rfl (fun _ => rfl) (fun _ => rfl) (Nat.le_of_ble_eq_true rfl) dX9_misses_2 rfl ?_
  refine jv_aload_n C dX9_misses_5 0 rfl ?_
  refine jv_iload_n C dX9_misses_6 1 rfl ?_
  refine jv_iload_n C dX9_misses_7 2 rfl ?_
  refine jv_callV (na := 2) (As := [.int p1, .int p2]) (st := []) C (c_X9_isToss l D kp (va_up_self _ _ _) (jv_n (by decide) h65) p1 p2) gX9_misses_X9_isToss rfl (by decide) (va_up_self _ _ _) rfl rfl rfl q_X9_isToss rfl ⟨by decide, by decide⟩ ⟨by decide, by decide⟩ (fun _ h => absurd h List.not_mem_nil) (Nat.le_of_ble_eq_true rfl) rfl dX9_misses_8 (fun r n1 E_1 hp _ => ?_)
  obtain ⟨rfl, rfl, rfl⟩ := hp
  show jv_V l D vwCl kp G 0 0 n (va_up E 58 (.inr (9, [.int 0, .ref 59, .ref 60, .ref 61, .ref 62, .ref 63, .int 0, .int 0, .int 0, .int 0, .int 0, .long 0, .int 0, .int 0, .int 0, .int (-1), .ref 64, .ref 65, .ref 66, .ref 67, .ref 68, .ref 69, .ref 70, .ref 71, .ref 72, .ref 73, .int 0, .ref 74, .ref 75, .ref 76, .int 0, .int 0, .ref 77, .ref 78, .ref 79, .int 0, .int 0, .int 0, .ref 80, .ref 81, .ref 82, .long 0, .ref 83, .int 0, .int 0, .int 0]))) 11 [(0, .ref 58), (1, .int p1), (2, .int p2), (3, .int p3)] [.int 0]
  refine jv_if_eq (tgt := 22) C dX9_misses_11 (by decide) (fun _ => ?_) (fun h => absurd (by decide) h)
  refine jv_bipush (v := (-2)) C dX9_misses_22 (by decide) ?_
  exact jv_iret C B rfl ⟨by decide, by decide⟩ dX9_misses_24
theorem in_X9_missed_9 : ∀ w ∈ u_ws RX9 TX9 46, w ∈ wsX9_missed := by decide +kernel
set_option maxRecDepth 100000 in
set_option maxHeartbeats 4000000 in
theorem c_X9_missed (l : Launch) (D : va_G) (kp : Nat → ClassId) {n : Nat} {E : Nat → jv_E} (h58 : E 58 = cx58) (h65 : E 65 = cx65) (p1 : Int32) (p2 : Int32) (p3 : Int32) (p4 : Int32) : jv_M l D vwCl kp yX9_missed wsX9_missed rm4 [] [.ref 58, .int p1, .int p2, .int p3, .int p4] n E 0 0 (fun r n1 E1 => some (.int (-2)) = r) := by
  refine jv_of (by decide) rfl (Nat.le_of_ble_eq_true rfl) (fun G C B hI hnl => ?_)
  show jv_V l D vwCl kp G 0 0 n E 0 [(0, .ref 58), (1, .int p1), (2, .int p2), (3, .int p3), (4, .int p4)] []
  refine jv_aload_n C dX9_missed_0 0 rfl ?_
  refine jv_iconst (v := 0) C dX9_missed_1 (by decide) ?_
  refine jv_putf (fk := 0) (ty := .int) (fs2 := [.int 0, .ref 59, .ref 60, .ref 61, .ref 62, .ref 63, .int 0, .int 0, .int 0, .int 0, .int 0, .long 0, .int 0, .int 0, .int 0, .int (-1), .ref 64, .ref 65, .ref 66, .ref 67, .ref 68, .ref 69, .ref 70, .ref 71, .ref 72, .ref 73, .int 0, .ref 74, .ref 75, .ref 76, .int 0, .int 0, .ref 77, .ref 78, .ref 79, .int 0, .int 0, .int 0, .ref 80, .ref 81, .ref 82, .long 0, .ref 83, .int 0, .int 0, .int 0]) C (by decide) h58 rfl in_X9_missed_9 tyX9 tyX9_ok nmX9 (by decide) (by decide +kernel) rfl rfl rfl (fun _ => rfl) (fun _ => rfl) (Nat.le_of_ble_eq_true rfl) dX9_missed_2 rfl ?_
  refine jv_aload_n C dX9_missed_5 0 rfl ?_
  refine jv_iload_n C dX9_missed_6 1 rfl ?_
  refine jv_iload_n C dX9_missed_7 2 rfl ?_
  refine jv_callV (na := 2) (As := [.int p1, .int p2]) (st := []) C (c_X9_isToss l D kp (va_up_self _ _ _) (jv_n (by decide) h65) p1 p2) gX9_missed_X9_isToss rfl (by decide) (va_up_self _ _ _) rfl rfl rfl q_X9_isToss rfl ⟨by decide, by decide⟩ ⟨by decide, by decide⟩ (fun _ h => absurd h List.not_mem_nil) (Nat.le_of_ble_eq_true rfl) rfl dX9_missed_8 (fun r n1 E_1 hp _ => ?_)
  obtain ⟨rfl, rfl, rfl⟩ := hp
  show jv_V l D vwCl kp G 0 0 n (va_up E 58 (.inr (9, [.int 0, .ref 59, .ref 60, .ref 61, .ref 62, .ref 63, .int 0, .int 0, .int 0, .int 0, .int 0, .long 0, .int 0, .int 0, .int 0, .int (-1), .ref 64, .ref 65, .ref 66, .ref 67, .ref 68, .ref 69, .ref 70, .ref 71, .ref 72, .ref 73, .int 0, .ref 74, .ref 75, .ref 76, .int 0, .int 0, .ref 77, .ref 78, .ref 79, .int 0, .int 0, .int 0, .ref 80, .ref 81, .ref 82, .long 0, .ref 83, .int 0, .int 0, .int 0]))) 11 [(0, .ref 58), (1, .int p1), (2, .int p2), (3, .int p3), (4, .int p4)] [.int 0]
  refine jv_if_eq (tgt := 35) C dX9_missed_11 (by decide) (fun _ => ?_) (fun h => absurd (by decide) h)
  refine jv_bipush (v := (-2)) C dX9_missed_35 (by decide) ?_
  exact jv_iret C B rfl ⟨by decide, by decide⟩ dX9_missed_37
theorem in_X9_state_9 : ∀ w ∈ u_ws RX9 TX9 46, w ∈ wsX9_state := by decide +kernel
set_option maxRecDepth 100000 in
set_option maxHeartbeats 4000000 in
theorem c_X9_state (l : Launch) (D : va_G) (kp : Nat → ClassId) {n : Nat} {E : Nat → jv_E} (h58 : E 58 = cx58) (h65 : E 65 = cx65) (p1 : Int32) (p2 : Int32) : jv_M l D vwCl kp yX9_state wsX9_state rm4 [] [.ref 58, .int p1, .int p2] n E 0 0 (fun r n1 E1 => some (.int (-2)) = r) := by
  refine jv_of (by decide) rfl (Nat.le_of_ble_eq_true rfl) (fun G C B hI hnl => ?_)
  show jv_V l D vwCl kp G 0 0 n E 0 [(0, .ref 58), (1, .int p1), (2, .int p2)] []
  refine jv_aload_n C dX9_state_0 0 rfl ?_
  refine jv_iconst (v := 0) C dX9_state_1 (by decide) ?_
  refine jv_putf (fk := 0) (ty := .int) (fs2 := [.int 0, .ref 59, .ref 60, .ref 61, .ref 62, .ref 63, .int 0, .int 0, .int 0, .int 0, .int 0, .long 0, .int 0, .int 0, .int 0, .int (-1), .ref 64, .ref 65, .ref 66, .ref 67, .ref 68, .ref 69, .ref 70, .ref 71, .ref 72, .ref 73, .int 0, .ref 74, .ref 75, .ref 76, .int 0, .int 0, .ref 77, .ref 78, .ref 79, .int 0, .int 0, .int 0, .ref 80, .ref 81, .ref 82, .long 0, .ref 83, .int 0, .int 0, .int 0]) C (by decide) h58 rfl in_X9_state_9 tyX9 tyX9_ok nmX9 (by decide) (by decide +kernel) rfl rfl rfl (fun _ => rfl) (fun _ => rfl) (Nat.le_of_ble_eq_true rfl) dX9_state_2 rfl ?_
  refine jv_aload_n C dX9_state_5 0 rfl ?_
  refine jv_iload_n C dX9_state_6 1 rfl ?_
  refine jv_iload_n C dX9_state_7 2 rfl ?_
  refine jv_callV (na := 2) (As := [.int p1, .int p2]) (st := []) C (c_X9_isThrow l D kp (va_up_self _ _ _) (jv_n (by decide) h65) p1 p2) gX9_state_X9_isThrow rfl (by decide) (va_up_self _ _ _) rfl rfl rfl q_X9_isThrow rfl ⟨by decide, by decide⟩ ⟨by decide, by decide⟩ (fun _ h => absurd h List.not_mem_nil) (Nat.le_of_ble_eq_true rfl) rfl dX9_state_8 (fun r n1 E_1 hp _ => ?_)
  obtain ⟨rfl, rfl, rfl⟩ := hp
  show jv_V l D vwCl kp G 0 0 n (va_up E 58 (.inr (9, [.int 0, .ref 59, .ref 60, .ref 61, .ref 62, .ref 63, .int 0, .int 0, .int 0, .int 0, .int 0, .long 0, .int 0, .int 0, .int 0, .int (-1), .ref 64, .ref 65, .ref 66, .ref 67, .ref 68, .ref 69, .ref 70, .ref 71, .ref 72, .ref 73, .int 0, .ref 74, .ref 75, .ref 76, .int 0, .int 0, .ref 77, .ref 78, .ref 79, .int 0, .int 0, .int 0, .ref 80, .ref 81, .ref 82, .long 0, .ref 83, .int 0, .int 0, .int 0]))) 11 [(0, .ref 58), (1, .int p1), (2, .int p2)] [.int 0]
  refine jv_if_ne (tgt := 19) C dX9_state_11 (by decide) (fun h => absurd h (by decide)) (fun _ => ?_)
  refine jv_bipush (v := (-2)) C dX9_state_14 (by decide) ?_
  refine jv_goto (tgt := 37) C dX9_state_16 (by decide) ?_
  exact jv_iret C B rfl ⟨by decide, by decide⟩ dX9_state_37
theorem q_X9_isChange : yX9_isChange.cls ≠ "java/lang/invoke/MethodHandle" ∧ yX9_isChange.cls ≠ "java/lang/invoke/VarHandle" ∧ (parseMethodDescriptor yX9_isChange.desc).map (fun d => d.parameters.length) = some 4 := by decide +kernel
theorem in_X9_change_9 : ∀ w ∈ u_ws RX9 TX9 46, w ∈ wsX9_change := by decide +kernel
set_option maxRecDepth 100000 in
set_option maxHeartbeats 4000000 in
theorem c_X9_change (l : Launch) (D : va_G) (kp : Nat → ClassId) {n : Nat} {E : Nat → jv_E} (h58 : E 58 = cx58) (h65 : E 65 = cx65) (p1 : Int32) (p2 : Int32) (p3 : Int32) (p4 : Int32) : jv_M l D vwCl kp yX9_change wsX9_change rm5 [] [.ref 58, .int p1, .int p2, .int p3, .int p4] n E 0 0 (fun r n1 E1 => some (.int (-2)) = r) := by
  refine jv_of (by decide) rfl (Nat.le_of_ble_eq_true rfl) (fun G C B hI hnl => ?_)
  show jv_V l D vwCl kp G 0 0 n E 0 [(0, .ref 58), (1, .int p1), (2, .int p2), (3, .int p3), (4, .int p4)] []
  refine jv_aload_n C dX9_change_0 0 rfl ?_
  refine jv_iconst (v := 0) C dX9_change_1 (by decide) ?_
  refine jv_putf (fk := 0) (ty := .int) (fs2 := [.int 0, .ref 59, .ref 60, .ref 61, .ref 62, .ref 63, .int 0, .int 0, .int 0, .int 0, .int 0, .long 0, .int 0, .int 0, .int 0, .int (-1), .ref 64, .ref 65, .ref 66, .ref 67, .ref 68, .ref 69, .ref 70, .ref 71, .ref 72, .ref 73, .int 0, .ref 74, .ref 75, .ref 76, .int 0, .int 0, .ref 77, .ref 78, .ref 79, .int 0, .int 0, .int 0, .ref 80, .ref 81, .ref 82, .long 0, .ref 83, .int 0, .int 0, .int 0]) C (by decide) h58 rfl in_X9_change_9 tyX9 tyX9_ok nmX9 (by decide) (by decide +kernel) rfl rfl rfl (fun _ => rfl) (fun _ => rfl) (Nat.le_of_ble_eq_true rfl) dX9_change_2 rfl ?_
  refine jv_aload_n C dX9_change_5 0 rfl ?_
  refine jv_iload_n C dX9_change_6 1 rfl ?_
  refine jv_iload_n C dX9_change_7 2 rfl ?_
  refine jv_iload_n C dX9_change_8 3 rfl ?_
  refine jv_iload C dX9_change_9 4 rfl ?_
  refine jv_callV (na := 4) (As := [.int p1, .int p2, .int p3, .int p4]) (st := []) C (c_X9_isChange l D kp (va_up_self _ _ _) (jv_n (by decide) h65) p1 p2 p3 p4) gX9_change_X9_isChange rfl (by decide) (va_up_self _ _ _) rfl rfl rfl q_X9_isChange rfl ⟨by decide, by decide⟩ ⟨by decide, by decide⟩ (fun _ h => absurd h List.not_mem_nil) (Nat.le_of_ble_eq_true rfl) rfl dX9_change_11 (fun r n1 E_1 hp _ => ?_)
  obtain ⟨rfl, rfl, rfl⟩ := hp
  show jv_V l D vwCl kp G 0 0 n (va_up E 58 (.inr (9, [.int 0, .ref 59, .ref 60, .ref 61, .ref 62, .ref 63, .int 0, .int 0, .int 0, .int 0, .int 0, .long 0, .int 0, .int 0, .int 0, .int (-1), .ref 64, .ref 65, .ref 66, .ref 67, .ref 68, .ref 69, .ref 70, .ref 71, .ref 72, .ref 73, .int 0, .ref 74, .ref 75, .ref 76, .int 0, .int 0, .ref 77, .ref 78, .ref 79, .int 0, .int 0, .int 0, .ref 80, .ref 81, .ref 82, .long 0, .ref 83, .int 0, .int 0, .int 0]))) 14 [(0, .ref 58), (1, .int p1), (2, .int p2), (3, .int p3), (4, .int p4)] [.int 0]
  refine jv_if_ne (tgt := 20) C dX9_change_14 (by decide) (fun h => absurd h (by decide)) (fun _ => ?_)
  refine jv_bipush (v := (-2)) C dX9_change_17 (by decide) ?_
  exact jv_iret C B rfl ⟨by decide, by decide⟩ dX9_change_19
theorem in_X9_changes_9 : ∀ w ∈ u_ws RX9 TX9 46, w ∈ wsX9_changes := by decide +kernel
set_option maxRecDepth 100000 in
set_option maxHeartbeats 4000000 in
theorem c_X9_changes (l : Launch) (D : va_G) (kp : Nat → ClassId) {n : Nat} {E : Nat → jv_E} (h58 : E 58 = cx58) (h65 : E 65 = cx65) (p1 : Int32) (p2 : Int32) (p3 : Int32) (p4 : Int32) (p5 : Int32) : jv_M l D vwCl kp yX9_changes wsX9_changes rm5 [] [.ref 58, .int p1, .int p2, .int p3, .int p4, .int p5] n E 0 0 (fun r n1 E1 => some (.int (-2)) = r) := by
  refine jv_of (by decide) rfl (Nat.le_of_ble_eq_true rfl) (fun G C B hI hnl => ?_)
  show jv_V l D vwCl kp G 0 0 n E 0 [(0, .ref 58), (1, .int p1), (2, .int p2), (3, .int p3), (4, .int p4), (5, .int p5)] []
  refine jv_aload_n C dX9_changes_0 0 rfl ?_
  refine jv_iconst (v := 0) C dX9_changes_1 (by decide) ?_
  refine jv_putf (fk := 0) (ty := .int) (fs2 := [.int 0, .ref 59, .ref 60, .ref 61, .ref 62, .ref 63, .int 0, .int 0, .int 0, .int 0, .int 0, .long 0, .int 0, .int 0, .int 0, .int (-1), .ref 64, .ref 65, .ref 66, .ref 67, .ref 68, .ref 69, .ref 70, .ref 71, .ref 72, .ref 73, .int 0, .ref 74, .ref 75, .ref 76, .int 0, .int 0, .ref 77, .ref 78, .ref 79, .int 0, .int 0, .int 0, .ref 80, .ref 81, .ref 82, .long 0, .ref 83, .int 0, .int 0, .int 0]) C (by decide) h58 rfl in_X9_changes_9 tyX9 tyX9_ok nmX9 (by decide) (by decide +kernel) rfl rfl rfl (fun _ => rfl) (fun _ => rfl) (Nat.le_of_ble_eq_true rfl) dX9_changes_2 rfl ?_
  refine jv_aload_n C dX9_changes_5 0 rfl ?_
  refine jv_iload_n C dX9_changes_6 1 rfl ?_
  refine jv_iload_n C dX9_changes_7 2 rfl ?_
  refine jv_iload_n C dX9_changes_8 3 rfl ?_
  refine jv_iload C dX9_changes_9 4 rfl ?_
  refine jv_callV (na := 4) (As := [.int p1, .int p2, .int p3, .int p4]) (st := []) C (c_X9_isChange l D kp (va_up_self _ _ _) (jv_n (by decide) h65) p1 p2 p3 p4) gX9_changes_X9_isChange rfl (by decide) (va_up_self _ _ _) rfl rfl rfl q_X9_isChange rfl ⟨by decide, by decide⟩ ⟨by decide, by decide⟩ (fun _ h => absurd h List.not_mem_nil) (Nat.le_of_ble_eq_true rfl) rfl dX9_changes_11 (fun r n1 E_1 hp _ => ?_)
  obtain ⟨rfl, rfl, rfl⟩ := hp
  show jv_V l D vwCl kp G 0 0 n (va_up E 58 (.inr (9, [.int 0, .ref 59, .ref 60, .ref 61, .ref 62, .ref 63, .int 0, .int 0, .int 0, .int 0, .int 0, .long 0, .int 0, .int 0, .int 0, .int (-1), .ref 64, .ref 65, .ref 66, .ref 67, .ref 68, .ref 69, .ref 70, .ref 71, .ref 72, .ref 73, .int 0, .ref 74, .ref 75, .ref 76, .int 0, .int 0, .ref 77, .ref 78, .ref 79, .int 0, .int 0, .int 0, .ref 80, .ref 81, .ref 82, .long 0, .ref 83, .int 0, .int 0, .int 0]))) 14 [(0, .ref 58), (1, .int p1), (2, .int p2), (3, .int p3), (4, .int p4), (5, .int p5)] [.int 0]
  refine jv_if_ne (tgt := 20) C dX9_changes_14 (by decide) (fun h => absurd h (by decide)) (fun _ => ?_)
  refine jv_bipush (v := (-2)) C dX9_changes_17 (by decide) ?_
  exact jv_iret C B rfl ⟨by decide, by decide⟩ dX9_changes_19
theorem in_X9_exchange_9 : ∀ w ∈ u_ws RX9 TX9 46, w ∈ wsX9_exchange := by decide +kernel
set_option maxRecDepth 100000 in
set_option maxHeartbeats 4000000 in
theorem c_X9_exchange (l : Launch) (D : va_G) (kp : Nat → ClassId) {n : Nat} {E : Nat → jv_E} (h58 : E 58 = cx58) (h65 : E 65 = cx65) (p1 : Int32) (p2 : Int32) (p3 : Int32) (p4 : Int32) : jv_M l D vwCl kp yX9_exchange wsX9_exchange rm4 [] [.ref 58, .int p1, .int p2, .int p3, .int p4] n E 0 0 (fun r n1 E1 => some (.int (-2)) = r) := by
  refine jv_of (by decide) rfl (Nat.le_of_ble_eq_true rfl) (fun G C B hI hnl => ?_)
  show jv_V l D vwCl kp G 0 0 n E 0 [(0, .ref 58), (1, .int p1), (2, .int p2), (3, .int p3), (4, .int p4)] []
  refine jv_aload_n C dX9_exchange_0 0 rfl ?_
  refine jv_iconst (v := 0) C dX9_exchange_1 (by decide) ?_
  refine jv_putf (fk := 0) (ty := .int) (fs2 := [.int 0, .ref 59, .ref 60, .ref 61, .ref 62, .ref 63, .int 0, .int 0, .int 0, .int 0, .int 0, .long 0, .int 0, .int 0, .int 0, .int (-1), .ref 64, .ref 65, .ref 66, .ref 67, .ref 68, .ref 69, .ref 70, .ref 71, .ref 72, .ref 73, .int 0, .ref 74, .ref 75, .ref 76, .int 0, .int 0, .ref 77, .ref 78, .ref 79, .int 0, .int 0, .int 0, .ref 80, .ref 81, .ref 82, .long 0, .ref 83, .int 0, .int 0, .int 0]) C (by decide) h58 rfl in_X9_exchange_9 tyX9 tyX9_ok nmX9 (by decide) (by decide +kernel) rfl rfl rfl (fun _ => rfl) (fun _ => rfl) (Nat.le_of_ble_eq_true rfl) dX9_exchange_2 rfl ?_
  refine jv_aload_n C dX9_exchange_5 0 rfl ?_
  refine jv_iload_n C dX9_exchange_6 1 rfl ?_
  refine jv_iload_n C dX9_exchange_7 2 rfl ?_
  refine jv_callV (na := 2) (As := [.int p1, .int p2]) (st := []) C (c_X9_isThrow l D kp (va_up_self _ _ _) (jv_n (by decide) h65) p1 p2) gX9_exchange_X9_isThrow rfl (by decide) (va_up_self _ _ _) rfl rfl rfl q_X9_isThrow rfl ⟨by decide, by decide⟩ ⟨by decide, by decide⟩ (fun _ h => absurd h List.not_mem_nil) (Nat.le_of_ble_eq_true rfl) rfl dX9_exchange_8 (fun r n1 E_1 hp _ => ?_)
  obtain ⟨rfl, rfl, rfl⟩ := hp
  show jv_V l D vwCl kp G 0 0 n (va_up E 58 (.inr (9, [.int 0, .ref 59, .ref 60, .ref 61, .ref 62, .ref 63, .int 0, .int 0, .int 0, .int 0, .int 0, .long 0, .int 0, .int 0, .int 0, .int (-1), .ref 64, .ref 65, .ref 66, .ref 67, .ref 68, .ref 69, .ref 70, .ref 71, .ref 72, .ref 73, .int 0, .ref 74, .ref 75, .ref 76, .int 0, .int 0, .ref 77, .ref 78, .ref 79, .int 0, .int 0, .int 0, .ref 80, .ref 81, .ref 82, .long 0, .ref 83, .int 0, .int 0, .int 0]))) 11 [(0, .ref 58), (1, .int p1), (2, .int p2), (3, .int p3), (4, .int p4)] [.int 0]
  refine jv_if_eq (tgt := 29) C dX9_exchange_11 (by decide) (fun _ => ?_) (fun h => absurd (by decide) h)
  refine jv_bipush (v := (-2)) C dX9_exchange_29 (by decide) ?_
  exact jv_iret C B rfl ⟨by decide, by decide⟩ dX9_exchange_31
theorem in_X9_backwards_9 : ∀ w ∈ u_ws RX9 TX9 46, w ∈ wsX9_backwards := by decide +kernel
set_option maxRecDepth 100000 in
set_option maxHeartbeats 4000000 in
theorem c_X9_backwards (l : Launch) (D : va_G) (kp : Nat → ClassId) {n : Nat} {E : Nat → jv_E} (h58 : E 58 = cx58) (h65 : E 65 = cx65)  : jv_M l D vwCl kp yX9_backwards wsX9_backwards rm2 [] [.ref 58] n E 0 0 (fun r n1 E1 => some (.int (-2)) = r) := by
  refine jv_of (by decide) rfl (Nat.le_of_ble_eq_true rfl) (fun G C B hI hnl => ?_)
  show jv_V l D vwCl kp G 0 0 n E 0 [(0, .ref 58)] []
  refine jv_aload_n C dX9_backwards_0 0 rfl ?_
  refine jv_iconst (v := 0) C dX9_backwards_1 (by decide) ?_
  refine jv_putf (fk := 0) (ty := .int) (fs2 := [.int 0, .ref 59, .ref 60, .ref 61, .ref 62, .ref 63, .int 0, .int 0, .int 0, .int 0, .int 0, .long 0, .int 0, .int 0, .int 0, .int (-1), .ref 64, .ref 65, .ref 66, .ref 67, .ref 68, .ref 69, .ref 70, .ref 71, .ref 72, .ref 73, .int 0, .ref 74, .ref 75, .ref 76, .int 0, .int 0, .ref 77, .ref 78, .ref 79, .int 0, .int 0, .int 0, .ref 80, .ref 81, .ref 82, .long 0, .ref 83, .int 0, .int 0, .int 0]) C (by decide) h58 rfl in_X9_backwards_9 tyX9 tyX9_ok nmX9 (by decide) (by decide +kernel) rfl rfl rfl (fun _ => rfl) (fun _ => rfl) (Nat.le_of_ble_eq_true rfl) dX9_backwards_2 rfl ?_
  refine jv_aload_n C dX9_backwards_5 0 rfl ?_
  refine jv_callV (na := 0) (As := []) (st := []) C (c_X9_isCity l D kp (va_up_self _ _ _) (jv_n (by decide) h65) ) gX9_backwards_X9_isCity rfl (by decide) (va_up_self _ _ _) rfl rfl rfl q_X9_isCity rfl ⟨by decide, by decide⟩ ⟨by decide, by decide⟩ (fun _ h => absurd h List.not_mem_nil) (Nat.le_of_ble_eq_true rfl) rfl dX9_backwards_6 (fun r n1 E_1 hp _ => ?_)
  obtain ⟨rfl, rfl, rfl⟩ := hp
  show jv_V l D vwCl kp G 0 0 n (va_up E 58 (.inr (9, [.int 0, .ref 59, .ref 60, .ref 61, .ref 62, .ref 63, .int 0, .int 0, .int 0, .int 0, .int 0, .long 0, .int 0, .int 0, .int 0, .int (-1), .ref 64, .ref 65, .ref 66, .ref 67, .ref 68, .ref 69, .ref 70, .ref 71, .ref 72, .ref 73, .int 0, .ref 74, .ref 75, .ref 76, .int 0, .int 0, .ref 77, .ref 78, .ref 79, .int 0, .int 0, .int 0, .ref 80, .ref 81, .ref 82, .long 0, .ref 83, .int 0, .int 0, .int 0]))) 9 [(0, .ref 58)] [.int 0]
  refine jv_if_ne (tgt := 15) C dX9_backwards_9 (by decide) (fun h => absurd h (by decide)) (fun _ => ?_)
  refine jv_bipush (v := (-2)) C dX9_backwards_12 (by decide) ?_
  exact jv_iret C B rfl ⟨by decide, by decide⟩ dX9_backwards_14
theorem in_X9_ground_9 : ∀ w ∈ u_ws RX9 TX9 46, w ∈ wsX9_ground := by decide +kernel
set_option maxRecDepth 100000 in
set_option maxHeartbeats 4000000 in
theorem c_X9_ground (l : Launch) (D : va_G) (kp : Nat → ClassId) {n : Nat} {E : Nat → jv_E} (h58 : E 58 = cx58) (h65 : E 65 = cx65) (p1 : Int32) (p2 : Int32) : jv_M l D vwCl kp yX9_ground wsX9_ground rm4 [] [.ref 58, .int p1, .int p2] n E 0 0 (fun r n1 E1 => some (.int (-2)) = r) := by
  refine jv_of (by decide) rfl (Nat.le_of_ble_eq_true rfl) (fun G C B hI hnl => ?_)
  show jv_V l D vwCl kp G 0 0 n E 0 [(0, .ref 58), (1, .int p1), (2, .int p2)] []
  refine jv_aload_n C dX9_ground_0 0 rfl ?_
  refine jv_iconst (v := 0) C dX9_ground_1 (by decide) ?_
  refine jv_putf (fk := 0) (ty := .int) (fs2 := [.int 0, .ref 59, .ref 60, .ref 61, .ref 62, .ref 63, .int 0, .int 0, .int 0, .int 0, .int 0, .long 0, .int 0, .int 0, .int 0, .int (-1), .ref 64, .ref 65, .ref 66, .ref 67, .ref 68, .ref 69, .ref 70, .ref 71, .ref 72, .ref 73, .int 0, .ref 74, .ref 75, .ref 76, .int 0, .int 0, .ref 77, .ref 78, .ref 79, .int 0, .int 0, .int 0, .ref 80, .ref 81, .ref 82, .long 0, .ref 83, .int 0, .int 0, .int 0]) C (by decide) h58 rfl in_X9_ground_9 tyX9 tyX9_ok nmX9 (by decide) (by decide +kernel) rfl rfl rfl (fun _ => rfl) (fun _ => rfl) (Nat.le_of_ble_eq_true rfl) dX9_ground_2 rfl ?_
  refine jv_aload_n C dX9_ground_5 0 rfl ?_
  refine jv_iload_n C dX9_ground_6 1 rfl ?_
  refine jv_iload_n C dX9_ground_7 2 rfl ?_
  refine jv_callV (na := 2) (As := [.int p1, .int p2]) (st := []) C (c_X9_isThrow l D kp (va_up_self _ _ _) (jv_n (by decide) h65) p1 p2) gX9_ground_X9_isThrow rfl (by decide) (va_up_self _ _ _) rfl rfl rfl q_X9_isThrow rfl ⟨by decide, by decide⟩ ⟨by decide, by decide⟩ (fun _ h => absurd h List.not_mem_nil) (Nat.le_of_ble_eq_true rfl) rfl dX9_ground_8 (fun r n1 E_1 hp _ => ?_)
  obtain ⟨rfl, rfl, rfl⟩ := hp
  show jv_V l D vwCl kp G 0 0 n (va_up E 58 (.inr (9, [.int 0, .ref 59, .ref 60, .ref 61, .ref 62, .ref 63, .int 0, .int 0, .int 0, .int 0, .int 0, .long 0, .int 0, .int 0, .int 0, .int (-1), .ref 64, .ref 65, .ref 66, .ref 67, .ref 68, .ref 69, .ref 70, .ref 71, .ref 72, .ref 73, .int 0, .ref 74, .ref 75, .ref 76, .int 0, .int 0, .ref 77, .ref 78, .ref 79, .int 0, .int 0, .int 0, .ref 80, .ref 81, .ref 82, .long 0, .ref 83, .int 0, .int 0, .int 0]))) 11 [(0, .ref 58), (1, .int p1), (2, .int p2)] [.int 0]
  refine jv_if_ne (tgt := 17) C dX9_ground_11 (by decide) (fun h => absurd h (by decide)) (fun _ => ?_)
  refine jv_bipush (v := (-2)) C dX9_ground_14 (by decide) ?_
  exact jv_iret C B rfl ⟨by decide, by decide⟩ dX9_ground_16
theorem in_X9_latest_9 : ∀ w ∈ u_ws RX9 TX9 46, w ∈ wsX9_latest := by decide +kernel
set_option maxRecDepth 100000 in
set_option maxHeartbeats 4000000 in
theorem c_X9_latest (l : Launch) (D : va_G) (kp : Nat → ClassId) {n : Nat} {E : Nat → jv_E} (h58 : E 58 = cx58) (h65 : E 65 = cx65) (h70 : E 70 = cx70) (p1 : Int32) (p2 : Int32) : jv_M l D vwCl kp yX9_latest wsX9_latest rm3 [] [.ref 58, .int p1, .int p2] n E 0 0 (fun r n1 E1 => some (.int (-2)) = r) := by
  refine jv_of (by decide) rfl (Nat.le_of_ble_eq_true rfl) (fun G C B hI hnl => ?_)
  show jv_V l D vwCl kp G 0 0 n E 0 [(0, .ref 58), (1, .int p1), (2, .int p2)] []
  refine jv_aload_n C dX9_latest_0 0 rfl ?_
  refine jv_iconst (v := 0) C dX9_latest_1 (by decide) ?_
  refine jv_putf (fk := 0) (ty := .int) (fs2 := [.int 0, .ref 59, .ref 60, .ref 61, .ref 62, .ref 63, .int 0, .int 0, .int 0, .int 0, .int 0, .long 0, .int 0, .int 0, .int 0, .int (-1), .ref 64, .ref 65, .ref 66, .ref 67, .ref 68, .ref 69, .ref 70, .ref 71, .ref 72, .ref 73, .int 0, .ref 74, .ref 75, .ref 76, .int 0, .int 0, .ref 77, .ref 78, .ref 79, .int 0, .int 0, .int 0, .ref 80, .ref 81, .ref 82, .long 0, .ref 83, .int 0, .int 0, .int 0]) C (by decide) h58 rfl in_X9_latest_9 tyX9 tyX9_ok nmX9 (by decide) (by decide +kernel) rfl rfl rfl (fun _ => rfl) (fun _ => rfl) (Nat.le_of_ble_eq_true rfl) dX9_latest_2 rfl ?_
  refine jv_aload_n C dX9_latest_5 0 rfl ?_
  refine jv_iload_n C dX9_latest_6 1 rfl ?_
  refine jv_callV (na := 1) (As := [.int p1]) (st := []) C (c_X9_isLetter l D kp (va_up_self _ _ _) (jv_n (by decide) h70) p1) gX9_latest_X9_isLetter rfl (by decide) (va_up_self _ _ _) rfl rfl rfl q_X9_isLetter rfl ⟨by decide, by decide⟩ ⟨by decide, by decide⟩ (fun _ h => absurd h List.not_mem_nil) (Nat.le_of_ble_eq_true rfl) rfl dX9_latest_7 (fun r n1 E_1 hp _ => ?_)
  obtain ⟨rfl, rfl, rfl⟩ := hp
  show jv_V l D vwCl kp G 0 0 n (va_up E 58 (.inr (9, [.int 0, .ref 59, .ref 60, .ref 61, .ref 62, .ref 63, .int 0, .int 0, .int 0, .int 0, .int 0, .long 0, .int 0, .int 0, .int 0, .int (-1), .ref 64, .ref 65, .ref 66, .ref 67, .ref 68, .ref 69, .ref 70, .ref 71, .ref 72, .ref 73, .int 0, .ref 74, .ref 75, .ref 76, .int 0, .int 0, .ref 77, .ref 78, .ref 79, .int 0, .int 0, .int 0, .ref 80, .ref 81, .ref 82, .long 0, .ref 83, .int 0, .int 0, .int 0]))) 10 [(0, .ref 58), (1, .int p1), (2, .int p2)] [.int 0]
  refine jv_if_eq (tgt := 20) C dX9_latest_10 (by decide) (fun _ => ?_) (fun h => absurd (by decide) h)
  refine jv_bipush (v := (-2)) C dX9_latest_20 (by decide) ?_
  exact jv_iret C B rfl ⟨by decide, by decide⟩ dX9_latest_22
theorem in_X9_busiest_9 : ∀ w ∈ u_ws RX9 TX9 46, w ∈ wsX9_busiest := by decide +kernel
set_option maxRecDepth 100000 in
set_option maxHeartbeats 4000000 in
theorem c_X9_busiest (l : Launch) (D : va_G) (kp : Nat → ClassId) {n : Nat} {E : Nat → jv_E} (h58 : E 58 = cx58) (h65 : E 65 = cx65) (p1 : Int32) : jv_M l D vwCl kp yX9_busiest wsX9_busiest rm2 [] [.ref 58, .int p1] n E 0 0 (fun r n1 E1 => some (.int (-2)) = r) := by
  refine jv_of (by decide) rfl (Nat.le_of_ble_eq_true rfl) (fun G C B hI hnl => ?_)
  show jv_V l D vwCl kp G 0 0 n E 0 [(0, .ref 58), (1, .int p1)] []
  refine jv_aload_n C dX9_busiest_0 0 rfl ?_
  refine jv_iconst (v := 0) C dX9_busiest_1 (by decide) ?_
  refine jv_putf (fk := 0) (ty := .int) (fs2 := [.int 0, .ref 59, .ref 60, .ref 61, .ref 62, .ref 63, .int 0, .int 0, .int 0, .int 0, .int 0, .long 0, .int 0, .int 0, .int 0, .int (-1), .ref 64, .ref 65, .ref 66, .ref 67, .ref 68, .ref 69, .ref 70, .ref 71, .ref 72, .ref 73, .int 0, .ref 74, .ref 75, .ref 76, .int 0, .int 0, .ref 77, .ref 78, .ref 79, .int 0, .int 0, .int 0, .ref 80, .ref 81, .ref 82, .long 0, .ref 83, .int 0, .int 0, .int 0]) C (by decide) h58 rfl in_X9_busiest_9 tyX9 tyX9_ok nmX9 (by decide) (by decide +kernel) rfl rfl rfl (fun _ => rfl) (fun _ => rfl) (Nat.le_of_ble_eq_true rfl) dX9_busiest_2 rfl ?_
  refine jv_aload_n C dX9_busiest_5 0 rfl ?_
  refine jv_callV (na := 0) (As := []) (st := []) C (c_X9_isCity l D kp (va_up_self _ _ _) (jv_n (by decide) h65) ) gX9_busiest_X9_isCity rfl (by decide) (va_up_self _ _ _) rfl rfl rfl q_X9_isCity rfl ⟨by decide, by decide⟩ ⟨by decide, by decide⟩ (fun _ h => absurd h List.not_mem_nil) (Nat.le_of_ble_eq_true rfl) rfl dX9_busiest_6 (fun r n1 E_1 hp _ => ?_)
  obtain ⟨rfl, rfl, rfl⟩ := hp
  show jv_V l D vwCl kp G 0 0 n (va_up E 58 (.inr (9, [.int 0, .ref 59, .ref 60, .ref 61, .ref 62, .ref 63, .int 0, .int 0, .int 0, .int 0, .int 0, .long 0, .int 0, .int 0, .int 0, .int (-1), .ref 64, .ref 65, .ref 66, .ref 67, .ref 68, .ref 69, .ref 70, .ref 71, .ref 72, .ref 73, .int 0, .ref 74, .ref 75, .ref 76, .int 0, .int 0, .ref 77, .ref 78, .ref 79, .int 0, .int 0, .int 0, .ref 80, .ref 81, .ref 82, .long 0, .ref 83, .int 0, .int 0, .int 0]))) 9 [(0, .ref 58), (1, .int p1)] [.int 0]
  refine jv_if_eq (tgt := 22) C dX9_busiest_9 (by decide) (fun _ => ?_) (fun h => absurd (by decide) h)
  refine jv_bipush (v := (-2)) C dX9_busiest_22 (by decide) ?_
  exact jv_iret C B rfl ⟨by decide, by decide⟩ dX9_busiest_24
theorem in_X9_silent_9 : ∀ w ∈ u_ws RX9 TX9 46, w ∈ wsX9_silent := by decide +kernel
set_option maxRecDepth 100000 in
set_option maxHeartbeats 4000000 in
theorem c_X9_silent (l : Launch) (D : va_G) (kp : Nat → ClassId) {n : Nat} {E : Nat → jv_E} (h58 : E 58 = cx58) (h65 : E 65 = cx65) (p1 : Int32) : jv_M l D vwCl kp yX9_silent wsX9_silent rm3 [] [.ref 58, .int p1] n E 0 0 (fun r n1 E1 => some (.int (-2)) = r) := by
  refine jv_of (by decide) rfl (Nat.le_of_ble_eq_true rfl) (fun G C B hI hnl => ?_)
  show jv_V l D vwCl kp G 0 0 n E 0 [(0, .ref 58), (1, .int p1)] []
  refine jv_aload_n C dX9_silent_0 0 rfl ?_
  refine jv_iconst (v := 0) C dX9_silent_1 (by decide) ?_
  refine jv_putf (fk := 0) (ty := .int) (fs2 := [.int 0, .ref 59, .ref 60, .ref 61, .ref 62, .ref 63, .int 0, .int 0, .int 0, .int 0, .int 0, .long 0, .int 0, .int 0, .int 0, .int (-1), .ref 64, .ref 65, .ref 66, .ref 67, .ref 68, .ref 69, .ref 70, .ref 71, .ref 72, .ref 73, .int 0, .ref 74, .ref 75, .ref 76, .int 0, .int 0, .ref 77, .ref 78, .ref 79, .int 0, .int 0, .int 0, .ref 80, .ref 81, .ref 82, .long 0, .ref 83, .int 0, .int 0, .int 0]) C (by decide) h58 rfl in_X9_silent_9 tyX9 tyX9_ok nmX9 (by decide) (by decide +kernel) rfl rfl rfl (fun _ => rfl) (fun _ => rfl) (Nat.le_of_ble_eq_true rfl) dX9_silent_2 rfl ?_
  refine jv_aload_n C dX9_silent_5 0 rfl ?_
  refine jv_iload_n C dX9_silent_6 1 rfl ?_
  refine jv_callV (na := 1) (As := [.int p1]) (st := []) C (c_X9_isRoof l D kp (va_up_self _ _ _) (jv_n (by decide) h65) p1) gX9_silent_X9_isRoof rfl (by decide) (va_up_self _ _ _) rfl rfl rfl q_X9_isRoof rfl ⟨by decide, by decide⟩ ⟨by decide, by decide⟩ (fun _ h => absurd h List.not_mem_nil) (Nat.le_of_ble_eq_true rfl) rfl dX9_silent_7 (fun r n1 E_1 hp _ => ?_)
  obtain ⟨rfl, rfl, rfl⟩ := hp
  show jv_V l D vwCl kp G 0 0 n (va_up E 58 (.inr (9, [.int 0, .ref 59, .ref 60, .ref 61, .ref 62, .ref 63, .int 0, .int 0, .int 0, .int 0, .int 0, .long 0, .int 0, .int 0, .int 0, .int (-1), .ref 64, .ref 65, .ref 66, .ref 67, .ref 68, .ref 69, .ref 70, .ref 71, .ref 72, .ref 73, .int 0, .ref 74, .ref 75, .ref 76, .int 0, .int 0, .ref 77, .ref 78, .ref 79, .int 0, .int 0, .int 0, .ref 80, .ref 81, .ref 82, .long 0, .ref 83, .int 0, .int 0, .int 0]))) 10 [(0, .ref 58), (1, .int p1)] [.int 0]
  refine jv_if_ne (tgt := 16) C dX9_silent_10 (by decide) (fun h => absurd h (by decide)) (fun _ => ?_)
  refine jv_bipush (v := (-2)) C dX9_silent_13 (by decide) ?_
  exact jv_iret C B rfl ⟨by decide, by decide⟩ dX9_silent_15
theorem q_X9_isGust : yX9_isGust.cls ≠ "java/lang/invoke/MethodHandle" ∧ yX9_isGust.cls ≠ "java/lang/invoke/VarHandle" ∧ (parseMethodDescriptor yX9_isGust.desc).map (fun d => d.parameters.length) = some 2 := by decide +kernel
theorem in_X9_gusts_9 : ∀ w ∈ u_ws RX9 TX9 46, w ∈ wsX9_gusts := by decide +kernel
set_option maxRecDepth 100000 in
set_option maxHeartbeats 4000000 in
theorem c_X9_gusts (l : Launch) (D : va_G) (kp : Nat → ClassId) {n : Nat} {E : Nat → jv_E} (h58 : E 58 = cx58) (h65 : E 65 = cx65) (p1 : Int32) (p2 : Int32) (p3 : Int32) : jv_M l D vwCl kp yX9_gusts wsX9_gusts rm3 [] [.ref 58, .int p1, .int p2, .int p3] n E 0 0 (fun r n1 E1 => some (.int (-2)) = r) := by
  refine jv_of (by decide) rfl (Nat.le_of_ble_eq_true rfl) (fun G C B hI hnl => ?_)
  show jv_V l D vwCl kp G 0 0 n E 0 [(0, .ref 58), (1, .int p1), (2, .int p2), (3, .int p3)] []
  refine jv_aload_n C dX9_gusts_0 0 rfl ?_
  refine jv_iconst (v := 0) C dX9_gusts_1 (by decide) ?_
  refine jv_putf (fk := 0) (ty := .int) (fs2 := [.int 0, .ref 59, .ref 60, .ref 61, .ref 62, .ref 63, .int 0, .int 0, .int 0, .int 0, .int 0, .long 0, .int 0, .int 0, .int 0, .int (-1), .ref 64, .ref 65, .ref 66, .ref 67, .ref 68, .ref 69, .ref 70, .ref 71, .ref 72, .ref 73, .int 0, .ref 74, .ref 75, .ref 76, .int 0, .int 0, .ref 77, .ref 78, .ref 79, .int 0, .int 0, .int 0, .ref 80, .ref 81, .ref 82, .long 0, .ref 83, .int 0, .int 0, .int 0]) C (by decide) h58 rfl in_X9_gusts_9 tyX9 tyX9_ok nmX9 (by decide) (by decide +kernel) rfl rfl rfl (fun _ => rfl) (fun _ => rfl) (Nat.le_of_ble_eq_true rfl) dX9_gusts_2 rfl ?_
  refine jv_aload_n C dX9_gusts_5 0 rfl ?_
  refine jv_iload_n C dX9_gusts_6 1 rfl ?_
  refine jv_iload_n C dX9_gusts_7 2 rfl ?_
  refine jv_callV (na := 2) (As := [.int p1, .int p2]) (st := []) C (c_X9_isGust l D kp (va_up_self _ _ _) (jv_n (by decide) h65) p1 p2) gX9_gusts_X9_isGust rfl (by decide) (va_up_self _ _ _) rfl rfl rfl q_X9_isGust rfl ⟨by decide, by decide⟩ ⟨by decide, by decide⟩ (fun _ h => absurd h List.not_mem_nil) (Nat.le_of_ble_eq_true rfl) rfl dX9_gusts_8 (fun r n1 E_1 hp _ => ?_)
  obtain ⟨rfl, rfl, rfl⟩ := hp
  show jv_V l D vwCl kp G 0 0 n (va_up E 58 (.inr (9, [.int 0, .ref 59, .ref 60, .ref 61, .ref 62, .ref 63, .int 0, .int 0, .int 0, .int 0, .int 0, .long 0, .int 0, .int 0, .int 0, .int (-1), .ref 64, .ref 65, .ref 66, .ref 67, .ref 68, .ref 69, .ref 70, .ref 71, .ref 72, .ref 73, .int 0, .ref 74, .ref 75, .ref 76, .int 0, .int 0, .ref 77, .ref 78, .ref 79, .int 0, .int 0, .int 0, .ref 80, .ref 81, .ref 82, .long 0, .ref 83, .int 0, .int 0, .int 0]))) 11 [(0, .ref 58), (1, .int p1), (2, .int p2), (3, .int p3)] [.int 0]
  refine jv_if_eq (tgt := 26) C dX9_gusts_11 (by decide) (fun _ => ?_) (fun h => absurd (by decide) h)
  refine jv_bipush (v := (-2)) C dX9_gusts_26 (by decide) ?_
  exact jv_iret C B rfl ⟨by decide, by decide⟩ dX9_gusts_28
theorem in_X9_years_9 : ∀ w ∈ u_ws RX9 TX9 46, w ∈ wsX9_years := by decide +kernel
set_option maxRecDepth 100000 in
set_option maxHeartbeats 4000000 in
theorem c_X9_years (l : Launch) (D : va_G) (kp : Nat → ClassId) {n : Nat} {E : Nat → jv_E} (h58 : E 58 = cx58) (h65 : E 65 = cx65) (p1 : Int32) (p2 : Int32) (p3 : Int32) : jv_M l D vwCl kp yX9_years wsX9_years rm3 [] [.ref 58, .int p1, .int p2, .int p3] n E 0 0 (fun r n1 E1 => some (.int (-2)) = r) := by
  refine jv_of (by decide) rfl (Nat.le_of_ble_eq_true rfl) (fun G C B hI hnl => ?_)
  show jv_V l D vwCl kp G 0 0 n E 0 [(0, .ref 58), (1, .int p1), (2, .int p2), (3, .int p3)] []
  refine jv_aload_n C dX9_years_0 0 rfl ?_
  refine jv_iconst (v := 0) C dX9_years_1 (by decide) ?_
  refine jv_putf (fk := 0) (ty := .int) (fs2 := [.int 0, .ref 59, .ref 60, .ref 61, .ref 62, .ref 63, .int 0, .int 0, .int 0, .int 0, .int 0, .long 0, .int 0, .int 0, .int 0, .int (-1), .ref 64, .ref 65, .ref 66, .ref 67, .ref 68, .ref 69, .ref 70, .ref 71, .ref 72, .ref 73, .int 0, .ref 74, .ref 75, .ref 76, .int 0, .int 0, .ref 77, .ref 78, .ref 79, .int 0, .int 0, .int 0, .ref 80, .ref 81, .ref 82, .long 0, .ref 83, .int 0, .int 0, .int 0]) C (by decide) h58 rfl in_X9_years_9 tyX9 tyX9_ok nmX9 (by decide) (by decide +kernel) rfl rfl rfl (fun _ => rfl) (fun _ => rfl) (Nat.le_of_ble_eq_true rfl) dX9_years_2 rfl ?_
  refine jv_aload_n C dX9_years_5 0 rfl ?_
  refine jv_iload_n C dX9_years_6 1 rfl ?_
  refine jv_iload_n C dX9_years_7 3 rfl ?_
  refine jv_callV (na := 2) (As := [.int p1, .int p3]) (st := []) C (c_X9_isGust l D kp (va_up_self _ _ _) (jv_n (by decide) h65) p1 p3) gX9_years_X9_isGust rfl (by decide) (va_up_self _ _ _) rfl rfl rfl q_X9_isGust rfl ⟨by decide, by decide⟩ ⟨by decide, by decide⟩ (fun _ h => absurd h List.not_mem_nil) (Nat.le_of_ble_eq_true rfl) rfl dX9_years_8 (fun r n1 E_1 hp _ => ?_)
  obtain ⟨rfl, rfl, rfl⟩ := hp
  show jv_V l D vwCl kp G 0 0 n (va_up E 58 (.inr (9, [.int 0, .ref 59, .ref 60, .ref 61, .ref 62, .ref 63, .int 0, .int 0, .int 0, .int 0, .int 0, .long 0, .int 0, .int 0, .int 0, .int (-1), .ref 64, .ref 65, .ref 66, .ref 67, .ref 68, .ref 69, .ref 70, .ref 71, .ref 72, .ref 73, .int 0, .ref 74, .ref 75, .ref 76, .int 0, .int 0, .ref 77, .ref 78, .ref 79, .int 0, .int 0, .int 0, .ref 80, .ref 81, .ref 82, .long 0, .ref 83, .int 0, .int 0, .int 0]))) 11 [(0, .ref 58), (1, .int p1), (2, .int p2), (3, .int p3)] [.int 0]
  refine jv_if_eq (tgt := 26) C dX9_years_11 (by decide) (fun _ => ?_) (fun h => absurd (by decide) h)
  refine jv_bipush (v := (-2)) C dX9_years_26 (by decide) ?_
  exact jv_iret C B rfl ⟨by decide, by decide⟩ dX9_years_28
theorem q_X9_whyNot : yX9_whyNot.cls ≠ "java/lang/invoke/MethodHandle" ∧ yX9_whyNot.cls ≠ "java/lang/invoke/VarHandle" ∧ (parseMethodDescriptor yX9_whyNot.desc).map (fun d => d.parameters.length) = some 2 := by decide +kernel
theorem in_X9_judge_9 : ∀ w ∈ u_ws RX9 TX9 46, w ∈ wsX9_judge := by decide +kernel
set_option maxRecDepth 100000 in
set_option maxHeartbeats 4000000 in
theorem c_X9_judge (l : Launch) (D : va_G) (kp : Nat → ClassId) {n : Nat} {E : Nat → jv_E} (h58 : E 58 = cx58) (h65 : E 65 = cx65) (p1 : Int32) (p2 : Int32) : jv_M l D vwCl kp yX9_judge wsX9_judge rm4 [] [.ref 58, .int p1, .int p2] n E 0 0 (fun r n1 E1 => some (.int (-2)) = r) := by
  refine jv_of (by decide) rfl (Nat.le_of_ble_eq_true rfl) (fun G C B hI hnl => ?_)
  show jv_V l D vwCl kp G 0 0 n E 0 [(0, .ref 58), (1, .int p1), (2, .int p2)] []
  refine jv_aload_n C dX9_judge_0 0 rfl ?_
  refine jv_iconst (v := 0) C dX9_judge_1 (by decide) ?_
  refine jv_putf (fk := 0) (ty := .int) (fs2 := [.int 0, .ref 59, .ref 60, .ref 61, .ref 62, .ref 63, .int 0, .int 0, .int 0, .int 0, .int 0, .long 0, .int 0, .int 0, .int 0, .int (-1), .ref 64, .ref 65, .ref 66, .ref 67, .ref 68, .ref 69, .ref 70, .ref 71, .ref 72, .ref 73, .int 0, .ref 74, .ref 75, .ref 76, .int 0, .int 0, .ref 77, .ref 78, .ref 79, .int 0, .int 0, .int 0, .ref 80, .ref 81, .ref 82, .long 0, .ref 83, .int 0, .int 0, .int 0]) C (by decide) h58 rfl in_X9_judge_9 tyX9 tyX9_ok nmX9 (by decide) (by decide +kernel) rfl rfl rfl (fun _ => rfl) (fun _ => rfl) (Nat.le_of_ble_eq_true rfl) dX9_judge_2 rfl ?_
  refine jv_aload_n C dX9_judge_5 0 rfl ?_
  refine jv_iload_n C dX9_judge_6 1 rfl ?_
  refine jv_iload_n C dX9_judge_7 2 rfl ?_
  refine jv_callV (na := 2) (As := [.int p1, .int p2]) (st := []) C (c_X9_whyNot l D kp (va_up_self _ _ _) (jv_n (by decide) h65) p1 p2) gX9_judge_X9_whyNot rfl (by decide) (va_up_self _ _ _) rfl rfl rfl q_X9_whyNot rfl ⟨by decide, by decide⟩ ⟨by decide, by decide⟩ (fun _ h => absurd h List.not_mem_nil) (Nat.le_of_ble_eq_true rfl) rfl dX9_judge_8 (fun r n1 E_1 hp _ => ?_)
  obtain ⟨rfl, rfl, rfl⟩ := hp
  show jv_V l D vwCl kp G 0 0 n (va_up E 58 (.inr (9, [.int 0, .ref 59, .ref 60, .ref 61, .ref 62, .ref 63, .int 0, .int 0, .int 0, .int 0, .int 0, .long 0, .int 0, .int 0, .int 0, .int (-1), .ref 64, .ref 65, .ref 66, .ref 67, .ref 68, .ref 69, .ref 70, .ref 71, .ref 72, .ref 73, .int 0, .ref 74, .ref 75, .ref 76, .int 0, .int 0, .ref 77, .ref 78, .ref 79, .int 0, .int 0, .int 0, .ref 80, .ref 81, .ref 82, .long 0, .ref 83, .int 0, .int 0, .int 0]))) 11 [(0, .ref 58), (1, .int p1), (2, .int p2)] [.int (-2)]
  refine jv_istore_n (lv2 := [(3, .int (-2)), (0, .ref 58), (1, .int p1), (2, .int p2)]) C dX9_judge_11 rfl hnl (by decide) rfl ?_
  refine jv_iload_n C dX9_judge_12 0 rfl ?_
  refine jv_if_eq (tgt := 18) C dX9_judge_13 (by decide) (fun h => absurd h (by decide)) (fun _ => ?_)
  refine jv_iload_n C dX9_judge_16 0 rfl ?_
  exact jv_iret C B rfl ⟨by decide, by decide⟩ dX9_judge_17
theorem in_X9_takes__9 : ∀ w ∈ u_ws RX9 TX9 46, w ∈ wsX9_takes_ := by decide +kernel
set_option maxRecDepth 100000 in
set_option maxHeartbeats 4000000 in
theorem c_X9_takes_ (l : Launch) (D : va_G) (kp : Nat → ClassId) {n : Nat} {E : Nat → jv_E} (h58 : E 58 = cx58) (h65 : E 65 = cx65) (p1 : Int32) (p2 : Int32) : jv_M l D vwCl kp yX9_takes_ wsX9_takes_ rm4 [] [.ref 58, .int p1, .int p2] n E 0 0 (fun r n1 E1 => some (.int (-2)) = r) := by
  refine jv_of (by decide) rfl (Nat.le_of_ble_eq_true rfl) (fun G C B hI hnl => ?_)
  show jv_V l D vwCl kp G 0 0 n E 0 [(0, .ref 58), (1, .int p1), (2, .int p2)] []
  refine jv_aload_n C dX9_takes__0 0 rfl ?_
  refine jv_iconst (v := 0) C dX9_takes__1 (by decide) ?_
  refine jv_putf (fk := 0) (ty := .int) (fs2 := [.int 0, .ref 59, .ref 60, .ref 61, .ref 62, .ref 63, .int 0, .int 0, .int 0, .int 0, .int 0, .long 0, .int 0, .int 0, .int 0, .int (-1), .ref 64, .ref 65, .ref 66, .ref 67, .ref 68, .ref 69, .ref 70, .ref 71, .ref 72, .ref 73, .int 0, .ref 74, .ref 75, .ref 76, .int 0, .int 0, .ref 77, .ref 78, .ref 79, .int 0, .int 0, .int 0, .ref 80, .ref 81, .ref 82, .long 0, .ref 83, .int 0, .int 0, .int 0]) C (by decide) h58 rfl in_X9_takes__9 tyX9 tyX9_ok nmX9 (by decide) (by decide +kernel) rfl rfl rfl (fun _ => rfl) (fun _ => rfl) (Nat.le_of_ble_eq_true rfl) dX9_takes__2 rfl ?_
  refine jv_aload_n C dX9_takes__5 0 rfl ?_
  refine jv_iload_n C dX9_takes__6 1 rfl ?_
  refine jv_iload_n C dX9_takes__7 2 rfl ?_
  refine jv_callV (na := 2) (As := [.int p1, .int p2]) (st := []) C (c_X9_whyNot l D kp (va_up_self _ _ _) (jv_n (by decide) h65) p1 p2) gX9_takes__X9_whyNot rfl (by decide) (va_up_self _ _ _) rfl rfl rfl q_X9_whyNot rfl ⟨by decide, by decide⟩ ⟨by decide, by decide⟩ (fun _ h => absurd h List.not_mem_nil) (Nat.le_of_ble_eq_true rfl) rfl dX9_takes__8 (fun r n1 E_1 hp _ => ?_)
  obtain ⟨rfl, rfl, rfl⟩ := hp
  show jv_V l D vwCl kp G 0 0 n (va_up E 58 (.inr (9, [.int 0, .ref 59, .ref 60, .ref 61, .ref 62, .ref 63, .int 0, .int 0, .int 0, .int 0, .int 0, .long 0, .int 0, .int 0, .int 0, .int (-1), .ref 64, .ref 65, .ref 66, .ref 67, .ref 68, .ref 69, .ref 70, .ref 71, .ref 72, .ref 73, .int 0, .ref 74, .ref 75, .ref 76, .int 0, .int 0, .ref 77, .ref 78, .ref 79, .int 0, .int 0, .int 0, .ref 80, .ref 81, .ref 82, .long 0, .ref 83, .int 0, .int 0, .int 0]))) 11 [(0, .ref 58), (1, .int p1), (2, .int p2)] [.int (-2)]
  refine jv_istore_n (lv2 := [(3, .int (-2)), (0, .ref 58), (1, .int p1), (2, .int p2)]) C dX9_takes__11 rfl hnl (by decide) rfl ?_
  refine jv_iload_n C dX9_takes__12 0 rfl ?_
  refine jv_if_eq (tgt := 18) C dX9_takes__13 (by decide) (fun h => absurd h (by decide)) (fun _ => ?_)
  refine jv_iload_n C dX9_takes__16 0 rfl ?_
  exact jv_iret C B rfl ⟨by decide, by decide⟩ dX9_takes__17
theorem in_X9_wages_9 : ∀ w ∈ u_ws RX9 TX9 46, w ∈ wsX9_wages := by decide +kernel
set_option maxRecDepth 100000 in
set_option maxHeartbeats 4000000 in
theorem c_X9_wages (l : Launch) (D : va_G) (kp : Nat → ClassId) {n : Nat} {E : Nat → jv_E} (h58 : E 58 = cx58) (h65 : E 65 = cx65) (p1 : Int32) (p2 : Int32) : jv_M l D vwCl kp yX9_wages wsX9_wages rm3 [] [.ref 58, .int p1, .int p2] n E 0 0 (fun r n1 E1 => some (.long (-2)) = r) := by
  refine jv_of (by decide) rfl (Nat.le_of_ble_eq_true rfl) (fun G C B hI hnl => ?_)
  show jv_V l D vwCl kp G 0 0 n E 0 [(0, .ref 58), (1, .int p1), (2, .int p2)] []
  refine jv_aload_n C dX9_wages_0 0 rfl ?_
  refine jv_iconst (v := 0) C dX9_wages_1 (by decide) ?_
  refine jv_putf (fk := 0) (ty := .int) (fs2 := [.int 0, .ref 59, .ref 60, .ref 61, .ref 62, .ref 63, .int 0, .int 0, .int 0, .int 0, .int 0, .long 0, .int 0, .int 0, .int 0, .int (-1), .ref 64, .ref 65, .ref 66, .ref 67, .ref 68, .ref 69, .ref 70, .ref 71, .ref 72, .ref 73, .int 0, .ref 74, .ref 75, .ref 76, .int 0, .int 0, .ref 77, .ref 78, .ref 79, .int 0, .int 0, .int 0, .ref 80, .ref 81, .ref 82, .long 0, .ref 83, .int 0, .int 0, .int 0]) C (by decide) h58 rfl in_X9_wages_9 tyX9 tyX9_ok nmX9 (by decide) (by decide +kernel) rfl rfl rfl (fun _ => rfl) (fun _ => rfl) (Nat.le_of_ble_eq_true rfl) dX9_wages_2 rfl ?_
  refine jv_aload_n C dX9_wages_5 0 rfl ?_
  refine jv_iload_n C dX9_wages_6 1 rfl ?_
  refine jv_callV (na := 1) (As := [.int p1]) (st := []) C (c_X9_isRoof l D kp (va_up_self _ _ _) (jv_n (by decide) h65) p1) gX9_wages_X9_isRoof rfl (by decide) (va_up_self _ _ _) rfl rfl rfl q_X9_isRoof rfl ⟨by decide, by decide⟩ ⟨by decide, by decide⟩ (fun _ h => absurd h List.not_mem_nil) (Nat.le_of_ble_eq_true rfl) rfl dX9_wages_7 (fun r n1 E_1 hp _ => ?_)
  obtain ⟨rfl, rfl, rfl⟩ := hp
  show jv_V l D vwCl kp G 0 0 n (va_up E 58 (.inr (9, [.int 0, .ref 59, .ref 60, .ref 61, .ref 62, .ref 63, .int 0, .int 0, .int 0, .int 0, .int 0, .long 0, .int 0, .int 0, .int 0, .int (-1), .ref 64, .ref 65, .ref 66, .ref 67, .ref 68, .ref 69, .ref 70, .ref 71, .ref 72, .ref 73, .int 0, .ref 74, .ref 75, .ref 76, .int 0, .int 0, .ref 77, .ref 78, .ref 79, .int 0, .int 0, .int 0, .ref 80, .ref 81, .ref 82, .long 0, .ref 83, .int 0, .int 0, .int 0]))) 10 [(0, .ref 58), (1, .int p1), (2, .int p2)] [.int 0]
  refine jv_if_eq (tgt := 25) C dX9_wages_10 (by decide) (fun _ => ?_) (fun h => absurd (by decide) h)
  refine jv_ldc2 (v := (-2)) C dX9_wages_25 (by decide +kernel) ?_
  exact jv_lret C B rfl ⟨by decide, by decide⟩ dX9_wages_28
