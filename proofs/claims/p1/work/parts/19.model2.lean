theorem in_X9_four_9 : ∀ w ∈ u_ws RX9 TX9 46, w ∈ wsX9_four := by decide +kernel
set_option maxRecDepth 100000 in
set_option maxHeartbeats 8000000 in
theorem c_X9_four_0 (l : Launch) (D : va_G) (kp : Nat → ClassId) {n : Nat} {E : Nat → jv_E} {g0 : Nat → Int32} (h58 : E 58 = .inr (9, [.int 0, .ref 59, .ref 60, .ref 61, .ref 62, .ref 63, .int 0, .int 0, .int 0, .int 0, .int 0, .long 0, .int 0, .int 0, .int 0, .int (-1), .ref 64, .ref 65, .ref 66, .ref 67, .ref 68, .ref 69, .ref 70, .ref 71, .ref 72, .ref 73, .int 0, .ref 74, .ref 75, .ref 76, .int 0, .int 0, .ref 77, .ref 78, .ref 79, .int 0, .int 0, .int 0, .ref 80, .ref 81, .ref 82, .long 0, .ref 83, .int 0, .int 0, .int 0])) (h63 : E 63 = .inl (1, 1600, .inl g0)) (p1 : Int32) : jv_M l D vwCl kp yX9_four wsX9_four rm1 [] [.ref 58, .int p1] n E 0 0 (fun r n1 E1 => none = r ∧ n = n1 ∧ (∀ j, j ≠ 58 → j ≠ 63 → E1 j = E j) ∧ E1 58 = .inr (9, [.int 0, .ref 59, .ref 60, .ref 61, .ref 62, .ref 63, .int 4, .int 0, .int 0, .int 0, .int 0, .long 0, .int 0, .int 0, .int 0, .int (-1), .ref 64, .ref 65, .ref 66, .ref 67, .ref 68, .ref 69, .ref 70, .ref 71, .ref 72, .ref 73, .int 0, .ref 74, .ref 75, .ref 76, .int 0, .int 0, .ref 77, .ref 78, .ref 79, .int 0, .int 0, .int 0, .ref 80, .ref 81, .ref 82, .long 0, .ref 83, .int 0, .int 0, .int 0]) ∧ (∃ g, E1 63 = .inl (1, 1600, .inl g))) := by
  refine jv_of (by decide) rfl (Nat.le_of_ble_eq_true rfl) (fun G C B hI hnl => ?_)
  show jv_V l D vwCl kp G 0 0 n E 0 [(0, .ref 58), (1, .int p1)] []
  refine jv_bipush (v := 24) C dX9_four_0 (by decide) ?_
  refine jv_istore_n (lv2 := [(2, .int 24), (0, .ref 58), (1, .int p1)]) C dX9_four_2 rfl hnl (by decide) rfl ?_
  refine jv_iload_n C dX9_four_3 0 rfl ?_
  refine jv_if_lt (tgt := 36) C dX9_four_4 (by decide) (fun h => absurd h (by decide)) (fun _ => ?_)
  refine jv_aload_n C dX9_four_7 1 rfl ?_
  refine jv_getf (fk := 5) C (by decide) h58 rfl in_X9_four_9 (by decide) (by decide +kernel) rfl rfl dX9_four_8 ?_
  refine jv_aload_n C dX9_four_11 1 rfl ?_
  refine jv_getf (fk := 6) C (by decide) h58 rfl in_X9_four_9 (by decide) (by decide +kernel) rfl rfl dX9_four_12 ?_
  refine jv_iload_n C dX9_four_15 2 rfl ?_
  refine jv_iload_n C dX9_four_16 0 rfl ?_
  refine jv_ishr C dX9_four_17 ?_
  refine jv_i2b C dX9_four_18 ?_
  refine jv_bast C (by decide) h63 (jv_vi (by decide)) dX9_four_19 ?_
  refine jv_aload_n C dX9_four_20 1 rfl ?_
  refine jv_dup C dX9_four_21 rfl ?_
  refine jv_getf (fk := 6) C (by decide) (jv_n (by decide) h58) rfl in_X9_four_9 (by decide) (by decide +kernel) rfl rfl dX9_four_22 ?_
  refine jv_iconst (v := 1) C dX9_four_25 (by decide) ?_
  refine jv_iadd C dX9_four_26 ?_
  refine jv_ti (y := 1) (by decide) ?_
  refine jv_putf (fk := 6) (ty := .int) (fs2 := [.int 0, .ref 59, .ref 60, .ref 61, .ref 62, .ref 63, .int 1, .int 0, .int 0, .int 0, .int 0, .long 0, .int 0, .int 0, .int 0, .int (-1), .ref 64, .ref 65, .ref 66, .ref 67, .ref 68, .ref 69, .ref 70, .ref 71, .ref 72, .ref 73, .int 0, .ref 74, .ref 75, .ref 76, .int 0, .int 0, .ref 77, .ref 78, .ref 79, .int 0, .int 0, .int 0, .ref 80, .ref 81, .ref 82, .long 0, .ref 83, .int 0, .int 0, .int 0]) C (by decide) (jv_n (by decide) h58) rfl in_X9_four_9 tyX9 tyX9_ok nmX9 (by decide) (by decide +kernel) rfl rfl rfl (fun _ => rfl) (fun _ => rfl) (Nat.le_of_ble_eq_true rfl) dX9_four_27 rfl ?_
  refine jv_iinc (lv2 := [(2, .int 16), (0, .ref 58), (1, .int p1)]) C dX9_four_30 hnl 0 rfl (by decide) (by decide) rfl ?_
  refine jv_goto (tgt := 3) C dX9_four_33 (by decide) ?_
  refine jv_iload_n C dX9_four_3 0 rfl ?_
  refine jv_if_lt (tgt := 36) C dX9_four_4 (by decide) (fun h => absurd h (by decide)) (fun _ => ?_)
  refine jv_aload_n C dX9_four_7 1 rfl ?_
  refine jv_getf (fk := 5) C (by decide) (va_up_self _ _ _) rfl in_X9_four_9 (by decide) (by decide +kernel) rfl rfl dX9_four_8 ?_
  refine jv_aload_n C dX9_four_11 1 rfl ?_
  refine jv_getf (fk := 6) C (by decide) (va_up_self _ _ _) rfl in_X9_four_9 (by decide) (by decide +kernel) rfl rfl dX9_four_12 ?_
  refine jv_iload_n C dX9_four_15 2 rfl ?_
  refine jv_iload_n C dX9_four_16 0 rfl ?_
  refine jv_ishr C dX9_four_17 ?_
  refine jv_i2b C dX9_four_18 ?_
  refine jv_bast C (by decide) (jv_n (by decide) (va_up_self _ _ _)) (jv_vi (by decide)) dX9_four_19 ?_
  refine jv_aload_n C dX9_four_20 1 rfl ?_
  refine jv_dup C dX9_four_21 rfl ?_
  refine jv_getf (fk := 6) C (by decide) (jv_n (by decide) (va_up_self _ _ _)) rfl in_X9_four_9 (by decide) (by decide +kernel) rfl rfl dX9_four_22 ?_
  refine jv_iconst (v := 1) C dX9_four_25 (by decide) ?_
  refine jv_iadd C dX9_four_26 ?_
  refine jv_ti (y := 2) (by decide) ?_
  refine jv_putf (fk := 6) (ty := .int) (fs2 := [.int 0, .ref 59, .ref 60, .ref 61, .ref 62, .ref 63, .int 2, .int 0, .int 0, .int 0, .int 0, .long 0, .int 0, .int 0, .int 0, .int (-1), .ref 64, .ref 65, .ref 66, .ref 67, .ref 68, .ref 69, .ref 70, .ref 71, .ref 72, .ref 73, .int 0, .ref 74, .ref 75, .ref 76, .int 0, .int 0, .ref 77, .ref 78, .ref 79, .int 0, .int 0, .int 0, .ref 80, .ref 81, .ref 82, .long 0, .ref 83, .int 0, .int 0, .int 0]) C (by decide) (jv_n (by decide) (va_up_self _ _ _)) rfl in_X9_four_9 tyX9 tyX9_ok nmX9 (by decide) (by decide +kernel) rfl rfl rfl (fun _ => rfl) (fun _ => rfl) (Nat.le_of_ble_eq_true rfl) dX9_four_27 rfl ?_
  refine jv_iinc (lv2 := [(2, .int 8), (0, .ref 58), (1, .int p1)]) C dX9_four_30 hnl 0 rfl (by decide) (by decide) rfl ?_
  refine jv_goto (tgt := 3) C dX9_four_33 (by decide) ?_
  refine jv_iload_n C dX9_four_3 0 rfl ?_
  refine jv_if_lt (tgt := 36) C dX9_four_4 (by decide) (fun h => absurd h (by decide)) (fun _ => ?_)
  refine jv_aload_n C dX9_four_7 1 rfl ?_
  refine jv_getf (fk := 5) C (by decide) (va_up_self _ _ _) rfl in_X9_four_9 (by decide) (by decide +kernel) rfl rfl dX9_four_8 ?_
  refine jv_aload_n C dX9_four_11 1 rfl ?_
  refine jv_getf (fk := 6) C (by decide) (va_up_self _ _ _) rfl in_X9_four_9 (by decide) (by decide +kernel) rfl rfl dX9_four_12 ?_
  refine jv_iload_n C dX9_four_15 2 rfl ?_
  refine jv_iload_n C dX9_four_16 0 rfl ?_
  refine jv_ishr C dX9_four_17 ?_
  refine jv_i2b C dX9_four_18 ?_
  refine jv_bast C (by decide) (jv_n (by decide) (va_up_self _ _ _)) (jv_vi (by decide)) dX9_four_19 ?_
  refine jv_aload_n C dX9_four_20 1 rfl ?_
  refine jv_dup C dX9_four_21 rfl ?_
  refine jv_getf (fk := 6) C (by decide) (jv_n (by decide) (va_up_self _ _ _)) rfl in_X9_four_9 (by decide) (by decide +kernel) rfl rfl dX9_four_22 ?_
  refine jv_iconst (v := 1) C dX9_four_25 (by decide) ?_
  refine jv_iadd C dX9_four_26 ?_
  refine jv_ti (y := 3) (by decide) ?_
  refine jv_putf (fk := 6) (ty := .int) (fs2 := [.int 0, .ref 59, .ref 60, .ref 61, .ref 62, .ref 63, .int 3, .int 0, .int 0, .int 0, .int 0, .long 0, .int 0, .int 0, .int 0, .int (-1), .ref 64, .ref 65, .ref 66, .ref 67, .ref 68, .ref 69, .ref 70, .ref 71, .ref 72, .ref 73, .int 0, .ref 74, .ref 75, .ref 76, .int 0, .int 0, .ref 77, .ref 78, .ref 79, .int 0, .int 0, .int 0, .ref 80, .ref 81, .ref 82, .long 0, .ref 83, .int 0, .int 0, .int 0]) C (by decide) (jv_n (by decide) (va_up_self _ _ _)) rfl in_X9_four_9 tyX9 tyX9_ok nmX9 (by decide) (by decide +kernel) rfl rfl rfl (fun _ => rfl) (fun _ => rfl) (Nat.le_of_ble_eq_true rfl) dX9_four_27 rfl ?_
  refine jv_iinc (lv2 := [(2, .int 0), (0, .ref 58), (1, .int p1)]) C dX9_four_30 hnl 0 rfl (by decide) (by decide) rfl ?_
  refine jv_goto (tgt := 3) C dX9_four_33 (by decide) ?_
  refine jv_iload_n C dX9_four_3 0 rfl ?_
  refine jv_if_lt (tgt := 36) C dX9_four_4 (by decide) (fun h => absurd h (by decide)) (fun _ => ?_)
  refine jv_aload_n C dX9_four_7 1 rfl ?_
  refine jv_getf (fk := 5) C (by decide) (va_up_self _ _ _) rfl in_X9_four_9 (by decide) (by decide +kernel) rfl rfl dX9_four_8 ?_
  refine jv_aload_n C dX9_four_11 1 rfl ?_
  refine jv_getf (fk := 6) C (by decide) (va_up_self _ _ _) rfl in_X9_four_9 (by decide) (by decide +kernel) rfl rfl dX9_four_12 ?_
  refine jv_iload_n C dX9_four_15 2 rfl ?_
  refine jv_iload_n C dX9_four_16 0 rfl ?_
  refine jv_ishr C dX9_four_17 ?_
  refine jv_i2b C dX9_four_18 ?_
  refine jv_bast C (by decide) (jv_n (by decide) (va_up_self _ _ _)) (jv_vi (by decide)) dX9_four_19 ?_
  refine jv_aload_n C dX9_four_20 1 rfl ?_
  refine jv_dup C dX9_four_21 rfl ?_
  refine jv_getf (fk := 6) C (by decide) (jv_n (by decide) (va_up_self _ _ _)) rfl in_X9_four_9 (by decide) (by decide +kernel) rfl rfl dX9_four_22 ?_
  refine jv_iconst (v := 1) C dX9_four_25 (by decide) ?_
  refine jv_iadd C dX9_four_26 ?_
  refine jv_ti (y := 4) (by decide) ?_
  refine jv_putf (fk := 6) (ty := .int) (fs2 := [.int 0, .ref 59, .ref 60, .ref 61, .ref 62, .ref 63, .int 4, .int 0, .int 0, .int 0, .int 0, .long 0, .int 0, .int 0, .int 0, .int (-1), .ref 64, .ref 65, .ref 66, .ref 67, .ref 68, .ref 69, .ref 70, .ref 71, .ref 72, .ref 73, .int 0, .ref 74, .ref 75, .ref 76, .int 0, .int 0, .ref 77, .ref 78, .ref 79, .int 0, .int 0, .int 0, .ref 80, .ref 81, .ref 82, .long 0, .ref 83, .int 0, .int 0, .int 0]) C (by decide) (jv_n (by decide) (va_up_self _ _ _)) rfl in_X9_four_9 tyX9 tyX9_ok nmX9 (by decide) (by decide +kernel) rfl rfl rfl (fun _ => rfl) (fun _ => rfl) (Nat.le_of_ble_eq_true rfl) dX9_four_27 rfl ?_
  refine jv_iinc (lv2 := [(2, .int (-8)), (0, .ref 58), (1, .int p1)]) C dX9_four_30 hnl 0 rfl (by decide) (by decide) rfl ?_
  refine jv_goto (tgt := 3) C dX9_four_33 (by decide) ?_
  refine jv_iload_n C dX9_four_3 0 rfl ?_
  refine jv_if_lt (tgt := 36) C dX9_four_4 (by decide) (fun _ => ?_) (fun h => absurd (by decide) h)
  exact jv_vret C B ⟨rfl, rfl, fun j g0 g1 => ((va_up_ne _ _ g0).trans ((va_up_ne _ _ g1).trans ((va_up_ne _ _ g0).trans ((va_up_ne _ _ g1).trans ((va_up_ne _ _ g0).trans ((va_up_ne _ _ g1).trans ((va_up_ne _ _ g0).trans (va_up_ne _ _ g1)))))))), (va_up_self _ _ _), ⟨_, (jv_n (by decide) (va_up_self _ _ _))⟩⟩ ⟨by decide, by decide⟩ dX9_four_36
set_option maxRecDepth 100000 in
set_option maxHeartbeats 8000000 in
theorem c_X9_four_4 (l : Launch) (D : va_G) (kp : Nat → ClassId) {n : Nat} {E : Nat → jv_E} {g0 : Nat → Int32} (h58 : E 58 = .inr (9, [.int 0, .ref 59, .ref 60, .ref 61, .ref 62, .ref 63, .int 4, .int 0, .int 0, .int 0, .int 0, .long 0, .int 0, .int 0, .int 0, .int (-1), .ref 64, .ref 65, .ref 66, .ref 67, .ref 68, .ref 69, .ref 70, .ref 71, .ref 72, .ref 73, .int 0, .ref 74, .ref 75, .ref 76, .int 0, .int 0, .ref 77, .ref 78, .ref 79, .int 0, .int 0, .int 0, .ref 80, .ref 81, .ref 82, .long 0, .ref 83, .int 0, .int 0, .int 0])) (h63 : E 63 = .inl (1, 1600, .inl g0)) (p1 : Int32) : jv_M l D vwCl kp yX9_four wsX9_four rm1 [] [.ref 58, .int p1] n E 0 0 (fun r n1 E1 => none = r ∧ n = n1 ∧ (∀ j, j ≠ 58 → j ≠ 63 → E1 j = E j) ∧ E1 58 = .inr (9, [.int 0, .ref 59, .ref 60, .ref 61, .ref 62, .ref 63, .int 8, .int 0, .int 0, .int 0, .int 0, .long 0, .int 0, .int 0, .int 0, .int (-1), .ref 64, .ref 65, .ref 66, .ref 67, .ref 68, .ref 69, .ref 70, .ref 71, .ref 72, .ref 73, .int 0, .ref 74, .ref 75, .ref 76, .int 0, .int 0, .ref 77, .ref 78, .ref 79, .int 0, .int 0, .int 0, .ref 80, .ref 81, .ref 82, .long 0, .ref 83, .int 0, .int 0, .int 0]) ∧ (∃ g, E1 63 = .inl (1, 1600, .inl g))) := by
  refine jv_of (by decide) rfl (Nat.le_of_ble_eq_true rfl) (fun G C B hI hnl => ?_)
  show jv_V l D vwCl kp G 0 0 n E 0 [(0, .ref 58), (1, .int p1)] []
  refine jv_bipush (v := 24) C dX9_four_0 (by decide) ?_
  refine jv_istore_n (lv2 := [(2, .int 24), (0, .ref 58), (1, .int p1)]) C dX9_four_2 rfl hnl (by decide) rfl ?_
  refine jv_iload_n C dX9_four_3 0 rfl ?_
  refine jv_if_lt (tgt := 36) C dX9_four_4 (by decide) (fun h => absurd h (by decide)) (fun _ => ?_)
  refine jv_aload_n C dX9_four_7 1 rfl ?_
  refine jv_getf (fk := 5) C (by decide) h58 rfl in_X9_four_9 (by decide) (by decide +kernel) rfl rfl dX9_four_8 ?_
  refine jv_aload_n C dX9_four_11 1 rfl ?_
  refine jv_getf (fk := 6) C (by decide) h58 rfl in_X9_four_9 (by decide) (by decide +kernel) rfl rfl dX9_four_12 ?_
  refine jv_iload_n C dX9_four_15 2 rfl ?_
  refine jv_iload_n C dX9_four_16 0 rfl ?_
  refine jv_ishr C dX9_four_17 ?_
  refine jv_i2b C dX9_four_18 ?_
  refine jv_bast C (by decide) h63 (jv_vi (by decide)) dX9_four_19 ?_
  refine jv_aload_n C dX9_four_20 1 rfl ?_
  refine jv_dup C dX9_four_21 rfl ?_
  refine jv_getf (fk := 6) C (by decide) (jv_n (by decide) h58) rfl in_X9_four_9 (by decide) (by decide +kernel) rfl rfl dX9_four_22 ?_
  refine jv_iconst (v := 1) C dX9_four_25 (by decide) ?_
  refine jv_iadd C dX9_four_26 ?_
  refine jv_ti (y := 5) (by decide) ?_
  refine jv_putf (fk := 6) (ty := .int) (fs2 := [.int 0, .ref 59, .ref 60, .ref 61, .ref 62, .ref 63, .int 5, .int 0, .int 0, .int 0, .int 0, .long 0, .int 0, .int 0, .int 0, .int (-1), .ref 64, .ref 65, .ref 66, .ref 67, .ref 68, .ref 69, .ref 70, .ref 71, .ref 72, .ref 73, .int 0, .ref 74, .ref 75, .ref 76, .int 0, .int 0, .ref 77, .ref 78, .ref 79, .int 0, .int 0, .int 0, .ref 80, .ref 81, .ref 82, .long 0, .ref 83, .int 0, .int 0, .int 0]) C (by decide) (jv_n (by decide) h58) rfl in_X9_four_9 tyX9 tyX9_ok nmX9 (by decide) (by decide +kernel) rfl rfl rfl (fun _ => rfl) (fun _ => rfl) (Nat.le_of_ble_eq_true rfl) dX9_four_27 rfl ?_
  refine jv_iinc (lv2 := [(2, .int 16), (0, .ref 58), (1, .int p1)]) C dX9_four_30 hnl 0 rfl (by decide) (by decide) rfl ?_
  refine jv_goto (tgt := 3) C dX9_four_33 (by decide) ?_
  refine jv_iload_n C dX9_four_3 0 rfl ?_
  refine jv_if_lt (tgt := 36) C dX9_four_4 (by decide) (fun h => absurd h (by decide)) (fun _ => ?_)
  refine jv_aload_n C dX9_four_7 1 rfl ?_
  refine jv_getf (fk := 5) C (by decide) (va_up_self _ _ _) rfl in_X9_four_9 (by decide) (by decide +kernel) rfl rfl dX9_four_8 ?_
  refine jv_aload_n C dX9_four_11 1 rfl ?_
  refine jv_getf (fk := 6) C (by decide) (va_up_self _ _ _) rfl in_X9_four_9 (by decide) (by decide +kernel) rfl rfl dX9_four_12 ?_
  refine jv_iload_n C dX9_four_15 2 rfl ?_
  refine jv_iload_n C dX9_four_16 0 rfl ?_
  refine jv_ishr C dX9_four_17 ?_
  refine jv_i2b C dX9_four_18 ?_
  refine jv_bast C (by decide) (jv_n (by decide) (va_up_self _ _ _)) (jv_vi (by decide)) dX9_four_19 ?_
  refine jv_aload_n C dX9_four_20 1 rfl ?_
  refine jv_dup C dX9_four_21 rfl ?_
  refine jv_getf (fk := 6) C (by decide) (jv_n (by decide) (va_up_self _ _ _)) rfl in_X9_four_9 (by decide) (by decide +kernel) rfl rfl dX9_four_22 ?_
  refine jv_iconst (v := 1) C dX9_four_25 (by decide) ?_
  refine jv_iadd C dX9_four_26 ?_
  refine jv_ti (y := 6) (by decide) ?_
  refine jv_putf (fk := 6) (ty := .int) (fs2 := [.int 0, .ref 59, .ref 60, .ref 61, .ref 62, .ref 63, .int 6, .int 0, .int 0, .int 0, .int 0, .long 0, .int 0, .int 0, .int 0, .int (-1), .ref 64, .ref 65, .ref 66, .ref 67, .ref 68, .ref 69, .ref 70, .ref 71, .ref 72, .ref 73, .int 0, .ref 74, .ref 75, .ref 76, .int 0, .int 0, .ref 77, .ref 78, .ref 79, .int 0, .int 0, .int 0, .ref 80, .ref 81, .ref 82, .long 0, .ref 83, .int 0, .int 0, .int 0]) C (by decide) (jv_n (by decide) (va_up_self _ _ _)) rfl in_X9_four_9 tyX9 tyX9_ok nmX9 (by decide) (by decide +kernel) rfl rfl rfl (fun _ => rfl) (fun _ => rfl) (Nat.le_of_ble_eq_true rfl) dX9_four_27 rfl ?_
  refine jv_iinc (lv2 := [(2, .int 8), (0, .ref 58), (1, .int p1)]) C dX9_four_30 hnl 0 rfl (by decide) (by decide) rfl ?_
  refine jv_goto (tgt := 3) C dX9_four_33 (by decide) ?_
  refine jv_iload_n C dX9_four_3 0 rfl ?_
  refine jv_if_lt (tgt := 36) C dX9_four_4 (by decide) (fun h => absurd h (by decide)) (fun _ => ?_)
  refine jv_aload_n C dX9_four_7 1 rfl ?_
  refine jv_getf (fk := 5) C (by decide) (va_up_self _ _ _) rfl in_X9_four_9 (by decide) (by decide +kernel) rfl rfl dX9_four_8 ?_
  refine jv_aload_n C dX9_four_11 1 rfl ?_
  refine jv_getf (fk := 6) C (by decide) (va_up_self _ _ _) rfl in_X9_four_9 (by decide) (by decide +kernel) rfl rfl dX9_four_12 ?_
  refine jv_iload_n C dX9_four_15 2 rfl ?_
  refine jv_iload_n C dX9_four_16 0 rfl ?_
  refine jv_ishr C dX9_four_17 ?_
  refine jv_i2b C dX9_four_18 ?_
  refine jv_bast C (by decide) (jv_n (by decide) (va_up_self _ _ _)) (jv_vi (by decide)) dX9_four_19 ?_
  refine jv_aload_n C dX9_four_20 1 rfl ?_
  refine jv_dup C dX9_four_21 rfl ?_
  refine jv_getf (fk := 6) C (by decide) (jv_n (by decide) (va_up_self _ _ _)) rfl in_X9_four_9 (by decide) (by decide +kernel) rfl rfl dX9_four_22 ?_
  refine jv_iconst (v := 1) C dX9_four_25 (by decide) ?_
  refine jv_iadd C dX9_four_26 ?_
  refine jv_ti (y := 7) (by decide) ?_
  refine jv_putf (fk := 6) (ty := .int) (fs2 := [.int 0, .ref 59, .ref 60, .ref 61, .ref 62, .ref 63, .int 7, .int 0, .int 0, .int 0, .int 0, .long 0, .int 0, .int 0, .int 0, .int (-1), .ref 64, .ref 65, .ref 66, .ref 67, .ref 68, .ref 69, .ref 70, .ref 71, .ref 72, .ref 73, .int 0, .ref 74, .ref 75, .ref 76, .int 0, .int 0, .ref 77, .ref 78, .ref 79, .int 0, .int 0, .int 0, .ref 80, .ref 81, .ref 82, .long 0, .ref 83, .int 0, .int 0, .int 0]) C (by decide) (jv_n (by decide) (va_up_self _ _ _)) rfl in_X9_four_9 tyX9 tyX9_ok nmX9 (by decide) (by decide +kernel) rfl rfl rfl (fun _ => rfl) (fun _ => rfl) (Nat.le_of_ble_eq_true rfl) dX9_four_27 rfl ?_
  refine jv_iinc (lv2 := [(2, .int 0), (0, .ref 58), (1, .int p1)]) C dX9_four_30 hnl 0 rfl (by decide) (by decide) rfl ?_
  refine jv_goto (tgt := 3) C dX9_four_33 (by decide) ?_
  refine jv_iload_n C dX9_four_3 0 rfl ?_
  refine jv_if_lt (tgt := 36) C dX9_four_4 (by decide) (fun h => absurd h (by decide)) (fun _ => ?_)
  refine jv_aload_n C dX9_four_7 1 rfl ?_
  refine jv_getf (fk := 5) C (by decide) (va_up_self _ _ _) rfl in_X9_four_9 (by decide) (by decide +kernel) rfl rfl dX9_four_8 ?_
  refine jv_aload_n C dX9_four_11 1 rfl ?_
  refine jv_getf (fk := 6) C (by decide) (va_up_self _ _ _) rfl in_X9_four_9 (by decide) (by decide +kernel) rfl rfl dX9_four_12 ?_
  refine jv_iload_n C dX9_four_15 2 rfl ?_
  refine jv_iload_n C dX9_four_16 0 rfl ?_
  refine jv_ishr C dX9_four_17 ?_
  refine jv_i2b C dX9_four_18 ?_
  refine jv_bast C (by decide) (jv_n (by decide) (va_up_self _ _ _)) (jv_vi (by decide)) dX9_four_19 ?_
  refine jv_aload_n C dX9_four_20 1 rfl ?_
  refine jv_dup C dX9_four_21 rfl ?_
  refine jv_getf (fk := 6) C (by decide) (jv_n (by decide) (va_up_self _ _ _)) rfl in_X9_four_9 (by decide) (by decide +kernel) rfl rfl dX9_four_22 ?_
  refine jv_iconst (v := 1) C dX9_four_25 (by decide) ?_
  refine jv_iadd C dX9_four_26 ?_
  refine jv_ti (y := 8) (by decide) ?_
  refine jv_putf (fk := 6) (ty := .int) (fs2 := [.int 0, .ref 59, .ref 60, .ref 61, .ref 62, .ref 63, .int 8, .int 0, .int 0, .int 0, .int 0, .long 0, .int 0, .int 0, .int 0, .int (-1), .ref 64, .ref 65, .ref 66, .ref 67, .ref 68, .ref 69, .ref 70, .ref 71, .ref 72, .ref 73, .int 0, .ref 74, .ref 75, .ref 76, .int 0, .int 0, .ref 77, .ref 78, .ref 79, .int 0, .int 0, .int 0, .ref 80, .ref 81, .ref 82, .long 0, .ref 83, .int 0, .int 0, .int 0]) C (by decide) (jv_n (by decide) (va_up_self _ _ _)) rfl in_X9_four_9 tyX9 tyX9_ok nmX9 (by decide) (by decide +kernel) rfl rfl rfl (fun _ => rfl) (fun _ => rfl) (Nat.le_of_ble_eq_true rfl) dX9_four_27 rfl ?_
  refine jv_iinc (lv2 := [(2, .int (-8)), (0, .ref 58), (1, .int p1)]) C dX9_four_30 hnl 0 rfl (by decide) (by decide) rfl ?_
  refine jv_goto (tgt := 3) C dX9_four_33 (by decide) ?_
  refine jv_iload_n C dX9_four_3 0 rfl ?_
  refine jv_if_lt (tgt := 36) C dX9_four_4 (by decide) (fun _ => ?_) (fun h => absurd (by decide) h)
  exact jv_vret C B ⟨rfl, rfl, fun j g0 g1 => ((va_up_ne _ _ g0).trans ((va_up_ne _ _ g1).trans ((va_up_ne _ _ g0).trans ((va_up_ne _ _ g1).trans ((va_up_ne _ _ g0).trans ((va_up_ne _ _ g1).trans ((va_up_ne _ _ g0).trans (va_up_ne _ _ g1)))))))), (va_up_self _ _ _), ⟨_, (jv_n (by decide) (va_up_self _ _ _))⟩⟩ ⟨by decide, by decide⟩ dX9_four_36
set_option maxRecDepth 100000 in
set_option maxHeartbeats 8000000 in
theorem c_X9_four_8 (l : Launch) (D : va_G) (kp : Nat → ClassId) {n : Nat} {E : Nat → jv_E} {g0 : Nat → Int32} (h58 : E 58 = .inr (9, [.int 0, .ref 59, .ref 60, .ref 61, .ref 62, .ref 63, .int 8, .int 0, .int 0, .int 0, .int 0, .long 0, .int 0, .int 0, .int 0, .int (-1), .ref 64, .ref 65, .ref 66, .ref 67, .ref 68, .ref 69, .ref 70, .ref 71, .ref 72, .ref 73, .int 0, .ref 74, .ref 75, .ref 76, .int 0, .int 0, .ref 77, .ref 78, .ref 79, .int 0, .int 0, .int 0, .ref 80, .ref 81, .ref 82, .long 0, .ref 83, .int 0, .int 0, .int 0])) (h63 : E 63 = .inl (1, 1600, .inl g0)) (p1 : Int32) : jv_M l D vwCl kp yX9_four wsX9_four rm1 [] [.ref 58, .int p1] n E 0 0 (fun r n1 E1 => none = r ∧ n = n1 ∧ (∀ j, j ≠ 58 → j ≠ 63 → E1 j = E j) ∧ E1 58 = .inr (9, [.int 0, .ref 59, .ref 60, .ref 61, .ref 62, .ref 63, .int 12, .int 0, .int 0, .int 0, .int 0, .long 0, .int 0, .int 0, .int 0, .int (-1), .ref 64, .ref 65, .ref 66, .ref 67, .ref 68, .ref 69, .ref 70, .ref 71, .ref 72, .ref 73, .int 0, .ref 74, .ref 75, .ref 76, .int 0, .int 0, .ref 77, .ref 78, .ref 79, .int 0, .int 0, .int 0, .ref 80, .ref 81, .ref 82, .long 0, .ref 83, .int 0, .int 0, .int 0]) ∧ (∃ g, E1 63 = .inl (1, 1600, .inl g))) := by
  refine jv_of (by decide) rfl (Nat.le_of_ble_eq_true rfl) (fun G C B hI hnl => ?_)
  show jv_V l D vwCl kp G 0 0 n E 0 [(0, .ref 58), (1, .int p1)] []
  refine jv_bipush (v := 24) C dX9_four_0 (by decide) ?_
  refine jv_istore_n (lv2 := [(2, .int 24), (0, .ref 58), (1, .int p1)]) C dX9_four_2 rfl hnl (by decide) rfl ?_
  refine jv_iload_n C dX9_four_3 0 rfl ?_
  refine jv_if_lt (tgt := 36) C dX9_four_4 (by decide) (fun h => absurd h (by decide)) (fun _ => ?_)
  refine jv_aload_n C dX9_four_7 1 rfl ?_
  refine jv_getf (fk := 5) C (by decide) h58 rfl in_X9_four_9 (by decide) (by decide +kernel) rfl rfl dX9_four_8 ?_
  refine jv_aload_n C dX9_four_11 1 rfl ?_
  refine jv_getf (fk := 6) C (by decide) h58 rfl in_X9_four_9 (by decide) (by decide +kernel) rfl rfl dX9_four_12 ?_
  refine jv_iload_n C dX9_four_15 2 rfl ?_
  refine jv_iload_n C dX9_four_16 0 rfl ?_
  refine jv_ishr C dX9_four_17 ?_
  refine jv_i2b C dX9_four_18 ?_
  refine jv_bast C (by decide) h63 (jv_vi (by decide)) dX9_four_19 ?_
  refine jv_aload_n C dX9_four_20 1 rfl ?_
  refine jv_dup C dX9_four_21 rfl ?_
  refine jv_getf (fk := 6) C (by decide) (jv_n (by decide) h58) rfl in_X9_four_9 (by decide) (by decide +kernel) rfl rfl dX9_four_22 ?_
  refine jv_iconst (v := 1) C dX9_four_25 (by decide) ?_
  refine jv_iadd C dX9_four_26 ?_
  refine jv_ti (y := 9) (by decide) ?_
  refine jv_putf (fk := 6) (ty := .int) (fs2 := [.int 0, .ref 59, .ref 60, .ref 61, .ref 62, .ref 63, .int 9, .int 0, .int 0, .int 0, .int 0, .long 0, .int 0, .int 0, .int 0, .int (-1), .ref 64, .ref 65, .ref 66, .ref 67, .ref 68, .ref 69, .ref 70, .ref 71, .ref 72, .ref 73, .int 0, .ref 74, .ref 75, .ref 76, .int 0, .int 0, .ref 77, .ref 78, .ref 79, .int 0, .int 0, .int 0, .ref 80, .ref 81, .ref 82, .long 0, .ref 83, .int 0, .int 0, .int 0]) C (by decide) (jv_n (by decide) h58) rfl in_X9_four_9 tyX9 tyX9_ok nmX9 (by decide) (by decide +kernel) rfl rfl rfl (fun _ => rfl) (fun _ => rfl) (Nat.le_of_ble_eq_true rfl) dX9_four_27 rfl ?_
  refine jv_iinc (lv2 := [(2, .int 16), (0, .ref 58), (1, .int p1)]) C dX9_four_30 hnl 0 rfl (by decide) (by decide) rfl ?_
  refine jv_goto (tgt := 3) C dX9_four_33 (by decide) ?_
  refine jv_iload_n C dX9_four_3 0 rfl ?_
  refine jv_if_lt (tgt := 36) C dX9_four_4 (by decide) (fun h => absurd h (by decide)) (fun _ => ?_)
  refine jv_aload_n C dX9_four_7 1 rfl ?_
  refine jv_getf (fk := 5) C (by decide) (va_up_self _ _ _) rfl in_X9_four_9 (by decide) (by decide +kernel) rfl rfl dX9_four_8 ?_
  refine jv_aload_n C dX9_four_11 1 rfl ?_
  refine jv_getf (fk := 6) C (by decide) (va_up_self _ _ _) rfl in_X9_four_9 (by decide) (by decide +kernel) rfl rfl dX9_four_12 ?_
  refine jv_iload_n C dX9_four_15 2 rfl ?_
  refine jv_iload_n C dX9_four_16 0 rfl ?_
  refine jv_ishr C dX9_four_17 ?_
  refine jv_i2b C dX9_four_18 ?_
  refine jv_bast C (by decide) (jv_n (by decide) (va_up_self _ _ _)) (jv_vi (by decide)) dX9_four_19 ?_
  refine jv_aload_n C dX9_four_20 1 rfl ?_
  refine jv_dup C dX9_four_21 rfl ?_
  refine jv_getf (fk := 6) C (by decide) (jv_n (by decide) (va_up_self _ _ _)) rfl in_X9_four_9 (by decide) (by decide +kernel) rfl rfl dX9_four_22 ?_
  refine jv_iconst (v := 1) C dX9_four_25 (by decide) ?_
  refine jv_iadd C dX9_four_26 ?_
  refine jv_ti (y := 10) (by decide) ?_
  refine jv_putf (fk := 6) (ty := .int) (fs2 := [.int 0, .ref 59, .ref 60, .ref 61, .ref 62, .ref 63, .int 10, .int 0, .int 0, .int 0, .int 0, .long 0, .int 0, .int 0, .int 0, .int (-1), .ref 64, .ref 65, .ref 66, .ref 67, .ref 68, .ref 69, .ref 70, .ref 71, .ref 72, .ref 73, .int 0, .ref 74, .ref 75, .ref 76, .int 0, .int 0, .ref 77, .ref 78, .ref 79, .int 0, .int 0, .int 0, .ref 80, .ref 81, .ref 82, .long 0, .ref 83, .int 0, .int 0, .int 0]) C (by decide) (jv_n (by decide) (va_up_self _ _ _)) rfl in_X9_four_9 tyX9 tyX9_ok nmX9 (by decide) (by decide +kernel) rfl rfl rfl (fun _ => rfl) (fun _ => rfl) (Nat.le_of_ble_eq_true rfl) dX9_four_27 rfl ?_
  refine jv_iinc (lv2 := [(2, .int 8), (0, .ref 58), (1, .int p1)]) C dX9_four_30 hnl 0 rfl (by decide) (by decide) rfl ?_
  refine jv_goto (tgt := 3) C dX9_four_33 (by decide) ?_
  refine jv_iload_n C dX9_four_3 0 rfl ?_
  refine jv_if_lt (tgt := 36) C dX9_four_4 (by decide) (fun h => absurd h (by decide)) (fun _ => ?_)
  refine jv_aload_n C dX9_four_7 1 rfl ?_
  refine jv_getf (fk := 5) C (by decide) (va_up_self _ _ _) rfl in_X9_four_9 (by decide) (by decide +kernel) rfl rfl dX9_four_8 ?_
  refine jv_aload_n C dX9_four_11 1 rfl ?_
  refine jv_getf (fk := 6) C (by decide) (va_up_self _ _ _) rfl in_X9_four_9 (by decide) (by decide +kernel) rfl rfl dX9_four_12 ?_
  refine jv_iload_n C dX9_four_15 2 rfl ?_
  refine jv_iload_n C dX9_four_16 0 rfl ?_
  refine jv_ishr C dX9_four_17 ?_
  refine jv_i2b C dX9_four_18 ?_
  refine jv_bast C (by decide) (jv_n (by decide) (va_up_self _ _ _)) (jv_vi (by decide)) dX9_four_19 ?_
  refine jv_aload_n C dX9_four_20 1 rfl ?_
  refine jv_dup C dX9_four_21 rfl ?_
  refine jv_getf (fk := 6) C (by decide) (jv_n (by decide) (va_up_self _ _ _)) rfl in_X9_four_9 (by decide) (by decide +kernel) rfl rfl dX9_four_22 ?_
  refine jv_iconst (v := 1) C dX9_four_25 (by decide) ?_
  refine jv_iadd C dX9_four_26 ?_
  refine jv_ti (y := 11) (by decide) ?_
  refine jv_putf (fk := 6) (ty := .int) (fs2 := [.int 0, .ref 59, .ref 60, .ref 61, .ref 62, .ref 63, .int 11, .int 0, .int 0, .int 0, .int 0, .long 0, .int 0, .int 0, .int 0, .int (-1), .ref 64, .ref 65, .ref 66, .ref 67, .ref 68, .ref 69, .ref 70, .ref 71, .ref 72, .ref 73, .int 0, .ref 74, .ref 75, .ref 76, .int 0, .int 0, .ref 77, .ref 78, .ref 79, .int 0, .int 0, .int 0, .ref 80, .ref 81, .ref 82, .long 0, .ref 83, .int 0, .int 0, .int 0]) C (by decide) (jv_n (by decide) (va_up_self _ _ _)) rfl in_X9_four_9 tyX9 tyX9_ok nmX9 (by decide) (by decide +kernel) rfl rfl rfl (fun _ => rfl) (fun _ => rfl) (Nat.le_of_ble_eq_true rfl) dX9_four_27 rfl ?_
  refine jv_iinc (lv2 := [(2, .int 0), (0, .ref 58), (1, .int p1)]) C dX9_four_30 hnl 0 rfl (by decide) (by decide) rfl ?_
  refine jv_goto (tgt := 3) C dX9_four_33 (by decide) ?_
  refine jv_iload_n C dX9_four_3 0 rfl ?_
  refine jv_if_lt (tgt := 36) C dX9_four_4 (by decide) (fun h => absurd h (by decide)) (fun _ => ?_)
  refine jv_aload_n C dX9_four_7 1 rfl ?_
  refine jv_getf (fk := 5) C (by decide) (va_up_self _ _ _) rfl in_X9_four_9 (by decide) (by decide +kernel) rfl rfl dX9_four_8 ?_
  refine jv_aload_n C dX9_four_11 1 rfl ?_
  refine jv_getf (fk := 6) C (by decide) (va_up_self _ _ _) rfl in_X9_four_9 (by decide) (by decide +kernel) rfl rfl dX9_four_12 ?_
  refine jv_iload_n C dX9_four_15 2 rfl ?_
  refine jv_iload_n C dX9_four_16 0 rfl ?_
  refine jv_ishr C dX9_four_17 ?_
  refine jv_i2b C dX9_four_18 ?_
  refine jv_bast C (by decide) (jv_n (by decide) (va_up_self _ _ _)) (jv_vi (by decide)) dX9_four_19 ?_
  refine jv_aload_n C dX9_four_20 1 rfl ?_
  refine jv_dup C dX9_four_21 rfl ?_
  refine jv_getf (fk := 6) C (by decide) (jv_n (by decide) (va_up_self _ _ _)) rfl in_X9_four_9 (by decide) (by decide +kernel) rfl rfl dX9_four_22 ?_
  refine jv_iconst (v := 1) C dX9_four_25 (by decide) ?_
  refine jv_iadd C dX9_four_26 ?_
  refine jv_ti (y := 12) (by decide) ?_
  refine jv_putf (fk := 6) (ty := .int) (fs2 := [.int 0, .ref 59, .ref 60, .ref 61, .ref 62, .ref 63, .int 12, .int 0, .int 0, .int 0, .int 0, .long 0, .int 0, .int 0, .int 0, .int (-1), .ref 64, .ref 65, .ref 66, .ref 67, .ref 68, .ref 69, .ref 70, .ref 71, .ref 72, .ref 73, .int 0, .ref 74, .ref 75, .ref 76, .int 0, .int 0, .ref 77, .ref 78, .ref 79, .int 0, .int 0, .int 0, .ref 80, .ref 81, .ref 82, .long 0, .ref 83, .int 0, .int 0, .int 0]) C (by decide) (jv_n (by decide) (va_up_self _ _ _)) rfl in_X9_four_9 tyX9 tyX9_ok nmX9 (by decide) (by decide +kernel) rfl rfl rfl (fun _ => rfl) (fun _ => rfl) (Nat.le_of_ble_eq_true rfl) dX9_four_27 rfl ?_
  refine jv_iinc (lv2 := [(2, .int (-8)), (0, .ref 58), (1, .int p1)]) C dX9_four_30 hnl 0 rfl (by decide) (by decide) rfl ?_
  refine jv_goto (tgt := 3) C dX9_four_33 (by decide) ?_
  refine jv_iload_n C dX9_four_3 0 rfl ?_
  refine jv_if_lt (tgt := 36) C dX9_four_4 (by decide) (fun _ => ?_) (fun h => absurd (by decide) h)
  exact jv_vret C B ⟨rfl, rfl, fun j g0 g1 => ((va_up_ne _ _ g0).trans ((va_up_ne _ _ g1).trans ((va_up_ne _ _ g0).trans ((va_up_ne _ _ g1).trans ((va_up_ne _ _ g0).trans ((va_up_ne _ _ g1).trans ((va_up_ne _ _ g0).trans (va_up_ne _ _ g1)))))))), (va_up_self _ _ _), ⟨_, (jv_n (by decide) (va_up_self _ _ _))⟩⟩ ⟨by decide, by decide⟩ dX9_four_36
set_option maxRecDepth 100000 in
set_option maxHeartbeats 8000000 in
theorem c_X9_four_12 (l : Launch) (D : va_G) (kp : Nat → ClassId) {n : Nat} {E : Nat → jv_E} {g0 : Nat → Int32} (h58 : E 58 = .inr (9, [.int 0, .ref 59, .ref 60, .ref 61, .ref 62, .ref 63, .int 12, .int 0, .int 0, .int 0, .int 0, .long 0, .int 0, .int 0, .int 0, .int (-1), .ref 64, .ref 65, .ref 66, .ref 67, .ref 68, .ref 69, .ref 70, .ref 71, .ref 72, .ref 73, .int 0, .ref 74, .ref 75, .ref 76, .int 0, .int 0, .ref 77, .ref 78, .ref 79, .int 0, .int 0, .int 0, .ref 80, .ref 81, .ref 82, .long 0, .ref 83, .int 0, .int 0, .int 0])) (h63 : E 63 = .inl (1, 1600, .inl g0)) (p1 : Int32) : jv_M l D vwCl kp yX9_four wsX9_four rm1 [] [.ref 58, .int p1] n E 0 0 (fun r n1 E1 => none = r ∧ n = n1 ∧ (∀ j, j ≠ 58 → j ≠ 63 → E1 j = E j) ∧ E1 58 = .inr (9, [.int 0, .ref 59, .ref 60, .ref 61, .ref 62, .ref 63, .int 16, .int 0, .int 0, .int 0, .int 0, .long 0, .int 0, .int 0, .int 0, .int (-1), .ref 64, .ref 65, .ref 66, .ref 67, .ref 68, .ref 69, .ref 70, .ref 71, .ref 72, .ref 73, .int 0, .ref 74, .ref 75, .ref 76, .int 0, .int 0, .ref 77, .ref 78, .ref 79, .int 0, .int 0, .int 0, .ref 80, .ref 81, .ref 82, .long 0, .ref 83, .int 0, .int 0, .int 0]) ∧ (∃ g, E1 63 = .inl (1, 1600, .inl g))) := by
  refine jv_of (by decide) rfl (Nat.le_of_ble_eq_true rfl) (fun G C B hI hnl => ?_)
  show jv_V l D vwCl kp G 0 0 n E 0 [(0, .ref 58), (1, .int p1)] []
  refine jv_bipush (v := 24) C dX9_four_0 (by decide) ?_
  refine jv_istore_n (lv2 := [(2, .int 24), (0, .ref 58), (1, .int p1)]) C dX9_four_2 rfl hnl (by decide) rfl ?_
  refine jv_iload_n C dX9_four_3 0 rfl ?_
  refine jv_if_lt (tgt := 36) C dX9_four_4 (by decide) (fun h => absurd h (by decide)) (fun _ => ?_)
  refine jv_aload_n C dX9_four_7 1 rfl ?_
  refine jv_getf (fk := 5) C (by decide) h58 rfl in_X9_four_9 (by decide) (by decide +kernel) rfl rfl dX9_four_8 ?_
  refine jv_aload_n C dX9_four_11 1 rfl ?_
  refine jv_getf (fk := 6) C (by decide) h58 rfl in_X9_four_9 (by decide) (by decide +kernel) rfl rfl dX9_four_12 ?_
  refine jv_iload_n C dX9_four_15 2 rfl ?_
  refine jv_iload_n C dX9_four_16 0 rfl ?_
  refine jv_ishr C dX9_four_17 ?_
  refine jv_i2b C dX9_four_18 ?_
  refine jv_bast C (by decide) h63 (jv_vi (by decide)) dX9_four_19 ?_
  refine jv_aload_n C dX9_four_20 1 rfl ?_
  refine jv_dup C dX9_four_21 rfl ?_
  refine jv_getf (fk := 6) C (by decide) (jv_n (by decide) h58) rfl in_X9_four_9 (by decide) (by decide +kernel) rfl rfl dX9_four_22 ?_
  refine jv_iconst (v := 1) C dX9_four_25 (by decide) ?_
  refine jv_iadd C dX9_four_26 ?_
  refine jv_ti (y := 13) (by decide) ?_
  refine jv_putf (fk := 6) (ty := .int) (fs2 := [.int 0, .ref 59, .ref 60, .ref 61, .ref 62, .ref 63, .int 13, .int 0, .int 0, .int 0, .int 0, .long 0, .int 0, .int 0, .int 0, .int (-1), .ref 64, .ref 65, .ref 66, .ref 67, .ref 68, .ref 69, .ref 70, .ref 71, .ref 72, .ref 73, .int 0, .ref 74, .ref 75, .ref 76, .int 0, .int 0, .ref 77, .ref 78, .ref 79, .int 0, .int 0, .int 0, .ref 80, .ref 81, .ref 82, .long 0, .ref 83, .int 0, .int 0, .int 0]) C (by decide) (jv_n (by decide) h58) rfl in_X9_four_9 tyX9 tyX9_ok nmX9 (by decide) (by decide +kernel) rfl rfl rfl (fun _ => rfl) (fun _ => rfl) (Nat.le_of_ble_eq_true rfl) dX9_four_27 rfl ?_
  refine jv_iinc (lv2 := [(2, .int 16), (0, .ref 58), (1, .int p1)]) C dX9_four_30 hnl 0 rfl (by decide) (by decide) rfl ?_
  refine jv_goto (tgt := 3) C dX9_four_33 (by decide) ?_
  refine jv_iload_n C dX9_four_3 0 rfl ?_
  refine jv_if_lt (tgt := 36) C dX9_four_4 (by decide) (fun h => absurd h (by decide)) (fun _ => ?_)
  refine jv_aload_n C dX9_four_7 1 rfl ?_
  refine jv_getf (fk := 5) C (by decide) (va_up_self _ _ _) rfl in_X9_four_9 (by decide) (by decide +kernel) rfl rfl dX9_four_8 ?_
  refine jv_aload_n C dX9_four_11 1 rfl ?_
  refine jv_getf (fk := 6) C (by decide) (va_up_self _ _ _) rfl in_X9_four_9 (by decide) (by decide +kernel) rfl rfl dX9_four_12 ?_
  refine jv_iload_n C dX9_four_15 2 rfl ?_
  refine jv_iload_n C dX9_four_16 0 rfl ?_
  refine jv_ishr C dX9_four_17 ?_
  refine jv_i2b C dX9_four_18 ?_
  refine jv_bast C (by decide) (jv_n (by decide) (va_up_self _ _ _)) (jv_vi (by decide)) dX9_four_19 ?_
  refine jv_aload_n C dX9_four_20 1 rfl ?_
  refine jv_dup C dX9_four_21 rfl ?_
  refine jv_getf (fk := 6) C (by decide) (jv_n (by decide) (va_up_self _ _ _)) rfl in_X9_four_9 (by decide) (by decide +kernel) rfl rfl dX9_four_22 ?_
  refine jv_iconst (v := 1) C dX9_four_25 (by decide) ?_
  refine jv_iadd C dX9_four_26 ?_
  refine jv_ti (y := 14) (by decide) ?_
  refine jv_putf (fk := 6) (ty := .int) (fs2 := [.int 0, .ref 59, .ref 60, .ref 61, .ref 62, .ref 63, .int 14, .int 0, .int 0, .int 0, .int 0, .long 0, .int 0, .int 0, .int 0, .int (-1), .ref 64, .ref 65, .ref 66, .ref 67, .ref 68, .ref 69, .ref 70, .ref 71, .ref 72, .ref 73, .int 0, .ref 74, .ref 75, .ref 76, .int 0, .int 0, .ref 77, .ref 78, .ref 79, .int 0, .int 0, .int 0, .ref 80, .ref 81, .ref 82, .long 0, .ref 83, .int 0, .int 0, .int 0]) C (by decide) (jv_n (by decide) (va_up_self _ _ _)) rfl in_X9_four_9 tyX9 tyX9_ok nmX9 (by decide) (by decide +kernel) rfl rfl rfl (fun _ => rfl) (fun _ => rfl) (Nat.le_of_ble_eq_true rfl) dX9_four_27 rfl ?_
  refine jv_iinc (lv2 := [(2, .int 8), (0, .ref 58), (1, .int p1)]) C dX9_four_30 hnl 0 rfl (by decide) (by decide) rfl ?_
  refine jv_goto (tgt := 3) C dX9_four_33 (by decide) ?_
  refine jv_iload_n C dX9_four_3 0 rfl ?_
  refine jv_if_lt (tgt := 36) C dX9_four_4 (by decide) (fun h => absurd h (by decide)) (fun _ => ?_)
  refine jv_aload_n C dX9_four_7 1 rfl ?_
  refine jv_getf (fk := 5) C (by decide) (va_up_self _ _ _) rfl in_X9_four_9 (by decide) (by decide +kernel) rfl rfl dX9_four_8 ?_
  refine jv_aload_n C dX9_four_11 1 rfl ?_
  refine jv_getf (fk := 6) C (by decide) (va_up_self _ _ _) rfl in_X9_four_9 (by decide) (by decide +kernel) rfl rfl dX9_four_12 ?_
  refine jv_iload_n C dX9_four_15 2 rfl ?_
  refine jv_iload_n C dX9_four_16 0 rfl ?_
  refine jv_ishr C dX9_four_17 ?_
  refine jv_i2b C dX9_four_18 ?_
  refine jv_bast C (by decide) (jv_n (by decide) (va_up_self _ _ _)) (jv_vi (by decide)) dX9_four_19 ?_
  refine jv_aload_n C dX9_four_20 1 rfl ?_
  refine jv_dup C dX9_four_21 rfl ?_
  refine jv_getf (fk := 6) C (by decide) (jv_n (by decide) (va_up_self _ _ _)) rfl in_X9_four_9 (by decide) (by decide +kernel) rfl rfl dX9_four_22 ?_
  refine jv_iconst (v := 1) C dX9_four_25 (by decide) ?_
  refine jv_iadd C dX9_four_26 ?_
  refine jv_ti (y := 15) (by decide) ?_
  refine jv_putf (fk := 6) (ty := .int) (fs2 := [.int 0, .ref 59, .ref 60, .ref 61, .ref 62, .ref 63, .int 15, .int 0, .int 0, .int 0, .int 0, .long 0, .int 0, .int 0, .int 0, .int (-1), .ref 64, .ref 65, .ref 66, .ref 67, .ref 68, .ref 69, .ref 70, .ref 71, .ref 72, .ref 73, .int 0, .ref 74, .ref 75, .ref 76, .int 0, .int 0, .ref 77, .ref 78, .ref 79, .int 0, .int 0, .int 0, .ref 80, .ref 81, .ref 82, .long 0, .ref 83, .int 0, .int 0, .int 0]) C (by decide) (jv_n (by decide) (va_up_self _ _ _)) rfl in_X9_four_9 tyX9 tyX9_ok nmX9 (by decide) (by decide +kernel) rfl rfl rfl (fun _ => rfl) (fun _ => rfl) (Nat.le_of_ble_eq_true rfl) dX9_four_27 rfl ?_
  refine jv_iinc (lv2 := [(2, .int 0), (0, .ref 58), (1, .int p1)]) C dX9_four_30 hnl 0 rfl (by decide) (by decide) rfl ?_
  refine jv_goto (tgt := 3) C dX9_four_33 (by decide) ?_
  refine jv_iload_n C dX9_four_3 0 rfl ?_
  refine jv_if_lt (tgt := 36) C dX9_four_4 (by decide) (fun h => absurd h (by decide)) (fun _ => ?_)
  refine jv_aload_n C dX9_four_7 1 rfl ?_
  refine jv_getf (fk := 5) C (by decide) (va_up_self _ _ _) rfl in_X9_four_9 (by decide) (by decide +kernel) rfl rfl dX9_four_8 ?_
  refine jv_aload_n C dX9_four_11 1 rfl ?_
  refine jv_getf (fk := 6) C (by decide) (va_up_self _ _ _) rfl in_X9_four_9 (by decide) (by decide +kernel) rfl rfl dX9_four_12 ?_
  refine jv_iload_n C dX9_four_15 2 rfl ?_
  refine jv_iload_n C dX9_four_16 0 rfl ?_
  refine jv_ishr C dX9_four_17 ?_
  refine jv_i2b C dX9_four_18 ?_
  refine jv_bast C (by decide) (jv_n (by decide) (va_up_self _ _ _)) (jv_vi (by decide)) dX9_four_19 ?_
  refine jv_aload_n C dX9_four_20 1 rfl ?_
  refine jv_dup C dX9_four_21 rfl ?_
  refine jv_getf (fk := 6) C (by decide) (jv_n (by decide) (va_up_self _ _ _)) rfl in_X9_four_9 (by decide) (by decide +kernel) rfl rfl dX9_four_22 ?_
  refine jv_iconst (v := 1) C dX9_four_25 (by decide) ?_
  refine jv_iadd C dX9_four_26 ?_
  refine jv_ti (y := 16) (by decide) ?_
  refine jv_putf (fk := 6) (ty := .int) (fs2 := [.int 0, .ref 59, .ref 60, .ref 61, .ref 62, .ref 63, .int 16, .int 0, .int 0, .int 0, .int 0, .long 0, .int 0, .int 0, .int 0, .int (-1), .ref 64, .ref 65, .ref 66, .ref 67, .ref 68, .ref 69, .ref 70, .ref 71, .ref 72, .ref 73, .int 0, .ref 74, .ref 75, .ref 76, .int 0, .int 0, .ref 77, .ref 78, .ref 79, .int 0, .int 0, .int 0, .ref 80, .ref 81, .ref 82, .long 0, .ref 83, .int 0, .int 0, .int 0]) C (by decide) (jv_n (by decide) (va_up_self _ _ _)) rfl in_X9_four_9 tyX9 tyX9_ok nmX9 (by decide) (by decide +kernel) rfl rfl rfl (fun _ => rfl) (fun _ => rfl) (Nat.le_of_ble_eq_true rfl) dX9_four_27 rfl ?_
  refine jv_iinc (lv2 := [(2, .int (-8)), (0, .ref 58), (1, .int p1)]) C dX9_four_30 hnl 0 rfl (by decide) (by decide) rfl ?_
  refine jv_goto (tgt := 3) C dX9_four_33 (by decide) ?_
  refine jv_iload_n C dX9_four_3 0 rfl ?_
  refine jv_if_lt (tgt := 36) C dX9_four_4 (by decide) (fun _ => ?_) (fun h => absurd (by decide) h)
  exact jv_vret C B ⟨rfl, rfl, fun j g0 g1 => ((va_up_ne _ _ g0).trans ((va_up_ne _ _ g1).trans ((va_up_ne _ _ g0).trans ((va_up_ne _ _ g1).trans ((va_up_ne _ _ g0).trans ((va_up_ne _ _ g1).trans ((va_up_ne _ _ g0).trans (va_up_ne _ _ g1)))))))), (va_up_self _ _ _), ⟨_, (jv_n (by decide) (va_up_self _ _ _))⟩⟩ ⟨by decide, by decide⟩ dX9_four_36
set_option maxRecDepth 100000 in
set_option maxHeartbeats 8000000 in
theorem c_X9_four_16 (l : Launch) (D : va_G) (kp : Nat → ClassId) {n : Nat} {E : Nat → jv_E} {g0 : Nat → Int32} (h58 : E 58 = .inr (9, [.int 0, .ref 59, .ref 60, .ref 61, .ref 62, .ref 63, .int 16, .int 0, .int 0, .int 0, .int 0, .long 0, .int 0, .int 0, .int 0, .int (-1), .ref 64, .ref 65, .ref 66, .ref 67, .ref 68, .ref 69, .ref 70, .ref 71, .ref 72, .ref 73, .int 0, .ref 74, .ref 75, .ref 76, .int 0, .int 0, .ref 77, .ref 78, .ref 79, .int 0, .int 0, .int 0, .ref 80, .ref 81, .ref 82, .long 0, .ref 83, .int 0, .int 0, .int 0])) (h63 : E 63 = .inl (1, 1600, .inl g0)) (p1 : Int32) : jv_M l D vwCl kp yX9_four wsX9_four rm1 [] [.ref 58, .int p1] n E 0 0 (fun r n1 E1 => none = r ∧ n = n1 ∧ (∀ j, j ≠ 58 → j ≠ 63 → E1 j = E j) ∧ E1 58 = .inr (9, [.int 0, .ref 59, .ref 60, .ref 61, .ref 62, .ref 63, .int 20, .int 0, .int 0, .int 0, .int 0, .long 0, .int 0, .int 0, .int 0, .int (-1), .ref 64, .ref 65, .ref 66, .ref 67, .ref 68, .ref 69, .ref 70, .ref 71, .ref 72, .ref 73, .int 0, .ref 74, .ref 75, .ref 76, .int 0, .int 0, .ref 77, .ref 78, .ref 79, .int 0, .int 0, .int 0, .ref 80, .ref 81, .ref 82, .long 0, .ref 83, .int 0, .int 0, .int 0]) ∧ (∃ g, E1 63 = .inl (1, 1600, .inl g))) := by
  refine jv_of (by decide) rfl (Nat.le_of_ble_eq_true rfl) (fun G C B hI hnl => ?_)
  show jv_V l D vwCl kp G 0 0 n E 0 [(0, .ref 58), (1, .int p1)] []
  refine jv_bipush (v := 24) C dX9_four_0 (by decide) ?_
  refine jv_istore_n (lv2 := [(2, .int 24), (0, .ref 58), (1, .int p1)]) C dX9_four_2 rfl hnl (by decide) rfl ?_
  refine jv_iload_n C dX9_four_3 0 rfl ?_
  refine jv_if_lt (tgt := 36) C dX9_four_4 (by decide) (fun h => absurd h (by decide)) (fun _ => ?_)
  refine jv_aload_n C dX9_four_7 1 rfl ?_
  refine jv_getf (fk := 5) C (by decide) h58 rfl in_X9_four_9 (by decide) (by decide +kernel) rfl rfl dX9_four_8 ?_
  refine jv_aload_n C dX9_four_11 1 rfl ?_
  refine jv_getf (fk := 6) C (by decide) h58 rfl in_X9_four_9 (by decide) (by decide +kernel) rfl rfl dX9_four_12 ?_
  refine jv_iload_n C dX9_four_15 2 rfl ?_
  refine jv_iload_n C dX9_four_16 0 rfl ?_
  refine jv_ishr C dX9_four_17 ?_
  refine jv_i2b C dX9_four_18 ?_
  refine jv_bast C (by decide) h63 (jv_vi (by decide)) dX9_four_19 ?_
  refine jv_aload_n C dX9_four_20 1 rfl ?_
  refine jv_dup C dX9_four_21 rfl ?_
  refine jv_getf (fk := 6) C (by decide) (jv_n (by decide) h58) rfl in_X9_four_9 (by decide) (by decide +kernel) rfl rfl dX9_four_22 ?_
  refine jv_iconst (v := 1) C dX9_four_25 (by decide) ?_
  refine jv_iadd C dX9_four_26 ?_
  refine jv_ti (y := 17) (by decide) ?_
  refine jv_putf (fk := 6) (ty := .int) (fs2 := [.int 0, .ref 59, .ref 60, .ref 61, .ref 62, .ref 63, .int 17, .int 0, .int 0, .int 0, .int 0, .long 0, .int 0, .int 0, .int 0, .int (-1), .ref 64, .ref 65, .ref 66, .ref 67, .ref 68, .ref 69, .ref 70, .ref 71, .ref 72, .ref 73, .int 0, .ref 74, .ref 75, .ref 76, .int 0, .int 0, .ref 77, .ref 78, .ref 79, .int 0, .int 0, .int 0, .ref 80, .ref 81, .ref 82, .long 0, .ref 83, .int 0, .int 0, .int 0]) C (by decide) (jv_n (by decide) h58) rfl in_X9_four_9 tyX9 tyX9_ok nmX9 (by decide) (by decide +kernel) rfl rfl rfl (fun _ => rfl) (fun _ => rfl) (Nat.le_of_ble_eq_true rfl) dX9_four_27 rfl ?_
  refine jv_iinc (lv2 := [(2, .int 16), (0, .ref 58), (1, .int p1)]) C dX9_four_30 hnl 0 rfl (by decide) (by decide) rfl ?_
  refine jv_goto (tgt := 3) C dX9_four_33 (by decide) ?_
  refine jv_iload_n C dX9_four_3 0 rfl ?_
  refine jv_if_lt (tgt := 36) C dX9_four_4 (by decide) (fun h => absurd h (by decide)) (fun _ => ?_)
  refine jv_aload_n C dX9_four_7 1 rfl ?_
  refine jv_getf (fk := 5) C (by decide) (va_up_self _ _ _) rfl in_X9_four_9 (by decide) (by decide +kernel) rfl rfl dX9_four_8 ?_
  refine jv_aload_n C dX9_four_11 1 rfl ?_
  refine jv_getf (fk := 6) C (by decide) (va_up_self _ _ _) rfl in_X9_four_9 (by decide) (by decide +kernel) rfl rfl dX9_four_12 ?_
  refine jv_iload_n C dX9_four_15 2 rfl ?_
  refine jv_iload_n C dX9_four_16 0 rfl ?_
  refine jv_ishr C dX9_four_17 ?_
  refine jv_i2b C dX9_four_18 ?_
  refine jv_bast C (by decide) (jv_n (by decide) (va_up_self _ _ _)) (jv_vi (by decide)) dX9_four_19 ?_
  refine jv_aload_n C dX9_four_20 1 rfl ?_
  refine jv_dup C dX9_four_21 rfl ?_
  refine jv_getf (fk := 6) C (by decide) (jv_n (by decide) (va_up_self _ _ _)) rfl in_X9_four_9 (by decide) (by decide +kernel) rfl rfl dX9_four_22 ?_
  refine jv_iconst (v := 1) C dX9_four_25 (by decide) ?_
  refine jv_iadd C dX9_four_26 ?_
  refine jv_ti (y := 18) (by decide) ?_
  refine jv_putf (fk := 6) (ty := .int) (fs2 := [.int 0, .ref 59, .ref 60, .ref 61, .ref 62, .ref 63, .int 18, .int 0, .int 0, .int 0, .int 0, .long 0, .int 0, .int 0, .int 0, .int (-1), .ref 64, .ref 65, .ref 66, .ref 67, .ref 68, .ref 69, .ref 70, .ref 71, .ref 72, .ref 73, .int 0, .ref 74, .ref 75, .ref 76, .int 0, .int 0, .ref 77, .ref 78, .ref 79, .int 0, .int 0, .int 0, .ref 80, .ref 81, .ref 82, .long 0, .ref 83, .int 0, .int 0, .int 0]) C (by decide) (jv_n (by decide) (va_up_self _ _ _)) rfl in_X9_four_9 tyX9 tyX9_ok nmX9 (by decide) (by decide +kernel) rfl rfl rfl (fun _ => rfl) (fun _ => rfl) (Nat.le_of_ble_eq_true rfl) dX9_four_27 rfl ?_
  refine jv_iinc (lv2 := [(2, .int 8), (0, .ref 58), (1, .int p1)]) C dX9_four_30 hnl 0 rfl (by decide) (by decide) rfl ?_
  refine jv_goto (tgt := 3) C dX9_four_33 (by decide) ?_
  refine jv_iload_n C dX9_four_3 0 rfl ?_
  refine jv_if_lt (tgt := 36) C dX9_four_4 (by decide) (fun h => absurd h (by decide)) (fun _ => ?_)
  refine jv_aload_n C dX9_four_7 1 rfl ?_
  refine jv_getf (fk := 5) C (by decide) (va_up_self _ _ _) rfl in_X9_four_9 (by decide) (by decide +kernel) rfl rfl dX9_four_8 ?_
  refine jv_aload_n C dX9_four_11 1 rfl ?_
  refine jv_getf (fk := 6) C (by decide) (va_up_self _ _ _) rfl in_X9_four_9 (by decide) (by decide +kernel) rfl rfl dX9_four_12 ?_
  refine jv_iload_n C dX9_four_15 2 rfl ?_
  refine jv_iload_n C dX9_four_16 0 rfl ?_
  refine jv_ishr C dX9_four_17 ?_
  refine jv_i2b C dX9_four_18 ?_
  refine jv_bast C (by decide) (jv_n (by decide) (va_up_self _ _ _)) (jv_vi (by decide)) dX9_four_19 ?_
  refine jv_aload_n C dX9_four_20 1 rfl ?_
  refine jv_dup C dX9_four_21 rfl ?_
  refine jv_getf (fk := 6) C (by decide) (jv_n (by decide) (va_up_self _ _ _)) rfl in_X9_four_9 (by decide) (by decide +kernel) rfl rfl dX9_four_22 ?_
  refine jv_iconst (v := 1) C dX9_four_25 (by decide) ?_
  refine jv_iadd C dX9_four_26 ?_
  refine jv_ti (y := 19) (by decide) ?_
  refine jv_putf (fk := 6) (ty := .int) (fs2 := [.int 0, .ref 59, .ref 60, .ref 61, .ref 62, .ref 63, .int 19, .int 0, .int 0, .int 0, .int 0, .long 0, .int 0, .int 0, .int 0, .int (-1), .ref 64, .ref 65, .ref 66, .ref 67, .ref 68, .ref 69, .ref 70, .ref 71, .ref 72, .ref 73, .int 0, .ref 74, .ref 75, .ref 76, .int 0, .int 0, .ref 77, .ref 78, .ref 79, .int 0, .int 0, .int 0, .ref 80, .ref 81, .ref 82, .long 0, .ref 83, .int 0, .int 0, .int 0]) C (by decide) (jv_n (by decide) (va_up_self _ _ _)) rfl in_X9_four_9 tyX9 tyX9_ok nmX9 (by decide) (by decide +kernel) rfl rfl rfl (fun _ => rfl) (fun _ => rfl) (Nat.le_of_ble_eq_true rfl) dX9_four_27 rfl ?_
  refine jv_iinc (lv2 := [(2, .int 0), (0, .ref 58), (1, .int p1)]) C dX9_four_30 hnl 0 rfl (by decide) (by decide) rfl ?_
  refine jv_goto (tgt := 3) C dX9_four_33 (by decide) ?_
  refine jv_iload_n C dX9_four_3 0 rfl ?_
  refine jv_if_lt (tgt := 36) C dX9_four_4 (by decide) (fun h => absurd h (by decide)) (fun _ => ?_)
  refine jv_aload_n C dX9_four_7 1 rfl ?_
  refine jv_getf (fk := 5) C (by decide) (va_up_self _ _ _) rfl in_X9_four_9 (by decide) (by decide +kernel) rfl rfl dX9_four_8 ?_
  refine jv_aload_n C dX9_four_11 1 rfl ?_
  refine jv_getf (fk := 6) C (by decide) (va_up_self _ _ _) rfl in_X9_four_9 (by decide) (by decide +kernel) rfl rfl dX9_four_12 ?_
  refine jv_iload_n C dX9_four_15 2 rfl ?_
  refine jv_iload_n C dX9_four_16 0 rfl ?_
  refine jv_ishr C dX9_four_17 ?_
  refine jv_i2b C dX9_four_18 ?_
  refine jv_bast C (by decide) (jv_n (by decide) (va_up_self _ _ _)) (jv_vi (by decide)) dX9_four_19 ?_
  refine jv_aload_n C dX9_four_20 1 rfl ?_
  refine jv_dup C dX9_four_21 rfl ?_
  refine jv_getf (fk := 6) C (by decide) (jv_n (by decide) (va_up_self _ _ _)) rfl in_X9_four_9 (by decide) (by decide +kernel) rfl rfl dX9_four_22 ?_
  refine jv_iconst (v := 1) C dX9_four_25 (by decide) ?_
  refine jv_iadd C dX9_four_26 ?_
  refine jv_ti (y := 20) (by decide) ?_
  refine jv_putf (fk := 6) (ty := .int) (fs2 := [.int 0, .ref 59, .ref 60, .ref 61, .ref 62, .ref 63, .int 20, .int 0, .int 0, .int 0, .int 0, .long 0, .int 0, .int 0, .int 0, .int (-1), .ref 64, .ref 65, .ref 66, .ref 67, .ref 68, .ref 69, .ref 70, .ref 71, .ref 72, .ref 73, .int 0, .ref 74, .ref 75, .ref 76, .int 0, .int 0, .ref 77, .ref 78, .ref 79, .int 0, .int 0, .int 0, .ref 80, .ref 81, .ref 82, .long 0, .ref 83, .int 0, .int 0, .int 0]) C (by decide) (jv_n (by decide) (va_up_self _ _ _)) rfl in_X9_four_9 tyX9 tyX9_ok nmX9 (by decide) (by decide +kernel) rfl rfl rfl (fun _ => rfl) (fun _ => rfl) (Nat.le_of_ble_eq_true rfl) dX9_four_27 rfl ?_
  refine jv_iinc (lv2 := [(2, .int (-8)), (0, .ref 58), (1, .int p1)]) C dX9_four_30 hnl 0 rfl (by decide) (by decide) rfl ?_
  refine jv_goto (tgt := 3) C dX9_four_33 (by decide) ?_
  refine jv_iload_n C dX9_four_3 0 rfl ?_
  refine jv_if_lt (tgt := 36) C dX9_four_4 (by decide) (fun _ => ?_) (fun h => absurd (by decide) h)
  exact jv_vret C B ⟨rfl, rfl, fun j g0 g1 => ((va_up_ne _ _ g0).trans ((va_up_ne _ _ g1).trans ((va_up_ne _ _ g0).trans ((va_up_ne _ _ g1).trans ((va_up_ne _ _ g0).trans ((va_up_ne _ _ g1).trans ((va_up_ne _ _ g0).trans (va_up_ne _ _ g1)))))))), (va_up_self _ _ _), ⟨_, (jv_n (by decide) (va_up_self _ _ _))⟩⟩ ⟨by decide, by decide⟩ dX9_four_36
theorem q_X9_four : yX9_four.cls ≠ "java/lang/invoke/MethodHandle" ∧ yX9_four.cls ≠ "java/lang/invoke/VarHandle" ∧ (parseMethodDescriptor yX9_four.desc).map (fun d => d.parameters.length) = some 1 := by decide +kernel
theorem in_X9_feed_9 : ∀ w ∈ u_ws RX9 TX9 46, w ∈ wsX9_feed := by decide +kernel
set_option maxRecDepth 100000 in
set_option maxHeartbeats 8000000 in
theorem c_X9_feed (l : Launch) (D : va_G) (kp : Nat → ClassId) {n : Nat} {E : Nat → jv_E} (h58 : E 58 = cx58) (h63 : E 63 = cx63) (p1 : Int32) (p2 : Int32) (p3 : Int32) (p4 : Int32) (p5 : Int32) : jv_M l D vwCl kp yX9_feed wsX9_feed rm2 [] [.ref 58, .int p1, .int p2, .int p3, .int p4, .int p5] n E 0 0 (fun r n1 E1 => some (.int 20) = r) := by
  refine jv_of (by decide) rfl (Nat.le_of_ble_eq_true rfl) (fun G C B hI hnl => ?_)
  show jv_V l D vwCl kp G 0 0 n E 0 [(0, .ref 58), (1, .int p1), (2, .int p2), (3, .int p3), (4, .int p4), (5, .int p5)] []
  refine jv_aload_n C dX9_feed_0 0 rfl ?_
  refine jv_iconst (v := 0) C dX9_feed_1 (by decide) ?_
  refine jv_putf (fk := 0) (ty := .int) (fs2 := [.int 0, .ref 59, .ref 60, .ref 61, .ref 62, .ref 63, .int 0, .int 0, .int 0, .int 0, .int 0, .long 0, .int 0, .int 0, .int 0, .int (-1), .ref 64, .ref 65, .ref 66, .ref 67, .ref 68, .ref 69, .ref 70, .ref 71, .ref 72, .ref 73, .int 0, .ref 74, .ref 75, .ref 76, .int 0, .int 0, .ref 77, .ref 78, .ref 79, .int 0, .int 0, .int 0, .ref 80, .ref 81, .ref 82, .long 0, .ref 83, .int 0, .int 0, .int 0]) C (by decide) h58 rfl in_X9_feed_9 tyX9 tyX9_ok nmX9 (by decide) (by decide +kernel) rfl rfl rfl (fun _ => rfl) (fun _ => rfl) (Nat.le_of_ble_eq_true rfl) dX9_feed_2 rfl ?_
  refine jv_aload_n C dX9_feed_5 0 rfl ?_
  refine jv_getf (fk := 6) C (by decide) (va_up_self _ _ _) rfl in_X9_feed_9 (by decide) (by decide +kernel) rfl rfl dX9_feed_6 ?_
  refine jv_bipush (v := 20) C dX9_feed_9 (by decide) ?_
  refine jv_iadd C dX9_feed_11 ?_
  refine jv_ti (y := 20) (by decide) ?_
  refine jv_sipush (v := 1600) C dX9_feed_12 (by decide) ?_
  refine jv_icmp_le (tgt := 20) C dX9_feed_15 (by decide) (fun _ => ?_) (fun h => absurd (by decide) h)
  refine jv_aload_n C dX9_feed_20 0 rfl ?_
  refine jv_iload_n C dX9_feed_21 1 rfl ?_
  refine jv_callV (na := 1) (As := [.int p1]) (st := []) C (c_X9_four_0 l D kp (va_up_self _ _ _) (jv_n (by decide) h63) p1 ) gX9_feed_X9_four rfl (by decide) (va_up_self _ _ _) rfl rfl rfl q_X9_four rfl ⟨by decide, by decide⟩ ⟨by decide, by decide⟩ (fun _ h => absurd h List.not_mem_nil) (Nat.le_of_ble_eq_true rfl) rfl dX9_feed_22 (fun r n1 E_1 hp _ => ?_)
  obtain ⟨rfl, rfl, hf2, e3, ⟨g_5, e4⟩⟩ := hp
  show jv_V l D vwCl kp G 0 0 n E_1 25 [(0, .ref 58), (1, .int p1), (2, .int p2), (3, .int p3), (4, .int p4), (5, .int p5)] []
  refine jv_aload_n C dX9_feed_25 0 rfl ?_
  refine jv_iload_n C dX9_feed_26 2 rfl ?_
  refine jv_callV (na := 1) (As := [.int p2]) (st := []) C (c_X9_four_4 l D kp e3 e4 p2 ) gX9_feed_X9_four rfl (by decide) e3 rfl rfl rfl q_X9_four rfl ⟨by decide, by decide⟩ ⟨by decide, by decide⟩ (fun _ h => absurd h List.not_mem_nil) (Nat.le_of_ble_eq_true rfl) rfl dX9_feed_27 (fun r n1 E_6 hp _ => ?_)
  obtain ⟨rfl, rfl, hf7, e8, ⟨g_10, e9⟩⟩ := hp
  show jv_V l D vwCl kp G 0 0 n E_6 30 [(0, .ref 58), (1, .int p1), (2, .int p2), (3, .int p3), (4, .int p4), (5, .int p5)] []
  refine jv_aload_n C dX9_feed_30 0 rfl ?_
  refine jv_iload_n C dX9_feed_31 3 rfl ?_
  refine jv_callV (na := 1) (As := [.int p3]) (st := []) C (c_X9_four_8 l D kp e8 e9 p3 ) gX9_feed_X9_four rfl (by decide) e8 rfl rfl rfl q_X9_four rfl ⟨by decide, by decide⟩ ⟨by decide, by decide⟩ (fun _ h => absurd h List.not_mem_nil) (Nat.le_of_ble_eq_true rfl) rfl dX9_feed_32 (fun r n1 E_11 hp _ => ?_)
  obtain ⟨rfl, rfl, hf12, e13, ⟨g_15, e14⟩⟩ := hp
  show jv_V l D vwCl kp G 0 0 n E_11 35 [(0, .ref 58), (1, .int p1), (2, .int p2), (3, .int p3), (4, .int p4), (5, .int p5)] []
  refine jv_aload_n C dX9_feed_35 0 rfl ?_
  refine jv_iload C dX9_feed_36 4 rfl ?_
  refine jv_callV (na := 1) (As := [.int p4]) (st := []) C (c_X9_four_12 l D kp e13 e14 p4 ) gX9_feed_X9_four rfl (by decide) e13 rfl rfl rfl q_X9_four rfl ⟨by decide, by decide⟩ ⟨by decide, by decide⟩ (fun _ h => absurd h List.not_mem_nil) (Nat.le_of_ble_eq_true rfl) rfl dX9_feed_38 (fun r n1 E_16 hp _ => ?_)
  obtain ⟨rfl, rfl, hf17, e18, ⟨g_20, e19⟩⟩ := hp
  show jv_V l D vwCl kp G 0 0 n E_16 41 [(0, .ref 58), (1, .int p1), (2, .int p2), (3, .int p3), (4, .int p4), (5, .int p5)] []
  refine jv_aload_n C dX9_feed_41 0 rfl ?_
  refine jv_iload C dX9_feed_42 5 rfl ?_
  refine jv_callV (na := 1) (As := [.int p5]) (st := []) C (c_X9_four_16 l D kp e18 e19 p5 ) gX9_feed_X9_four rfl (by decide) e18 rfl rfl rfl q_X9_four rfl ⟨by decide, by decide⟩ ⟨by decide, by decide⟩ (fun _ h => absurd h List.not_mem_nil) (Nat.le_of_ble_eq_true rfl) rfl dX9_feed_44 (fun r n1 E_21 hp _ => ?_)
  obtain ⟨rfl, rfl, hf22, e23, ⟨g_25, e24⟩⟩ := hp
  show jv_V l D vwCl kp G 0 0 n E_21 47 [(0, .ref 58), (1, .int p1), (2, .int p2), (3, .int p3), (4, .int p4), (5, .int p5)] []
  refine jv_aload_n C dX9_feed_47 0 rfl ?_
  refine jv_getf (fk := 6) C (by decide) e23 rfl in_X9_feed_9 (by decide) (by decide +kernel) rfl rfl dX9_feed_48 ?_
  exact jv_iret C B rfl ⟨by decide, by decide⟩ dX9_feed_51
theorem in_X9_end_9 : ∀ w ∈ u_ws RX9 TX9 46, w ∈ wsX9_end := by decide +kernel
set_option maxRecDepth 100000 in
set_option maxHeartbeats 8000000 in
theorem c_X9_end (l : Launch) (D : va_G) (kp : Nat → ClassId) {n : Nat} {E : Nat → jv_E} (h58 : E 58 = cx58) (p1 : Int32) : jv_M l D vwCl kp yX9_end wsX9_end rm2 [] [.ref 58, .int p1] n E 0 0 (fun r n1 E1 => some (.int (jr_end p1)) = r) := by
  refine jv_of (by decide) rfl (Nat.le_of_ble_eq_true rfl) (fun G C B hI hnl => ?_)
  show jv_V l D vwCl kp G 0 0 n E 0 [(0, .ref 58), (1, .int p1)] []
  refine jv_aload_n C dX9_end_0 0 rfl ?_
  refine jv_iconst (v := 0) C dX9_end_1 (by decide) ?_
  refine jv_putf (fk := 0) (ty := .int) (fs2 := [.int 0, .ref 59, .ref 60, .ref 61, .ref 62, .ref 63, .int 0, .int 0, .int 0, .int 0, .int 0, .long 0, .int 0, .int 0, .int 0, .int (-1), .ref 64, .ref 65, .ref 66, .ref 67, .ref 68, .ref 69, .ref 70, .ref 71, .ref 72, .ref 73, .int 0, .ref 74, .ref 75, .ref 76, .int 0, .int 0, .ref 77, .ref 78, .ref 79, .int 0, .int 0, .int 0, .ref 80, .ref 81, .ref 82, .long 0, .ref 83, .int 0, .int 0, .int 0]) C (by decide) h58 rfl in_X9_end_9 tyX9 tyX9_ok nmX9 (by decide) (by decide +kernel) rfl rfl rfl (fun _ => rfl) (fun _ => rfl) (Nat.le_of_ble_eq_true rfl) dX9_end_2 rfl ?_
  refine jv_iload_n C dX9_end_5 1 rfl ?_
  refine jv_i2l C dX9_end_6 ?_
  refine jv_lconst (v := 0) C dX9_end_7 (by decide) ?_
  refine jv_aload_n C dX9_end_8 0 rfl ?_
  refine jv_getf (fk := 6) C (by decide) (va_up_self _ _ _) rfl in_X9_end_9 (by decide) (by decide +kernel) rfl rfl dX9_end_9 ?_
  refine jv_i2l C dX9_end_12 ?_
  refine jv_tl (y := 0) (by decide) ?_
  refine jv_callS (na := 3) (As := [.long p1.toInt64, .long 0, .long 0]) (st := []) C (c_X9_in l D kp p1.toInt64 0 0 p1.toInt 0 0 (jv_t64 p1) (by decide) (by decide)) gX9_end_X9_in rfl rfl rfl q_X9_in rfl ⟨by decide, by decide⟩ ⟨by decide, by decide⟩ (fun _ h => absurd h List.not_mem_nil) (Nat.le_of_ble_eq_true rfl) rfl dX9_end_13 (fun r n1 E_1 hp _ => ?_)
  obtain ⟨⟨rfl, q2⟩ | ⟨rfl, q2⟩, rfl, rfl⟩ := hp
  · show jv_V l D vwCl kp G 0 0 n (va_up E 58 (.inr (9, [.int 0, .ref 59, .ref 60, .ref 61, .ref 62, .ref 63, .int 0, .int 0, .int 0, .int 0, .int 0, .long 0, .int 0, .int 0, .int 0, .int (-1), .ref 64, .ref 65, .ref 66, .ref 67, .ref 68, .ref 69, .ref 70, .ref 71, .ref 72, .ref 73, .int 0, .ref 74, .ref 75, .ref 76, .int 0, .int 0, .ref 77, .ref 78, .ref 79, .int 0, .int 0, .int 0, .ref 80, .ref 81, .ref 82, .long 0, .ref 83, .int 0, .int 0, .int 0]))) 16 [(0, .ref 58), (1, .int p1)] [.int 1]
    refine jv_if_ne (tgt := 21) C dX9_end_16 (by decide) (fun _ => ?_) (fun h => absurd h (by decide))
    refine jv_aload_n C dX9_end_21 0 rfl ?_
    refine jv_iload_n C dX9_end_22 1 rfl ?_
    refine jv_putf (fk := 6) (ty := .int) (fs2 := [.int 0, .ref 59, .ref 60, .ref 61, .ref 62, .ref 63, .int p1, .int 0, .int 0, .int 0, .int 0, .long 0, .int 0, .int 0, .int 0, .int (-1), .ref 64, .ref 65, .ref 66, .ref 67, .ref 68, .ref 69, .ref 70, .ref 71, .ref 72, .ref 73, .int 0, .ref 74, .ref 75, .ref 76, .int 0, .int 0, .ref 77, .ref 78, .ref 79, .int 0, .int 0, .int 0, .ref 80, .ref 81, .ref 82, .long 0, .ref 83, .int 0, .int 0, .int 0]) C (by decide) (va_up_self _ _ _) rfl in_X9_end_9 tyX9 tyX9_ok nmX9 (by decide) (by decide +kernel) rfl rfl rfl (fun _ => rfl) (fun _ => rfl) (Nat.le_of_ble_eq_true rfl) dX9_end_23 rfl ?_
    refine jv_iload_n C dX9_end_26 1 rfl ?_
    refine jv_ti (y := 0) (jv_r_eq (by have a0 := q2; have z0 : (0 : Int32).toInt = 0 := (by decide); omega)) ?_
    exact jv_iret C B (by have a0 := q2; simp only [jr_end]; (repeat' split) <;> first | rfl | (exfalso; omega)) ⟨by decide, by decide⟩ dX9_end_27
  · show jv_V l D vwCl kp G 0 0 n (va_up E 58 (.inr (9, [.int 0, .ref 59, .ref 60, .ref 61, .ref 62, .ref 63, .int 0, .int 0, .int 0, .int 0, .int 0, .long 0, .int 0, .int 0, .int 0, .int (-1), .ref 64, .ref 65, .ref 66, .ref 67, .ref 68, .ref 69, .ref 70, .ref 71, .ref 72, .ref 73, .int 0, .ref 74, .ref 75, .ref 76, .int 0, .int 0, .ref 77, .ref 78, .ref 79, .int 0, .int 0, .int 0, .ref 80, .ref 81, .ref 82, .long 0, .ref 83, .int 0, .int 0, .int 0]))) 16 [(0, .ref 58), (1, .int p1)] [.int 0]
    refine jv_if_ne (tgt := 21) C dX9_end_16 (by decide) (fun h => absurd h (by decide)) (fun _ => ?_)
    refine jv_iconst (v := (-1)) C dX9_end_19 (by decide) ?_
    exact jv_iret C B (by have a0 := q2; simp only [jr_end]; (repeat' split) <;> first | rfl | (exfalso; omega)) ⟨by decide, by decide⟩ dX9_end_20
theorem in_X9_fault_9 : ∀ w ∈ u_ws RX9 TX9 46, w ∈ wsX9_fault := by decide +kernel
set_option maxRecDepth 100000 in
set_option maxHeartbeats 8000000 in
theorem c_X9_fault (l : Launch) (D : va_G) (kp : Nat → ClassId) {n : Nat} {E : Nat → jv_E} (h58 : E 58 = cx58) (p1 : Int32) : jv_M l D vwCl kp yX9_fault wsX9_fault rm1 [] [.ref 58, .int p1] n E 0 0 (fun r n1 E1 => some (.int (jr_end p1)) = r) := by
  refine jv_of (by decide) rfl (Nat.le_of_ble_eq_true rfl) (fun G C B hI hnl => ?_)
  show jv_V l D vwCl kp G 0 0 n E 0 [(0, .ref 58), (1, .int p1)] []
  refine jv_aload_n C dX9_fault_0 0 rfl ?_
  refine jv_iconst (v := 0) C dX9_fault_1 (by decide) ?_
  refine jv_putf (fk := 0) (ty := .int) (fs2 := [.int 0, .ref 59, .ref 60, .ref 61, .ref 62, .ref 63, .int 0, .int 0, .int 0, .int 0, .int 0, .long 0, .int 0, .int 0, .int 0, .int (-1), .ref 64, .ref 65, .ref 66, .ref 67, .ref 68, .ref 69, .ref 70, .ref 71, .ref 72, .ref 73, .int 0, .ref 74, .ref 75, .ref 76, .int 0, .int 0, .ref 77, .ref 78, .ref 79, .int 0, .int 0, .int 0, .ref 80, .ref 81, .ref 82, .long 0, .ref 83, .int 0, .int 0, .int 0]) C (by decide) h58 rfl in_X9_fault_9 tyX9 tyX9_ok nmX9 (by decide) (by decide +kernel) rfl rfl rfl (fun _ => rfl) (fun _ => rfl) (Nat.le_of_ble_eq_true rfl) dX9_fault_2 rfl ?_
  refine jv_iload_n C dX9_fault_5 1 rfl ?_
  refine jv_if_ne (tgt := 16) C dX9_fault_6 (by decide) (fun c1 => ?_) (fun c1 => ?_)
  · refine jv_iload_n C dX9_fault_16 1 rfl ?_
    refine jv_iconst (v := 1) C dX9_fault_17 (by decide) ?_
    refine jv_icmp_ne (tgt := 28) C dX9_fault_18 (by decide) (fun c2 => ?_) (fun c2 => ?_)
    · refine jv_iconst (v := (-1)) C dX9_fault_28 (by decide) ?_
      exact jv_iret C B (by have a0 := jv_i_ne c1; have a1 := jv_i_ne c2; have z0 : (0 : Int32).toInt = 0 := (by decide); have z1 : (1 : Int32).toInt = 1 := (by decide); simp only [jr_end]; (repeat' split) <;> first | rfl | (exfalso; omega)) ⟨by decide, by decide⟩ dX9_fault_29
    · refine jv_aload_n C dX9_fault_21 0 rfl ?_
      refine jv_getf (fk := 15) C (by decide) (va_up_self _ _ _) rfl in_X9_fault_9 (by decide) (by decide +kernel) rfl rfl dX9_fault_22 ?_
      refine jv_goto (tgt := 29) C dX9_fault_25 (by decide) ?_
      exact jv_iret C B (by have a0 := jv_i_ne c1; have a1 := jv_i_eq c2; have z0 : (0 : Int32).toInt = 0 := (by decide); have z1 : (1 : Int32).toInt = 1 := (by decide); simp only [jr_end]; (repeat' split) <;> first | rfl | (exfalso; omega)) ⟨by decide, by decide⟩ dX9_fault_29
  · refine jv_aload_n C dX9_fault_9 0 rfl ?_
    refine jv_getf (fk := 14) C (by decide) (va_up_self _ _ _) rfl in_X9_fault_9 (by decide) (by decide +kernel) rfl rfl dX9_fault_10 ?_
    refine jv_goto (tgt := 29) C dX9_fault_13 (by decide) ?_
    exact jv_iret C B (by have a0 := jv_i_eq c1; have z0 : (0 : Int32).toInt = 0 := (by decide); simp only [jr_end]; (repeat' split) <;> first | rfl | (exfalso; omega)) ⟨by decide, by decide⟩ dX9_fault_29
theorem in_X9_isGood_9 : ∀ w ∈ u_ws RX9 TX9 46, w ∈ wsX9_isGood := by decide +kernel
set_option maxRecDepth 100000 in
set_option maxHeartbeats 8000000 in
theorem c_X9_isGood (l : Launch) (D : va_G) (kp : Nat → ClassId) {n : Nat} {E : Nat → jv_E} (h58 : E 58 = cx58)  : jv_M l D vwCl kp yX9_isGood wsX9_isGood rm1 [] [.ref 58] n E 0 0 (fun r n1 E1 => some (.int 1) = r ∧ n = n1 ∧ E = E1) := by
  refine jv_of (by decide) rfl (Nat.le_of_ble_eq_true rfl) (fun G C B hI hnl => ?_)
  show jv_V l D vwCl kp G 0 0 n E 0 [(0, .ref 58)] []
  refine jv_aload_n C dX9_isGood_0 0 rfl ?_
  refine jv_getf (fk := 12) C (by decide) h58 rfl in_X9_isGood_9 (by decide) (by decide +kernel) rfl rfl dX9_isGood_1 ?_
  refine jv_if_ne (tgt := 11) C dX9_isGood_4 (by decide) (fun h => absurd h (by decide)) (fun _ => ?_)
  refine jv_iconst (v := 1) C dX9_isGood_7 (by decide) ?_
  refine jv_goto (tgt := 12) C dX9_isGood_8 (by decide) ?_
  exact jv_zret C B (by decide) ⟨rfl, rfl, rfl⟩ ⟨by decide, by decide⟩ dX9_isGood_12
theorem in_X9_isByte_9 : ∀ w ∈ u_ws RX9 TX9 46, w ∈ wsX9_isByte := by decide +kernel
set_option maxRecDepth 100000 in
set_option maxHeartbeats 8000000 in
theorem c_X9_isByte (l : Launch) (D : va_G) (kp : Nat → ClassId) {n : Nat} {E : Nat → jv_E} (h58 : E 58 = .inr (9, [.int 0, .ref 59, .ref 60, .ref 61, .ref 62, .ref 63, .int 0, .int 0, .int 0, .int 0, .int 0, .long 0, .int 0, .int (-1), .int 0, .int (-1), .ref 64, .ref 65, .ref 66, .ref 67, .ref 68, .ref 69, .ref 70, .ref 71, .ref 72, .ref 73, .int 0, .ref 74, .ref 75, .ref 76, .int 0, .int 0, .ref 77, .ref 78, .ref 79, .int 0, .int 0, .int 0, .ref 80, .ref 81, .ref 82, .long 0, .ref 83, .int 0, .int 0, .int 0])) (p2 : Int32) (p3 : Int32) : jv_M l D vwCl kp yX9_isByte wsX9_isByte rm1 [] [.ref 58, .int 0, .int p2, .int p3] n E 0 0 (fun r n1 E1 => some (.int 0) = r ∧ n = n1 ∧ E = E1) := by
  refine jv_of (by decide) rfl (Nat.le_of_ble_eq_true rfl) (fun G C B hI hnl => ?_)
  show jv_V l D vwCl kp G 0 0 n E 0 [(0, .ref 58), (1, .int 0), (2, .int p2), (3, .int p3)] []
  refine jv_iload_n C dX9_isByte_0 1 rfl ?_
  refine jv_aload_n C dX9_isByte_1 0 rfl ?_
  refine jv_getf (fk := 6) C (by decide) h58 rfl in_X9_isByte_9 (by decide) (by decide +kernel) rfl rfl dX9_isByte_2 ?_
  refine jv_icmp_ge (tgt := 32) C dX9_isByte_5 (by decide) (fun _ => ?_) (fun h => absurd (by decide) h)
  refine jv_iconst (v := 0) C dX9_isByte_32 (by decide) ?_
  exact jv_zret C B (by decide) ⟨rfl, rfl, rfl⟩ ⟨by decide, by decide⟩ dX9_isByte_33
theorem q_X9_isByte : yX9_isByte.cls ≠ "java/lang/invoke/MethodHandle" ∧ yX9_isByte.cls ≠ "java/lang/invoke/VarHandle" ∧ (parseMethodDescriptor yX9_isByte.desc).map (fun d => d.parameters.length) = some 3 := by decide +kernel
theorem in_X9_next_9 : ∀ w ∈ u_ws RX9 TX9 46, w ∈ wsX9_next := by decide +kernel
set_option maxRecDepth 100000 in
set_option maxHeartbeats 8000000 in
theorem c_X9_next (l : Launch) (D : va_G) (kp : Nat → ClassId) {n : Nat} {E : Nat → jv_E} (h58 : E 58 = .inr (9, [.int 0, .ref 59, .ref 60, .ref 61, .ref 62, .ref 63, .int 0, .int 0, .int 0, .int 0, .int 0, .long 0, .int 0, .int (-1), .int 0, .int (-1), .ref 64, .ref 65, .ref 66, .ref 67, .ref 68, .ref 69, .ref 70, .ref 71, .ref 72, .ref 73, .int 0, .ref 74, .ref 75, .ref 76, .int 0, .int 0, .ref 77, .ref 78, .ref 79, .int 0, .int 0, .int 0, .ref 80, .ref 81, .ref 82, .long 0, .ref 83, .int 0, .int 0, .int 0]))  : jv_M l D vwCl kp yX9_next wsX9_next rm2 [] [.ref 58] n E 0 0 (fun r n1 E1 => none = r ∧ n = n1 ∧ (∀ j, j ≠ 58 → E1 j = E j) ∧ E1 58 = .inr (9, [.int 0, .ref 59, .ref 60, .ref 61, .ref 62, .ref 63, .int 0, .int 0, .int 0, .int 0, .int 0, .long 0, .int 0, .int (-1), .int 0, .int (-1), .ref 64, .ref 65, .ref 66, .ref 67, .ref 68, .ref 69, .ref 70, .ref 71, .ref 72, .ref 73, .int 0, .ref 74, .ref 75, .ref 76, .int 0, .int 0, .ref 77, .ref 78, .ref 79, .int 0, .int 0, .int 0, .ref 80, .ref 81, .ref 82, .long 0, .ref 83, .int 0, .int 0, .int 0])) := by
  refine jv_of (by decide) rfl (Nat.le_of_ble_eq_true rfl) (fun G C B hI hnl => ?_)
  show jv_V l D vwCl kp G 0 0 n E 0 [(0, .ref 58)] []
  refine jv_aload_n C dX9_next_0 0 rfl ?_
  refine jv_aload_n C dX9_next_1 0 rfl ?_
  refine jv_getf (fk := 7) C (by decide) h58 rfl in_X9_next_9 (by decide) (by decide +kernel) rfl rfl dX9_next_2 ?_
  refine jv_bipush (v := 32) C dX9_next_5 (by decide) ?_
  refine jv_bipush (v := 32) C dX9_next_7 (by decide) ?_
  refine jv_callV (na := 3) (As := [.int 0, .int 32, .int 32]) (st := []) C (c_X9_isByte l D kp h58 32 32 ) gX9_next_X9_isByte rfl (by decide) h58 rfl rfl rfl q_X9_isByte rfl ⟨by decide, by decide⟩ ⟨by decide, by decide⟩ (fun _ h => absurd h List.not_mem_nil) (Nat.le_of_ble_eq_true rfl) rfl dX9_next_9 (fun r n1 E_1 hp _ => ?_)
  obtain ⟨rfl, rfl, rfl⟩ := hp
  show jv_V l D vwCl kp G 0 0 n E 12 [(0, .ref 58)] [.int 0]
  refine jv_if_ne (tgt := 30) C dX9_next_12 (by decide) (fun h => absurd h (by decide)) (fun _ => ?_)
  refine jv_aload_n C dX9_next_15 0 rfl ?_
  refine jv_aload_n C dX9_next_16 0 rfl ?_
  refine jv_getf (fk := 7) C (by decide) h58 rfl in_X9_next_9 (by decide) (by decide +kernel) rfl rfl dX9_next_17 ?_
  refine jv_bipush (v := 10) C dX9_next_20 (by decide) ?_
  refine jv_bipush (v := 10) C dX9_next_22 (by decide) ?_
  refine jv_callV (na := 3) (As := [.int 0, .int 10, .int 10]) (st := []) C (c_X9_isByte l D kp h58 10 10 ) gX9_next_X9_isByte rfl (by decide) h58 rfl rfl rfl q_X9_isByte rfl ⟨by decide, by decide⟩ ⟨by decide, by decide⟩ (fun _ h => absurd h List.not_mem_nil) (Nat.le_of_ble_eq_true rfl) rfl dX9_next_24 (fun r n1 E_2 hp _ => ?_)
  obtain ⟨rfl, rfl, rfl⟩ := hp
  show jv_V l D vwCl kp G 0 0 n E 27 [(0, .ref 58)] [.int 0]
  refine jv_if_eq (tgt := 43) C dX9_next_27 (by decide) (fun _ => ?_) (fun h => absurd (by decide) h)
  refine jv_aload_n C dX9_next_43 0 rfl ?_
  refine jv_aload_n C dX9_next_44 0 rfl ?_
  refine jv_getf (fk := 7) C (by decide) h58 rfl in_X9_next_9 (by decide) (by decide +kernel) rfl rfl dX9_next_45 ?_
  refine jv_putf (fk := 9) (ty := .int) (fs2 := [.int 0, .ref 59, .ref 60, .ref 61, .ref 62, .ref 63, .int 0, .int 0, .int 0, .int 0, .int 0, .long 0, .int 0, .int (-1), .int 0, .int (-1), .ref 64, .ref 65, .ref 66, .ref 67, .ref 68, .ref 69, .ref 70, .ref 71, .ref 72, .ref 73, .int 0, .ref 74, .ref 75, .ref 76, .int 0, .int 0, .ref 77, .ref 78, .ref 79, .int 0, .int 0, .int 0, .ref 80, .ref 81, .ref 82, .long 0, .ref 83, .int 0, .int 0, .int 0]) C (by decide) h58 rfl in_X9_next_9 tyX9 tyX9_ok nmX9 (by decide) (by decide +kernel) rfl rfl rfl (fun _ => rfl) (fun _ => rfl) (Nat.le_of_ble_eq_true rfl) dX9_next_48 rfl ?_
  refine jv_aload_n C dX9_next_51 0 rfl ?_
  refine jv_iconst (v := 0) C dX9_next_52 (by decide) ?_
  refine jv_putf (fk := 10) (ty := .int) (fs2 := [.int 0, .ref 59, .ref 60, .ref 61, .ref 62, .ref 63, .int 0, .int 0, .int 0, .int 0, .int 0, .long 0, .int 0, .int (-1), .int 0, .int (-1), .ref 64, .ref 65, .ref 66, .ref 67, .ref 68, .ref 69, .ref 70, .ref 71, .ref 72, .ref 73, .int 0, .ref 74, .ref 75, .ref 76, .int 0, .int 0, .ref 77, .ref 78, .ref 79, .int 0, .int 0, .int 0, .ref 80, .ref 81, .ref 82, .long 0, .ref 83, .int 0, .int 0, .int 0]) C (by decide) (va_up_self _ _ _) rfl in_X9_next_9 tyX9 tyX9_ok nmX9 (by decide) (by decide +kernel) rfl rfl rfl (fun _ => rfl) (fun _ => rfl) (Nat.le_of_ble_eq_true rfl) dX9_next_53 rfl ?_
  refine jv_aload_n C dX9_next_56 0 rfl ?_
  refine jv_lconst (v := 0) C dX9_next_57 (by decide) ?_
  refine jv_putf (fk := 11) (ty := .long) (fs2 := [.int 0, .ref 59, .ref 60, .ref 61, .ref 62, .ref 63, .int 0, .int 0, .int 0, .int 0, .int 0, .long 0, .int 0, .int (-1), .int 0, .int (-1), .ref 64, .ref 65, .ref 66, .ref 67, .ref 68, .ref 69, .ref 70, .ref 71, .ref 72, .ref 73, .int 0, .ref 74, .ref 75, .ref 76, .int 0, .int 0, .ref 77, .ref 78, .ref 79, .int 0, .int 0, .int 0, .ref 80, .ref 81, .ref 82, .long 0, .ref 83, .int 0, .int 0, .int 0]) C (by decide) (va_up_self _ _ _) rfl in_X9_next_9 tyX9 tyX9_ok nmX9 (by decide) (by decide +kernel) rfl rfl rfl (fun _ => rfl) (fun _ => rfl) (Nat.le_of_ble_eq_true rfl) dX9_next_58 rfl ?_
  refine jv_aload_n C dX9_next_61 0 rfl ?_
  refine jv_getf (fk := 7) C (by decide) (va_up_self _ _ _) rfl in_X9_next_9 (by decide) (by decide +kernel) rfl rfl dX9_next_62 ?_
  refine jv_aload_n C dX9_next_65 0 rfl ?_
  refine jv_getf (fk := 6) C (by decide) (va_up_self _ _ _) rfl in_X9_next_9 (by decide) (by decide +kernel) rfl rfl dX9_next_66 ?_
  refine jv_icmp_ne (tgt := 80) C dX9_next_69 (by decide) (fun h => absurd h (by decide)) (fun _ => ?_)
  refine jv_aload_n C dX9_next_72 0 rfl ?_
  refine jv_iconst (v := 0) C dX9_next_73 (by decide) ?_
  refine jv_putf (fk := 8) (ty := .int) (fs2 := [.int 0, .ref 59, .ref 60, .ref 61, .ref 62, .ref 63, .int 0, .int 0, .int 0, .int 0, .int 0, .long 0, .int 0, .int (-1), .int 0, .int (-1), .ref 64, .ref 65, .ref 66, .ref 67, .ref 68, .ref 69, .ref 70, .ref 71, .ref 72, .ref 73, .int 0, .ref 74, .ref 75, .ref 76, .int 0, .int 0, .ref 77, .ref 78, .ref 79, .int 0, .int 0, .int 0, .ref 80, .ref 81, .ref 82, .long 0, .ref 83, .int 0, .int 0, .int 0]) C (by decide) (va_up_self _ _ _) rfl in_X9_next_9 tyX9 tyX9_ok nmX9 (by decide) (by decide +kernel) rfl rfl rfl (fun _ => rfl) (fun _ => rfl) (Nat.le_of_ble_eq_true rfl) dX9_next_74 rfl ?_
  refine jv_goto (tgt := 307) C dX9_next_77 (by decide) ?_
  exact jv_vret C B ⟨rfl, rfl, fun j g0 => ((va_up_ne _ _ g0).trans ((va_up_ne _ _ g0).trans ((va_up_ne _ _ g0).trans (va_up_ne _ _ g0)))), (va_up_self _ _ _)⟩ ⟨by decide, by decide⟩ dX9_next_307
theorem q_X9_next : yX9_next.cls ≠ "java/lang/invoke/MethodHandle" ∧ yX9_next.cls ≠ "java/lang/invoke/VarHandle" ∧ (parseMethodDescriptor yX9_next.desc).map (fun d => d.parameters.length) = some 0 := by decide +kernel
theorem in_X9_begins_9 : ∀ w ∈ u_ws RX9 TX9 46, w ∈ wsX9_begins := by decide +kernel
set_option maxRecDepth 100000 in
set_option maxHeartbeats 8000000 in
theorem c_X9_begins (l : Launch) (D : va_G) (kp : Nat → ClassId) {n : Nat} {E : Nat → jv_E} (h58 : E 58 = cx58)  : jv_M l D vwCl kp yX9_begins wsX9_begins rm3 [] [.ref 58] n E 0 0 (fun r n1 E1 => none = r ∧ n = n1 ∧ (∀ j, j ≠ 58 → E1 j = E j) ∧ E1 58 = .inr (9, [.int 0, .ref 59, .ref 60, .ref 61, .ref 62, .ref 63, .int 0, .int 0, .int 0, .int 0, .int 0, .long 0, .int 0, .int (-1), .int 0, .int (-1), .ref 64, .ref 65, .ref 66, .ref 67, .ref 68, .ref 69, .ref 70, .ref 71, .ref 72, .ref 73, .int 0, .ref 74, .ref 75, .ref 76, .int 0, .int 0, .ref 77, .ref 78, .ref 79, .int 0, .int 0, .int 0, .ref 80, .ref 81, .ref 82, .long 0, .ref 83, .int 0, .int 0, .int 0])) := by
  refine jv_of (by decide) rfl (Nat.le_of_ble_eq_true rfl) (fun G C B hI hnl => ?_)
  show jv_V l D vwCl kp G 0 0 n E 0 [(0, .ref 58)] []
  refine jv_aload_n C dX9_begins_0 0 rfl ?_
  refine jv_iconst (v := 0) C dX9_begins_1 (by decide) ?_
  refine jv_putf (fk := 12) (ty := .int) (fs2 := [.int 0, .ref 59, .ref 60, .ref 61, .ref 62, .ref 63, .int 0, .int 0, .int 0, .int 0, .int 0, .long 0, .int 0, .int 0, .int 0, .int (-1), .ref 64, .ref 65, .ref 66, .ref 67, .ref 68, .ref 69, .ref 70, .ref 71, .ref 72, .ref 73, .int 0, .ref 74, .ref 75, .ref 76, .int 0, .int 0, .ref 77, .ref 78, .ref 79, .int 0, .int 0, .int 0, .ref 80, .ref 81, .ref 82, .long 0, .ref 83, .int 0, .int 0, .int 0]) C (by decide) h58 rfl in_X9_begins_9 tyX9 tyX9_ok nmX9 (by decide) (by decide +kernel) rfl rfl rfl (fun _ => rfl) (fun _ => rfl) (Nat.le_of_ble_eq_true rfl) dX9_begins_2 rfl ?_
  refine jv_aload_n C dX9_begins_5 0 rfl ?_
  refine jv_iconst (v := (-1)) C dX9_begins_6 (by decide) ?_
  refine jv_putf (fk := 13) (ty := .int) (fs2 := [.int 0, .ref 59, .ref 60, .ref 61, .ref 62, .ref 63, .int 0, .int 0, .int 0, .int 0, .int 0, .long 0, .int 0, .int (-1), .int 0, .int (-1), .ref 64, .ref 65, .ref 66, .ref 67, .ref 68, .ref 69, .ref 70, .ref 71, .ref 72, .ref 73, .int 0, .ref 74, .ref 75, .ref 76, .int 0, .int 0, .ref 77, .ref 78, .ref 79, .int 0, .int 0, .int 0, .ref 80, .ref 81, .ref 82, .long 0, .ref 83, .int 0, .int 0, .int 0]) C (by decide) (va_up_self _ _ _) rfl in_X9_begins_9 tyX9 tyX9_ok nmX9 (by decide) (by decide +kernel) rfl rfl rfl (fun _ => rfl) (fun _ => rfl) (Nat.le_of_ble_eq_true rfl) dX9_begins_7 rfl ?_
  refine jv_aload_n C dX9_begins_10 0 rfl ?_
  refine jv_iconst (v := 0) C dX9_begins_11 (by decide) ?_
  refine jv_putf (fk := 7) (ty := .int) (fs2 := [.int 0, .ref 59, .ref 60, .ref 61, .ref 62, .ref 63, .int 0, .int 0, .int 0, .int 0, .int 0, .long 0, .int 0, .int (-1), .int 0, .int (-1), .ref 64, .ref 65, .ref 66, .ref 67, .ref 68, .ref 69, .ref 70, .ref 71, .ref 72, .ref 73, .int 0, .ref 74, .ref 75, .ref 76, .int 0, .int 0, .ref 77, .ref 78, .ref 79, .int 0, .int 0, .int 0, .ref 80, .ref 81, .ref 82, .long 0, .ref 83, .int 0, .int 0, .int 0]) C (by decide) (va_up_self _ _ _) rfl in_X9_begins_9 tyX9 tyX9_ok nmX9 (by decide) (by decide +kernel) rfl rfl rfl (fun _ => rfl) (fun _ => rfl) (Nat.le_of_ble_eq_true rfl) dX9_begins_12 rfl ?_
  refine jv_aload_n C dX9_begins_15 0 rfl ?_
  refine jv_callV (na := 0) (As := []) (st := []) C (c_X9_next l D kp (va_up_self _ _ _)  ) gX9_begins_X9_next rfl (by decide) (va_up_self _ _ _) rfl rfl rfl q_X9_next rfl ⟨by decide, by decide⟩ ⟨by decide, by decide⟩ (fun _ h => absurd h List.not_mem_nil) (Nat.le_of_ble_eq_true rfl) rfl dX9_begins_16 (fun r n1 E_1 hp _ => ?_)
  obtain ⟨rfl, rfl, hf2, e3⟩ := hp
  show jv_V l D vwCl kp G 0 0 n E_1 19 [(0, .ref 58)] []
  exact jv_vret C B ⟨rfl, rfl, fun j g0 => ((hf2 j g0).trans ((va_up_ne _ _ g0).trans ((va_up_ne _ _ g0).trans (va_up_ne _ _ g0)))), e3⟩ ⟨by decide, by decide⟩ dX9_begins_19
set_option maxRecDepth 100000 in
set_option maxHeartbeats 8000000 in
theorem c_X9_isGood_b (l : Launch) (D : va_G) (kp : Nat → ClassId) {n : Nat} {E : Nat → jv_E} (h58 : E 58 = .inr (9, [.int 0, .ref 59, .ref 60, .ref 61, .ref 62, .ref 63, .int 0, .int 0, .int 0, .int 0, .int 0, .long 0, .int 0, .int (-1), .int 0, .int (-1), .ref 64, .ref 65, .ref 66, .ref 67, .ref 68, .ref 69, .ref 70, .ref 71, .ref 72, .ref 73, .int 0, .ref 74, .ref 75, .ref 76, .int 0, .int 0, .ref 77, .ref 78, .ref 79, .int 0, .int 0, .int 0, .ref 80, .ref 81, .ref 82, .long 0, .ref 83, .int 0, .int 0, .int 0]))  : jv_M l D vwCl kp yX9_isGood wsX9_isGood rm1 [] [.ref 58] n E 0 0 (fun r n1 E1 => some (.int 1) = r ∧ n = n1 ∧ E = E1) := by
  refine jv_of (by decide) rfl (Nat.le_of_ble_eq_true rfl) (fun G C B hI hnl => ?_)
  show jv_V l D vwCl kp G 0 0 n E 0 [(0, .ref 58)] []
  refine jv_aload_n C dX9_isGood_0 0 rfl ?_
  refine jv_getf (fk := 12) C (by decide) h58 rfl in_X9_isGood_9 (by decide) (by decide +kernel) rfl rfl dX9_isGood_1 ?_
  refine jv_if_ne (tgt := 11) C dX9_isGood_4 (by decide) (fun h => absurd h (by decide)) (fun _ => ?_)
  refine jv_iconst (v := 1) C dX9_isGood_7 (by decide) ?_
  refine jv_goto (tgt := 12) C dX9_isGood_8 (by decide) ?_
  exact jv_zret C B (by decide) ⟨rfl, rfl, rfl⟩ ⟨by decide, by decide⟩ dX9_isGood_12
theorem in_X9_isOver_9 : ∀ w ∈ u_ws RX9 TX9 46, w ∈ wsX9_isOver := by decide +kernel
set_option maxRecDepth 100000 in
set_option maxHeartbeats 8000000 in
theorem c_X9_isOver (l : Launch) (D : va_G) (kp : Nat → ClassId) {n : Nat} {E : Nat → jv_E} (h58 : E 58 = .inr (9, [.int 0, .ref 59, .ref 60, .ref 61, .ref 62, .ref 63, .int 0, .int 0, .int 0, .int 0, .int 0, .long 0, .int 0, .int (-1), .int 0, .int (-1), .ref 64, .ref 65, .ref 66, .ref 67, .ref 68, .ref 69, .ref 70, .ref 71, .ref 72, .ref 73, .int 0, .ref 74, .ref 75, .ref 76, .int 0, .int 0, .ref 77, .ref 78, .ref 79, .int 0, .int 0, .int 0, .ref 80, .ref 81, .ref 82, .long 0, .ref 83, .int 0, .int 0, .int 0]))  : jv_M l D vwCl kp yX9_isOver wsX9_isOver rm1 [] [.ref 58] n E 0 0 (fun r n1 E1 => none = r ∧ n = n1 ∧ (∀ j, j ≠ 58 → E1 j = E j) ∧ E1 58 = .inr (9, [.int 0, .ref 59, .ref 60, .ref 61, .ref 62, .ref 63, .int 0, .int 0, .int 0, .int 0, .int 0, .long 0, .int 0, .int (-1), .int 0, .int (-1), .ref 64, .ref 65, .ref 66, .ref 67, .ref 68, .ref 69, .ref 70, .ref 71, .ref 72, .ref 73, .int 0, .ref 74, .ref 75, .ref 76, .int 0, .int 0, .ref 77, .ref 78, .ref 79, .int 0, .int 0, .int 0, .ref 80, .ref 81, .ref 82, .long 0, .ref 83, .int 0, .int 0, .int 0])) := by
  refine jv_of (by decide) rfl (Nat.le_of_ble_eq_true rfl) (fun G C B hI hnl => ?_)
  show jv_V l D vwCl kp G 0 0 n E 0 [(0, .ref 58)] []
  refine jv_aload_n C dX9_isOver_0 0 rfl ?_
  refine jv_iconst (v := 0) C dX9_isOver_1 (by decide) ?_
  refine jv_putf (fk := 6) (ty := .int) (fs2 := [.int 0, .ref 59, .ref 60, .ref 61, .ref 62, .ref 63, .int 0, .int 0, .int 0, .int 0, .int 0, .long 0, .int 0, .int (-1), .int 0, .int (-1), .ref 64, .ref 65, .ref 66, .ref 67, .ref 68, .ref 69, .ref 70, .ref 71, .ref 72, .ref 73, .int 0, .ref 74, .ref 75, .ref 76, .int 0, .int 0, .ref 77, .ref 78, .ref 79, .int 0, .int 0, .int 0, .ref 80, .ref 81, .ref 82, .long 0, .ref 83, .int 0, .int 0, .int 0]) C (by decide) h58 rfl in_X9_isOver_9 tyX9 tyX9_ok nmX9 (by decide) (by decide +kernel) rfl rfl rfl (fun _ => rfl) (fun _ => rfl) (Nat.le_of_ble_eq_true rfl) dX9_isOver_2 rfl ?_
  refine jv_aload_n C dX9_isOver_5 0 rfl ?_
  refine jv_aload_n C dX9_isOver_6 0 rfl ?_
  refine jv_getf (fk := 12) C (by decide) (va_up_self _ _ _) rfl in_X9_isOver_9 (by decide) (by decide +kernel) rfl rfl dX9_isOver_7 ?_
  refine jv_putf (fk := 14) (ty := .int) (fs2 := [.int 0, .ref 59, .ref 60, .ref 61, .ref 62, .ref 63, .int 0, .int 0, .int 0, .int 0, .int 0, .long 0, .int 0, .int (-1), .int 0, .int (-1), .ref 64, .ref 65, .ref 66, .ref 67, .ref 68, .ref 69, .ref 70, .ref 71, .ref 72, .ref 73, .int 0, .ref 74, .ref 75, .ref 76, .int 0, .int 0, .ref 77, .ref 78, .ref 79, .int 0, .int 0, .int 0, .ref 80, .ref 81, .ref 82, .long 0, .ref 83, .int 0, .int 0, .int 0]) C (by decide) (va_up_self _ _ _) rfl in_X9_isOver_9 tyX9 tyX9_ok nmX9 (by decide) (by decide +kernel) rfl rfl rfl (fun _ => rfl) (fun _ => rfl) (Nat.le_of_ble_eq_true rfl) dX9_isOver_10 rfl ?_
  refine jv_aload_n C dX9_isOver_13 0 rfl ?_
  refine jv_aload_n C dX9_isOver_14 0 rfl ?_
  refine jv_getf (fk := 12) C (by decide) (va_up_self _ _ _) rfl in_X9_isOver_9 (by decide) (by decide +kernel) rfl rfl dX9_isOver_15 ?_
  refine jv_if_ne (tgt := 25) C dX9_isOver_18 (by decide) (fun h => absurd h (by decide)) (fun _ => ?_)
  refine jv_iconst (v := (-1)) C dX9_isOver_21 (by decide) ?_
  refine jv_goto (tgt := 29) C dX9_isOver_22 (by decide) ?_
  refine jv_putf (fk := 15) (ty := .int) (fs2 := [.int 0, .ref 59, .ref 60, .ref 61, .ref 62, .ref 63, .int 0, .int 0, .int 0, .int 0, .int 0, .long 0, .int 0, .int (-1), .int 0, .int (-1), .ref 64, .ref 65, .ref 66, .ref 67, .ref 68, .ref 69, .ref 70, .ref 71, .ref 72, .ref 73, .int 0, .ref 74, .ref 75, .ref 76, .int 0, .int 0, .ref 77, .ref 78, .ref 79, .int 0, .int 0, .int 0, .ref 80, .ref 81, .ref 82, .long 0, .ref 83, .int 0, .int 0, .int 0]) C (by decide) (va_up_self _ _ _) rfl in_X9_isOver_9 tyX9 tyX9_ok nmX9 (by decide) (by decide +kernel) rfl rfl rfl (fun _ => rfl) (fun _ => rfl) (Nat.le_of_ble_eq_true rfl) dX9_isOver_29 rfl ?_
  exact jv_vret C B ⟨rfl, rfl, fun j g0 => ((va_up_ne _ _ g0).trans ((va_up_ne _ _ g0).trans (va_up_ne _ _ g0))), (va_up_self _ _ _)⟩ ⟨by decide, by decide⟩ dX9_isOver_32
theorem in_X9_clears_9 : ∀ w ∈ u_ws RX9 TX9 46, w ∈ wsX9_clears := by decide +kernel
set_option maxRecDepth 100000 in
set_option maxHeartbeats 8000000 in
theorem c_X9_clears (l : Launch) (D : va_G) (kp : Nat → ClassId) {n : Nat} {E : Nat → jv_E} (h58 : E 58 = cx58) (h64 : E 64 = cx64) (h65 : E 65 = cx65) (h66 : E 66 = cx66) (h67 : E 67 = cx67) (h68 : E 68 = cx68) (h69 : E 69 = cx69) (h70 : E 70 = cx70) (h73 : E 73 = cx73)  : jv_M l D vwCl kp yX9_clears wsX9_clears rm1 [] [.ref 58] n E 0 0 (fun r n1 E1 => none = r ∧ n = n1 ∧ (∀ j, j ≠ 58 → j ≠ 64 → j ≠ 65 → j ≠ 66 → j ≠ 67 → j ≠ 68 → j ≠ 69 → j ≠ 70 → j ≠ 73 → E1 j = E j) ∧ E1 58 = .inr (9, [.int 0, .ref 59, .ref 60, .ref 61, .ref 62, .ref 63, .int 0, .int 0, .int 0, .int 0, .int 0, .long 0, .int 0, .int 0, .int 0, .int (-1), .ref 64, .ref 65, .ref 66, .ref 67, .ref 68, .ref 69, .ref 70, .ref 71, .ref 72, .ref 73, .int 0, .ref 74, .ref 75, .ref 76, .int 0, .int 0, .ref 77, .ref 78, .ref 79, .int 0, .int 0, .int 0, .ref 80, .ref 81, .ref 82, .long 0, .ref 83, .int 0, .int 0, .int 0]) ∧ E1 64 = .inl (0, 6, .inl (upd (fun _ => 0) (4 : Int32).toNatClampNeg 0)) ∧ E1 65 = .inl (0, 6, .inl (upd (fun _ => 0) (4 : Int32).toNatClampNeg 0)) ∧ E1 66 = .inl (0, 36, .inl (upd (upd (upd (upd (upd (upd (fun _ => 0) (24 : Int32).toNatClampNeg 0) (25 : Int32).toNatClampNeg 0) (26 : Int32).toNatClampNeg 0) (27 : Int32).toNatClampNeg 0) (28 : Int32).toNatClampNeg 0) (29 : Int32).toNatClampNeg 0)) ∧ E1 67 = .inl (0, 36, .inl (upd (upd (upd (upd (upd (upd (fun _ => 0) (24 : Int32).toNatClampNeg 1) (25 : Int32).toNatClampNeg 1) (26 : Int32).toNatClampNeg 1) (27 : Int32).toNatClampNeg 1) (28 : Int32).toNatClampNeg 1) (29 : Int32).toNatClampNeg 1)) ∧ E1 68 = .inl (0, 288, .inl (upd (upd (upd (upd (upd (upd (fun _ => 0) (192 : Int32).toNatClampNeg 0) (200 : Int32).toNatClampNeg 0) (208 : Int32).toNatClampNeg 0) (216 : Int32).toNatClampNeg 0) (224 : Int32).toNatClampNeg 0) (232 : Int32).toNatClampNeg 0)) ∧ E1 69 = .inl (0, 288, .inl (upd (upd (upd (upd (upd (upd (fun _ => 0) (192 : Int32).toNatClampNeg 0) (200 : Int32).toNatClampNeg 1) (208 : Int32).toNatClampNeg 2) (216 : Int32).toNatClampNeg 3) (224 : Int32).toNatClampNeg 4) (232 : Int32).toNatClampNeg 5)) ∧ E1 70 = .inl (0, 12, .inl (upd (upd (fun _ => 0) (8 : Int32).toNatClampNeg 0) (9 : Int32).toNatClampNeg 0)) ∧ E1 73 = .inl (0, 12, .inl (upd (upd (fun _ => 0) (8 : Int32).toNatClampNeg 9) (9 : Int32).toNatClampNeg 0))) := by
  refine jv_of (by decide) rfl (Nat.le_of_ble_eq_true rfl) (fun G C B hI hnl => ?_)
  show jv_V l D vwCl kp G 0 0 n E 0 [(0, .ref 58)] []
  refine jv_aload_n C dX9_clears_0 0 rfl ?_
  refine jv_getf (fk := 16) C (by decide) h58 rfl in_X9_clears_9 (by decide) (by decide +kernel) rfl rfl dX9_clears_1 ?_
  refine jv_iconst (v := 4) C dX9_clears_4 (by decide) ?_
  refine jv_iconst (v := 0) C dX9_clears_5 (by decide) ?_
  refine jv_iast C (by decide) h64 (jv_vi (by decide)) dX9_clears_6 ?_
  refine jv_aload_n C dX9_clears_7 0 rfl ?_
  refine jv_getf (fk := 17) C (by decide) (jv_n (by decide) h58) rfl in_X9_clears_9 (by decide) (by decide +kernel) rfl rfl dX9_clears_8 ?_
  refine jv_iconst (v := 4) C dX9_clears_11 (by decide) ?_
  refine jv_iconst (v := 0) C dX9_clears_12 (by decide) ?_
  refine jv_iast C (by decide) (jv_n (by decide) h65) (jv_vi (by decide)) dX9_clears_13 ?_
  refine jv_iconst (v := 0) C dX9_clears_14 (by decide) ?_
  refine jv_istore_n (lv2 := [(1, .int 0), (0, .ref 58)]) C dX9_clears_15 rfl hnl (by decide) rfl ?_
  refine jv_iload_n C dX9_clears_16 0 rfl ?_
  refine jv_bipush (v := 6) C dX9_clears_17 (by decide) ?_
  refine jv_icmp_ge (tgt := 67) C dX9_clears_19 (by decide) (fun h => absurd h (by decide)) (fun _ => ?_)
  refine jv_bipush (v := 24) C dX9_clears_22 (by decide) ?_
  refine jv_iload_n C dX9_clears_24 0 rfl ?_
  refine jv_iadd C dX9_clears_25 ?_
  refine jv_ti (y := 24) (by decide) ?_
  refine jv_istore_n (lv2 := [(2, .int 24), (1, .int 0), (0, .ref 58)]) C dX9_clears_26 rfl hnl (by decide) rfl ?_
  refine jv_aload_n C dX9_clears_27 2 rfl ?_
  refine jv_getf (fk := 18) C (by decide) (jv_n (by decide) (jv_n (by decide) h58)) rfl in_X9_clears_9 (by decide) (by decide +kernel) rfl rfl dX9_clears_28 ?_
  refine jv_iload_n C dX9_clears_31 0 rfl ?_
  refine jv_iconst (v := 0) C dX9_clears_32 (by decide) ?_
  refine jv_iast C (by decide) (jv_n (by decide) (jv_n (by decide) h66)) (jv_vi (by decide)) dX9_clears_33 ?_
  refine jv_aload_n C dX9_clears_34 2 rfl ?_
  refine jv_getf (fk := 19) C (by decide) (jv_n (by decide) (jv_n (by decide) (jv_n (by decide) h58))) rfl in_X9_clears_9 (by decide) (by decide +kernel) rfl rfl dX9_clears_35 ?_
  refine jv_iload_n C dX9_clears_38 0 rfl ?_
  refine jv_iconst (v := 1) C dX9_clears_39 (by decide) ?_
  refine jv_iast C (by decide) (jv_n (by decide) (jv_n (by decide) (jv_n (by decide) h67))) (jv_vi (by decide)) dX9_clears_40 ?_
  refine jv_aload_n C dX9_clears_41 2 rfl ?_
  refine jv_getf (fk := 20) C (by decide) (jv_n (by decide) (jv_n (by decide) (jv_n (by decide) (jv_n (by decide) h58)))) rfl in_X9_clears_9 (by decide) (by decide +kernel) rfl rfl dX9_clears_42 ?_
  refine jv_bipush (v := 8) C dX9_clears_45 (by decide) ?_
  refine jv_iload_n C dX9_clears_47 0 rfl ?_
  refine jv_imul C dX9_clears_48 ?_
  refine jv_ti (y := 192) (by decide) ?_
  refine jv_iconst (v := 0) C dX9_clears_49 (by decide) ?_
  refine jv_iast C (by decide) (jv_n (by decide) (jv_n (by decide) (jv_n (by decide) (jv_n (by decide) h68)))) (jv_vi (by decide)) dX9_clears_50 ?_
  refine jv_aload_n C dX9_clears_51 2 rfl ?_
  refine jv_getf (fk := 21) C (by decide) (jv_n (by decide) (jv_n (by decide) (jv_n (by decide) (jv_n (by decide) (jv_n (by decide) h58))))) rfl in_X9_clears_9 (by decide) (by decide +kernel) rfl rfl dX9_clears_52 ?_
  refine jv_bipush (v := 8) C dX9_clears_55 (by decide) ?_
  refine jv_iload_n C dX9_clears_57 0 rfl ?_
  refine jv_imul C dX9_clears_58 ?_
  refine jv_ti (y := 192) (by decide) ?_
  refine jv_iload_n C dX9_clears_59 1 rfl ?_
  refine jv_iast C (by decide) (jv_n (by decide) (jv_n (by decide) (jv_n (by decide) (jv_n (by decide) (jv_n (by decide) h69))))) (jv_vi (by decide)) dX9_clears_60 ?_
  refine jv_iinc (lv2 := [(1, .int 1), (2, .int 24), (0, .ref 58)]) C dX9_clears_61 hnl 1 rfl (by decide) (by decide) rfl ?_
  refine jv_goto (tgt := 16) C dX9_clears_64 (by decide) ?_
  refine jv_iload_n C dX9_clears_16 0 rfl ?_
  refine jv_bipush (v := 6) C dX9_clears_17 (by decide) ?_
  refine jv_icmp_ge (tgt := 67) C dX9_clears_19 (by decide) (fun h => absurd h (by decide)) (fun _ => ?_)
  refine jv_bipush (v := 24) C dX9_clears_22 (by decide) ?_
  refine jv_iload_n C dX9_clears_24 0 rfl ?_
  refine jv_iadd C dX9_clears_25 ?_
  refine jv_ti (y := 25) (by decide) ?_
  refine jv_istore_n (lv2 := [(2, .int 25), (1, .int 1), (0, .ref 58)]) C dX9_clears_26 rfl hnl (by decide) rfl ?_
  refine jv_aload_n C dX9_clears_27 2 rfl ?_
  refine jv_getf (fk := 18) C (by decide) (jv_n (by decide) (jv_n (by decide) (jv_n (by decide) (jv_n (by decide) (jv_n (by decide) (jv_n (by decide) h58)))))) rfl in_X9_clears_9 (by decide) (by decide +kernel) rfl rfl dX9_clears_28 ?_
  refine jv_iload_n C dX9_clears_31 0 rfl ?_
  refine jv_iconst (v := 0) C dX9_clears_32 (by decide) ?_
  refine jv_iast C (by decide) (jv_n (by decide) (jv_n (by decide) (jv_n (by decide) (va_up_self _ _ _)))) (jv_vi (by decide)) dX9_clears_33 ?_
  refine jv_aload_n C dX9_clears_34 2 rfl ?_
  refine jv_getf (fk := 19) C (by decide) (jv_n (by decide) (jv_n (by decide) (jv_n (by decide) (jv_n (by decide) (jv_n (by decide) (jv_n (by decide) (jv_n (by decide) h58))))))) rfl in_X9_clears_9 (by decide) (by decide +kernel) rfl rfl dX9_clears_35 ?_
  refine jv_iload_n C dX9_clears_38 0 rfl ?_
  refine jv_iconst (v := 1) C dX9_clears_39 (by decide) ?_
  refine jv_iast C (by decide) (jv_n (by decide) (jv_n (by decide) (jv_n (by decide) (va_up_self _ _ _)))) (jv_vi (by decide)) dX9_clears_40 ?_
  refine jv_aload_n C dX9_clears_41 2 rfl ?_
  refine jv_getf (fk := 20) C (by decide) (jv_n (by decide) (jv_n (by decide) (jv_n (by decide) (jv_n (by decide) (jv_n (by decide) (jv_n (by decide) (jv_n (by decide) (jv_n (by decide) h58)))))))) rfl in_X9_clears_9 (by decide) (by decide +kernel) rfl rfl dX9_clears_42 ?_
  refine jv_bipush (v := 8) C dX9_clears_45 (by decide) ?_
  refine jv_iload_n C dX9_clears_47 0 rfl ?_
  refine jv_imul C dX9_clears_48 ?_
  refine jv_ti (y := 200) (by decide) ?_
  refine jv_iconst (v := 0) C dX9_clears_49 (by decide) ?_
  refine jv_iast C (by decide) (jv_n (by decide) (jv_n (by decide) (jv_n (by decide) (va_up_self _ _ _)))) (jv_vi (by decide)) dX9_clears_50 ?_
  refine jv_aload_n C dX9_clears_51 2 rfl ?_
  refine jv_getf (fk := 21) C (by decide) (jv_n (by decide) (jv_n (by decide) (jv_n (by decide) (jv_n (by decide) (jv_n (by decide) (jv_n (by decide) (jv_n (by decide) (jv_n (by decide) (jv_n (by decide) h58))))))))) rfl in_X9_clears_9 (by decide) (by decide +kernel) rfl rfl dX9_clears_52 ?_
  refine jv_bipush (v := 8) C dX9_clears_55 (by decide) ?_
  refine jv_iload_n C dX9_clears_57 0 rfl ?_
  refine jv_imul C dX9_clears_58 ?_
  refine jv_ti (y := 200) (by decide) ?_
  refine jv_iload_n C dX9_clears_59 1 rfl ?_
  refine jv_iast C (by decide) (jv_n (by decide) (jv_n (by decide) (jv_n (by decide) (va_up_self _ _ _)))) (jv_vi (by decide)) dX9_clears_60 ?_
  refine jv_iinc (lv2 := [(1, .int 2), (2, .int 25), (0, .ref 58)]) C dX9_clears_61 hnl 1 rfl (by decide) (by decide) rfl ?_
  refine jv_goto (tgt := 16) C dX9_clears_64 (by decide) ?_
  refine jv_iload_n C dX9_clears_16 0 rfl ?_
  refine jv_bipush (v := 6) C dX9_clears_17 (by decide) ?_
  refine jv_icmp_ge (tgt := 67) C dX9_clears_19 (by decide) (fun h => absurd h (by decide)) (fun _ => ?_)
  refine jv_bipush (v := 24) C dX9_clears_22 (by decide) ?_
  refine jv_iload_n C dX9_clears_24 0 rfl ?_
  refine jv_iadd C dX9_clears_25 ?_
  refine jv_ti (y := 26) (by decide) ?_
  refine jv_istore_n (lv2 := [(2, .int 26), (1, .int 2), (0, .ref 58)]) C dX9_clears_26 rfl hnl (by decide) rfl ?_
  refine jv_aload_n C dX9_clears_27 2 rfl ?_
  refine jv_getf (fk := 18) C (by decide) (jv_n (by decide) (jv_n (by decide) (jv_n (by decide) (jv_n (by decide) (jv_n (by decide) (jv_n (by decide) (jv_n (by decide) (jv_n (by decide) (jv_n (by decide) (jv_n (by decide) h58)))))))))) rfl in_X9_clears_9 (by decide) (by decide +kernel) rfl rfl dX9_clears_28 ?_
  refine jv_iload_n C dX9_clears_31 0 rfl ?_
  refine jv_iconst (v := 0) C dX9_clears_32 (by decide) ?_
  refine jv_iast C (by decide) (jv_n (by decide) (jv_n (by decide) (jv_n (by decide) (va_up_self _ _ _)))) (jv_vi (by decide)) dX9_clears_33 ?_
  refine jv_aload_n C dX9_clears_34 2 rfl ?_
  refine jv_getf (fk := 19) C (by decide) (jv_n (by decide) (jv_n (by decide) (jv_n (by decide) (jv_n (by decide) (jv_n (by decide) (jv_n (by decide) (jv_n (by decide) (jv_n (by decide) (jv_n (by decide) (jv_n (by decide) (jv_n (by decide) h58))))))))))) rfl in_X9_clears_9 (by decide) (by decide +kernel) rfl rfl dX9_clears_35 ?_
  refine jv_iload_n C dX9_clears_38 0 rfl ?_
  refine jv_iconst (v := 1) C dX9_clears_39 (by decide) ?_
  refine jv_iast C (by decide) (jv_n (by decide) (jv_n (by decide) (jv_n (by decide) (va_up_self _ _ _)))) (jv_vi (by decide)) dX9_clears_40 ?_
  refine jv_aload_n C dX9_clears_41 2 rfl ?_
  refine jv_getf (fk := 20) C (by decide) (jv_n (by decide) (jv_n (by decide) (jv_n (by decide) (jv_n (by decide) (jv_n (by decide) (jv_n (by decide) (jv_n (by decide) (jv_n (by decide) (jv_n (by decide) (jv_n (by decide) (jv_n (by decide) (jv_n (by decide) h58)))))))))))) rfl in_X9_clears_9 (by decide) (by decide +kernel) rfl rfl dX9_clears_42 ?_
  refine jv_bipush (v := 8) C dX9_clears_45 (by decide) ?_
  refine jv_iload_n C dX9_clears_47 0 rfl ?_
  refine jv_imul C dX9_clears_48 ?_
  refine jv_ti (y := 208) (by decide) ?_
  refine jv_iconst (v := 0) C dX9_clears_49 (by decide) ?_
  refine jv_iast C (by decide) (jv_n (by decide) (jv_n (by decide) (jv_n (by decide) (va_up_self _ _ _)))) (jv_vi (by decide)) dX9_clears_50 ?_
  refine jv_aload_n C dX9_clears_51 2 rfl ?_
  refine jv_getf (fk := 21) C (by decide) (jv_n (by decide) (jv_n (by decide) (jv_n (by decide) (jv_n (by decide) (jv_n (by decide) (jv_n (by decide) (jv_n (by decide) (jv_n (by decide) (jv_n (by decide) (jv_n (by decide) (jv_n (by decide) (jv_n (by decide) (jv_n (by decide) h58))))))))))))) rfl in_X9_clears_9 (by decide) (by decide +kernel) rfl rfl dX9_clears_52 ?_
  refine jv_bipush (v := 8) C dX9_clears_55 (by decide) ?_
  refine jv_iload_n C dX9_clears_57 0 rfl ?_
  refine jv_imul C dX9_clears_58 ?_
  refine jv_ti (y := 208) (by decide) ?_
  refine jv_iload_n C dX9_clears_59 1 rfl ?_
  refine jv_iast C (by decide) (jv_n (by decide) (jv_n (by decide) (jv_n (by decide) (va_up_self _ _ _)))) (jv_vi (by decide)) dX9_clears_60 ?_
  refine jv_iinc (lv2 := [(1, .int 3), (2, .int 26), (0, .ref 58)]) C dX9_clears_61 hnl 1 rfl (by decide) (by decide) rfl ?_
  refine jv_goto (tgt := 16) C dX9_clears_64 (by decide) ?_
  refine jv_iload_n C dX9_clears_16 0 rfl ?_
  refine jv_bipush (v := 6) C dX9_clears_17 (by decide) ?_
  refine jv_icmp_ge (tgt := 67) C dX9_clears_19 (by decide) (fun h => absurd h (by decide)) (fun _ => ?_)
  refine jv_bipush (v := 24) C dX9_clears_22 (by decide) ?_
  refine jv_iload_n C dX9_clears_24 0 rfl ?_
  refine jv_iadd C dX9_clears_25 ?_
  refine jv_ti (y := 27) (by decide) ?_
  refine jv_istore_n (lv2 := [(2, .int 27), (1, .int 3), (0, .ref 58)]) C dX9_clears_26 rfl hnl (by decide) rfl ?_
  refine jv_aload_n C dX9_clears_27 2 rfl ?_
  refine jv_getf (fk := 18) C (by decide) (jv_n (by decide) (jv_n (by decide) (jv_n (by decide) (jv_n (by decide) (jv_n (by decide) (jv_n (by decide) (jv_n (by decide) (jv_n (by decide) (jv_n (by decide) (jv_n (by decide) (jv_n (by decide) (jv_n (by decide) (jv_n (by decide) (jv_n (by decide) h58)))))))))))))) rfl in_X9_clears_9 (by decide) (by decide +kernel) rfl rfl dX9_clears_28 ?_
  refine jv_iload_n C dX9_clears_31 0 rfl ?_
  refine jv_iconst (v := 0) C dX9_clears_32 (by decide) ?_
  refine jv_iast C (by decide) (jv_n (by decide) (jv_n (by decide) (jv_n (by decide) (va_up_self _ _ _)))) (jv_vi (by decide)) dX9_clears_33 ?_
  refine jv_aload_n C dX9_clears_34 2 rfl ?_
  refine jv_getf (fk := 19) C (by decide) (jv_n (by decide) (jv_n (by decide) (jv_n (by decide) (jv_n (by decide) (jv_n (by decide) (jv_n (by decide) (jv_n (by decide) (jv_n (by decide) (jv_n (by decide) (jv_n (by decide) (jv_n (by decide) (jv_n (by decide) (jv_n (by decide) (jv_n (by decide) (jv_n (by decide) h58))))))))))))))) rfl in_X9_clears_9 (by decide) (by decide +kernel) rfl rfl dX9_clears_35 ?_
  refine jv_iload_n C dX9_clears_38 0 rfl ?_
  refine jv_iconst (v := 1) C dX9_clears_39 (by decide) ?_
  refine jv_iast C (by decide) (jv_n (by decide) (jv_n (by decide) (jv_n (by decide) (va_up_self _ _ _)))) (jv_vi (by decide)) dX9_clears_40 ?_
  refine jv_aload_n C dX9_clears_41 2 rfl ?_
  refine jv_getf (fk := 20) C (by decide) (jv_n (by decide) (jv_n (by decide) (jv_n (by decide) (jv_n (by decide) (jv_n (by decide) (jv_n (by decide) (jv_n (by decide) (jv_n (by decide) (jv_n (by decide) (jv_n (by decide) (jv_n (by decide) (jv_n (by decide) (jv_n (by decide) (jv_n (by decide) (jv_n (by decide) (jv_n (by decide) h58)))))))))))))))) rfl in_X9_clears_9 (by decide) (by decide +kernel) rfl rfl dX9_clears_42 ?_
  refine jv_bipush (v := 8) C dX9_clears_45 (by decide) ?_
  refine jv_iload_n C dX9_clears_47 0 rfl ?_
  refine jv_imul C dX9_clears_48 ?_
  refine jv_ti (y := 216) (by decide) ?_
  refine jv_iconst (v := 0) C dX9_clears_49 (by decide) ?_
  refine jv_iast C (by decide) (jv_n (by decide) (jv_n (by decide) (jv_n (by decide) (va_up_self _ _ _)))) (jv_vi (by decide)) dX9_clears_50 ?_
  refine jv_aload_n C dX9_clears_51 2 rfl ?_
  refine jv_getf (fk := 21) C (by decide) (jv_n (by decide) (jv_n (by decide) (jv_n (by decide) (jv_n (by decide) (jv_n (by decide) (jv_n (by decide) (jv_n (by decide) (jv_n (by decide) (jv_n (by decide) (jv_n (by decide) (jv_n (by decide) (jv_n (by decide) (jv_n (by decide) (jv_n (by decide) (jv_n (by decide) (jv_n (by decide) (jv_n (by decide) h58))))))))))))))))) rfl in_X9_clears_9 (by decide) (by decide +kernel) rfl rfl dX9_clears_52 ?_
  refine jv_bipush (v := 8) C dX9_clears_55 (by decide) ?_
  refine jv_iload_n C dX9_clears_57 0 rfl ?_
  refine jv_imul C dX9_clears_58 ?_
  refine jv_ti (y := 216) (by decide) ?_
  refine jv_iload_n C dX9_clears_59 1 rfl ?_
  refine jv_iast C (by decide) (jv_n (by decide) (jv_n (by decide) (jv_n (by decide) (va_up_self _ _ _)))) (jv_vi (by decide)) dX9_clears_60 ?_
  refine jv_iinc (lv2 := [(1, .int 4), (2, .int 27), (0, .ref 58)]) C dX9_clears_61 hnl 1 rfl (by decide) (by decide) rfl ?_
  refine jv_goto (tgt := 16) C dX9_clears_64 (by decide) ?_
  refine jv_iload_n C dX9_clears_16 0 rfl ?_
  refine jv_bipush (v := 6) C dX9_clears_17 (by decide) ?_
  refine jv_icmp_ge (tgt := 67) C dX9_clears_19 (by decide) (fun h => absurd h (by decide)) (fun _ => ?_)
  refine jv_bipush (v := 24) C dX9_clears_22 (by decide) ?_
  refine jv_iload_n C dX9_clears_24 0 rfl ?_
  refine jv_iadd C dX9_clears_25 ?_
  refine jv_ti (y := 28) (by decide) ?_
  refine jv_istore_n (lv2 := [(2, .int 28), (1, .int 4), (0, .ref 58)]) C dX9_clears_26 rfl hnl (by decide) rfl ?_
  refine jv_aload_n C dX9_clears_27 2 rfl ?_
  refine jv_getf (fk := 18) C (by decide) (jv_n (by decide) (jv_n (by decide) (jv_n (by decide) (jv_n (by decide) (jv_n (by decide) (jv_n (by decide) (jv_n (by decide) (jv_n (by decide) (jv_n (by decide) (jv_n (by decide) (jv_n (by decide) (jv_n (by decide) (jv_n (by decide) (jv_n (by decide) (jv_n (by decide) (jv_n (by decide) (jv_n (by decide) (jv_n (by decide) h58)))))))))))))))))) rfl in_X9_clears_9 (by decide) (by decide +kernel) rfl rfl dX9_clears_28 ?_
  refine jv_iload_n C dX9_clears_31 0 rfl ?_
  refine jv_iconst (v := 0) C dX9_clears_32 (by decide) ?_
  refine jv_iast C (by decide) (jv_n (by decide) (jv_n (by decide) (jv_n (by decide) (va_up_self _ _ _)))) (jv_vi (by decide)) dX9_clears_33 ?_
  refine jv_aload_n C dX9_clears_34 2 rfl ?_
  refine jv_getf (fk := 19) C (by decide) (jv_n (by decide) (jv_n (by decide) (jv_n (by decide) (jv_n (by decide) (jv_n (by decide) (jv_n (by decide) (jv_n (by decide) (jv_n (by decide) (jv_n (by decide) (jv_n (by decide) (jv_n (by decide) (jv_n (by decide) (jv_n (by decide) (jv_n (by decide) (jv_n (by decide) (jv_n (by decide) (jv_n (by decide) (jv_n (by decide) (jv_n (by decide) h58))))))))))))))))))) rfl in_X9_clears_9 (by decide) (by decide +kernel) rfl rfl dX9_clears_35 ?_
  refine jv_iload_n C dX9_clears_38 0 rfl ?_
  refine jv_iconst (v := 1) C dX9_clears_39 (by decide) ?_
  refine jv_iast C (by decide) (jv_n (by decide) (jv_n (by decide) (jv_n (by decide) (va_up_self _ _ _)))) (jv_vi (by decide)) dX9_clears_40 ?_
  refine jv_aload_n C dX9_clears_41 2 rfl ?_
  refine jv_getf (fk := 20) C (by decide) (jv_n (by decide) (jv_n (by decide) (jv_n (by decide) (jv_n (by decide) (jv_n (by decide) (jv_n (by decide) (jv_n (by decide) (jv_n (by decide) (jv_n (by decide) (jv_n (by decide) (jv_n (by decide) (jv_n (by decide) (jv_n (by decide) (jv_n (by decide) (jv_n (by decide) (jv_n (by decide) (jv_n (by decide) (jv_n (by decide) (jv_n (by decide) (jv_n (by decide) h58)))))))))))))))))))) rfl in_X9_clears_9 (by decide) (by decide +kernel) rfl rfl dX9_clears_42 ?_
  refine jv_bipush (v := 8) C dX9_clears_45 (by decide) ?_
  refine jv_iload_n C dX9_clears_47 0 rfl ?_
  refine jv_imul C dX9_clears_48 ?_
  refine jv_ti (y := 224) (by decide) ?_
  refine jv_iconst (v := 0) C dX9_clears_49 (by decide) ?_
  refine jv_iast C (by decide) (jv_n (by decide) (jv_n (by decide) (jv_n (by decide) (va_up_self _ _ _)))) (jv_vi (by decide)) dX9_clears_50 ?_
  refine jv_aload_n C dX9_clears_51 2 rfl ?_
  refine jv_getf (fk := 21) C (by decide) (jv_n (by decide) (jv_n (by decide) (jv_n (by decide) (jv_n (by decide) (jv_n (by decide) (jv_n (by decide) (jv_n (by decide) (jv_n (by decide) (jv_n (by decide) (jv_n (by decide) (jv_n (by decide) (jv_n (by decide) (jv_n (by decide) (jv_n (by decide) (jv_n (by decide) (jv_n (by decide) (jv_n (by decide) (jv_n (by decide) (jv_n (by decide) (jv_n (by decide) (jv_n (by decide) h58))))))))))))))))))))) rfl in_X9_clears_9 (by decide) (by decide +kernel) rfl rfl dX9_clears_52 ?_
  refine jv_bipush (v := 8) C dX9_clears_55 (by decide) ?_
  refine jv_iload_n C dX9_clears_57 0 rfl ?_
  refine jv_imul C dX9_clears_58 ?_
  refine jv_ti (y := 224) (by decide) ?_
  refine jv_iload_n C dX9_clears_59 1 rfl ?_
  refine jv_iast C (by decide) (jv_n (by decide) (jv_n (by decide) (jv_n (by decide) (va_up_self _ _ _)))) (jv_vi (by decide)) dX9_clears_60 ?_
  refine jv_iinc (lv2 := [(1, .int 5), (2, .int 28), (0, .ref 58)]) C dX9_clears_61 hnl 1 rfl (by decide) (by decide) rfl ?_
  refine jv_goto (tgt := 16) C dX9_clears_64 (by decide) ?_
  refine jv_iload_n C dX9_clears_16 0 rfl ?_
  refine jv_bipush (v := 6) C dX9_clears_17 (by decide) ?_
  refine jv_icmp_ge (tgt := 67) C dX9_clears_19 (by decide) (fun h => absurd h (by decide)) (fun _ => ?_)
  refine jv_bipush (v := 24) C dX9_clears_22 (by decide) ?_
  refine jv_iload_n C dX9_clears_24 0 rfl ?_
  refine jv_iadd C dX9_clears_25 ?_
  refine jv_ti (y := 29) (by decide) ?_
  refine jv_istore_n (lv2 := [(2, .int 29), (1, .int 5), (0, .ref 58)]) C dX9_clears_26 rfl hnl (by decide) rfl ?_
  refine jv_aload_n C dX9_clears_27 2 rfl ?_
  refine jv_getf (fk := 18) C (by decide) (jv_n (by decide) (jv_n (by decide) (jv_n (by decide) (jv_n (by decide) (jv_n (by decide) (jv_n (by decide) (jv_n (by decide) (jv_n (by decide) (jv_n (by decide) (jv_n (by decide) (jv_n (by decide) (jv_n (by decide) (jv_n (by decide) (jv_n (by decide) (jv_n (by decide) (jv_n (by decide) (jv_n (by decide) (jv_n (by decide) (jv_n (by decide) (jv_n (by decide) (jv_n (by decide) (jv_n (by decide) h58)))))))))))))))))))))) rfl in_X9_clears_9 (by decide) (by decide +kernel) rfl rfl dX9_clears_28 ?_
  refine jv_iload_n C dX9_clears_31 0 rfl ?_
  refine jv_iconst (v := 0) C dX9_clears_32 (by decide) ?_
  refine jv_iast C (by decide) (jv_n (by decide) (jv_n (by decide) (jv_n (by decide) (va_up_self _ _ _)))) (jv_vi (by decide)) dX9_clears_33 ?_
  refine jv_aload_n C dX9_clears_34 2 rfl ?_
  refine jv_getf (fk := 19) C (by decide) (jv_n (by decide) (jv_n (by decide) (jv_n (by decide) (jv_n (by decide) (jv_n (by decide) (jv_n (by decide) (jv_n (by decide) (jv_n (by decide) (jv_n (by decide) (jv_n (by decide) (jv_n (by decide) (jv_n (by decide) (jv_n (by decide) (jv_n (by decide) (jv_n (by decide) (jv_n (by decide) (jv_n (by decide) (jv_n (by decide) (jv_n (by decide) (jv_n (by decide) (jv_n (by decide) (jv_n (by decide) (jv_n (by decide) h58))))))))))))))))))))))) rfl in_X9_clears_9 (by decide) (by decide +kernel) rfl rfl dX9_clears_35 ?_
  refine jv_iload_n C dX9_clears_38 0 rfl ?_
  refine jv_iconst (v := 1) C dX9_clears_39 (by decide) ?_
  refine jv_iast C (by decide) (jv_n (by decide) (jv_n (by decide) (jv_n (by decide) (va_up_self _ _ _)))) (jv_vi (by decide)) dX9_clears_40 ?_
  refine jv_aload_n C dX9_clears_41 2 rfl ?_
  refine jv_getf (fk := 20) C (by decide) (jv_n (by decide) (jv_n (by decide) (jv_n (by decide) (jv_n (by decide) (jv_n (by decide) (jv_n (by decide) (jv_n (by decide) (jv_n (by decide) (jv_n (by decide) (jv_n (by decide) (jv_n (by decide) (jv_n (by decide) (jv_n (by decide) (jv_n (by decide) (jv_n (by decide) (jv_n (by decide) (jv_n (by decide) (jv_n (by decide) (jv_n (by decide) (jv_n (by decide) (jv_n (by decide) (jv_n (by decide) (jv_n (by decide) (jv_n (by decide) h58)))))))))))))))))))))))) rfl in_X9_clears_9 (by decide) (by decide +kernel) rfl rfl dX9_clears_42 ?_
  refine jv_bipush (v := 8) C dX9_clears_45 (by decide) ?_
  refine jv_iload_n C dX9_clears_47 0 rfl ?_
  refine jv_imul C dX9_clears_48 ?_
  refine jv_ti (y := 232) (by decide) ?_
  refine jv_iconst (v := 0) C dX9_clears_49 (by decide) ?_
  refine jv_iast C (by decide) (jv_n (by decide) (jv_n (by decide) (jv_n (by decide) (va_up_self _ _ _)))) (jv_vi (by decide)) dX9_clears_50 ?_
  refine jv_aload_n C dX9_clears_51 2 rfl ?_
  refine jv_getf (fk := 21) C (by decide) (jv_n (by decide) (jv_n (by decide) (jv_n (by decide) (jv_n (by decide) (jv_n (by decide) (jv_n (by decide) (jv_n (by decide) (jv_n (by decide) (jv_n (by decide) (jv_n (by decide) (jv_n (by decide) (jv_n (by decide) (jv_n (by decide) (jv_n (by decide) (jv_n (by decide) (jv_n (by decide) (jv_n (by decide) (jv_n (by decide) (jv_n (by decide) (jv_n (by decide) (jv_n (by decide) (jv_n (by decide) (jv_n (by decide) (jv_n (by decide) (jv_n (by decide) h58))))))))))))))))))))))))) rfl in_X9_clears_9 (by decide) (by decide +kernel) rfl rfl dX9_clears_52 ?_
  refine jv_bipush (v := 8) C dX9_clears_55 (by decide) ?_
  refine jv_iload_n C dX9_clears_57 0 rfl ?_
  refine jv_imul C dX9_clears_58 ?_
  refine jv_ti (y := 232) (by decide) ?_
  refine jv_iload_n C dX9_clears_59 1 rfl ?_
  refine jv_iast C (by decide) (jv_n (by decide) (jv_n (by decide) (jv_n (by decide) (va_up_self _ _ _)))) (jv_vi (by decide)) dX9_clears_60 ?_
  refine jv_iinc (lv2 := [(1, .int 6), (2, .int 29), (0, .ref 58)]) C dX9_clears_61 hnl 1 rfl (by decide) (by decide) rfl ?_
  refine jv_goto (tgt := 16) C dX9_clears_64 (by decide) ?_
  refine jv_iload_n C dX9_clears_16 0 rfl ?_
  refine jv_bipush (v := 6) C dX9_clears_17 (by decide) ?_
  refine jv_icmp_ge (tgt := 67) C dX9_clears_19 (by decide) (fun _ => ?_) (fun h => absurd (by decide) h)
  refine jv_aload_n C dX9_clears_67 2 rfl ?_
  refine jv_getf (fk := 22) C (by decide) (jv_n (by decide) (jv_n (by decide) (jv_n (by decide) (jv_n (by decide) (jv_n (by decide) (jv_n (by decide) (jv_n (by decide) (jv_n (by decide) (jv_n (by decide) (jv_n (by decide) (jv_n (by decide) (jv_n (by decide) (jv_n (by decide) (jv_n (by decide) (jv_n (by decide) (jv_n (by decide) (jv_n (by decide) (jv_n (by decide) (jv_n (by decide) (jv_n (by decide) (jv_n (by decide) (jv_n (by decide) (jv_n (by decide) (jv_n (by decide) (jv_n (by decide) (jv_n (by decide) h58)))))))))))))))))))))))))) rfl in_X9_clears_9 (by decide) (by decide +kernel) rfl rfl dX9_clears_68 ?_
  refine jv_bipush (v := 8) C dX9_clears_71 (by decide) ?_
  refine jv_iconst (v := 0) C dX9_clears_73 (by decide) ?_
  refine jv_iast C (by decide) (jv_n (by decide) (jv_n (by decide) (jv_n (by decide) (jv_n (by decide) (jv_n (by decide) (jv_n (by decide) (jv_n (by decide) (jv_n (by decide) (jv_n (by decide) (jv_n (by decide) (jv_n (by decide) (jv_n (by decide) (jv_n (by decide) (jv_n (by decide) (jv_n (by decide) (jv_n (by decide) (jv_n (by decide) (jv_n (by decide) (jv_n (by decide) (jv_n (by decide) (jv_n (by decide) (jv_n (by decide) (jv_n (by decide) (jv_n (by decide) (jv_n (by decide) (jv_n (by decide) h70)))))))))))))))))))))))))) (jv_vi (by decide)) dX9_clears_74 ?_
  refine jv_aload_n C dX9_clears_75 2 rfl ?_
  refine jv_getf (fk := 22) C (by decide) (jv_n (by decide) (jv_n (by decide) (jv_n (by decide) (jv_n (by decide) (jv_n (by decide) (jv_n (by decide) (jv_n (by decide) (jv_n (by decide) (jv_n (by decide) (jv_n (by decide) (jv_n (by decide) (jv_n (by decide) (jv_n (by decide) (jv_n (by decide) (jv_n (by decide) (jv_n (by decide) (jv_n (by decide) (jv_n (by decide) (jv_n (by decide) (jv_n (by decide) (jv_n (by decide) (jv_n (by decide) (jv_n (by decide) (jv_n (by decide) (jv_n (by decide) (jv_n (by decide) (jv_n (by decide) h58))))))))))))))))))))))))))) rfl in_X9_clears_9 (by decide) (by decide +kernel) rfl rfl dX9_clears_76 ?_
  refine jv_bipush (v := 9) C dX9_clears_79 (by decide) ?_
  refine jv_iconst (v := 0) C dX9_clears_81 (by decide) ?_
  refine jv_iast C (by decide) (va_up_self _ _ _) (jv_vi (by decide)) dX9_clears_82 ?_
  refine jv_aload_n C dX9_clears_83 2 rfl ?_
  refine jv_getf (fk := 25) C (by decide) (jv_n (by decide) (jv_n (by decide) (jv_n (by decide) (jv_n (by decide) (jv_n (by decide) (jv_n (by decide) (jv_n (by decide) (jv_n (by decide) (jv_n (by decide) (jv_n (by decide) (jv_n (by decide) (jv_n (by decide) (jv_n (by decide) (jv_n (by decide) (jv_n (by decide) (jv_n (by decide) (jv_n (by decide) (jv_n (by decide) (jv_n (by decide) (jv_n (by decide) (jv_n (by decide) (jv_n (by decide) (jv_n (by decide) (jv_n (by decide) (jv_n (by decide) (jv_n (by decide) (jv_n (by decide) (jv_n (by decide) h58)))))))))))))))))))))))))))) rfl in_X9_clears_9 (by decide) (by decide +kernel) rfl rfl dX9_clears_84 ?_
  refine jv_bipush (v := 8) C dX9_clears_87 (by decide) ?_
  refine jv_bipush (v := 9) C dX9_clears_89 (by decide) ?_
  refine jv_iast C (by decide) (jv_n (by decide) (jv_n (by decide) (jv_n (by decide) (jv_n (by decide) (jv_n (by decide) (jv_n (by decide) (jv_n (by decide) (jv_n (by decide) (jv_n (by decide) (jv_n (by decide) (jv_n (by decide) (jv_n (by decide) (jv_n (by decide) (jv_n (by decide) (jv_n (by decide) (jv_n (by decide) (jv_n (by decide) (jv_n (by decide) (jv_n (by decide) (jv_n (by decide) (jv_n (by decide) (jv_n (by decide) (jv_n (by decide) (jv_n (by decide) (jv_n (by decide) (jv_n (by decide) (jv_n (by decide) (jv_n (by decide) h73)))))))))))))))))))))))))))) (jv_vi (by decide)) dX9_clears_91 ?_
  refine jv_aload_n C dX9_clears_92 2 rfl ?_
  refine jv_getf (fk := 25) C (by decide) (jv_n (by decide) (jv_n (by decide) (jv_n (by decide) (jv_n (by decide) (jv_n (by decide) (jv_n (by decide) (jv_n (by decide) (jv_n (by decide) (jv_n (by decide) (jv_n (by decide) (jv_n (by decide) (jv_n (by decide) (jv_n (by decide) (jv_n (by decide) (jv_n (by decide) (jv_n (by decide) (jv_n (by decide) (jv_n (by decide) (jv_n (by decide) (jv_n (by decide) (jv_n (by decide) (jv_n (by decide) (jv_n (by decide) (jv_n (by decide) (jv_n (by decide) (jv_n (by decide) (jv_n (by decide) (jv_n (by decide) (jv_n (by decide) h58))))))))))))))))))))))))))))) rfl in_X9_clears_9 (by decide) (by decide +kernel) rfl rfl dX9_clears_93 ?_
  refine jv_bipush (v := 9) C dX9_clears_96 (by decide) ?_
  refine jv_iconst (v := 0) C dX9_clears_98 (by decide) ?_
  refine jv_iast C (by decide) (va_up_self _ _ _) (jv_vi (by decide)) dX9_clears_99 ?_
  refine jv_aload_n C dX9_clears_100 2 rfl ?_
  refine jv_iconst (v := 0) C dX9_clears_101 (by decide) ?_
  refine jv_putf (fk := 26) (ty := .boolean) (fs2 := [.int 0, .ref 59, .ref 60, .ref 61, .ref 62, .ref 63, .int 0, .int 0, .int 0, .int 0, .int 0, .long 0, .int 0, .int 0, .int 0, .int (-1), .ref 64, .ref 65, .ref 66, .ref 67, .ref 68, .ref 69, .ref 70, .ref 71, .ref 72, .ref 73, .int 0, .ref 74, .ref 75, .ref 76, .int 0, .int 0, .ref 77, .ref 78, .ref 79, .int 0, .int 0, .int 0, .ref 80, .ref 81, .ref 82, .long 0, .ref 83, .int 0, .int 0, .int 0]) C (by decide) (jv_n (by decide) (jv_n (by decide) (jv_n (by decide) (jv_n (by decide) (jv_n (by decide) (jv_n (by decide) (jv_n (by decide) (jv_n (by decide) (jv_n (by decide) (jv_n (by decide) (jv_n (by decide) (jv_n (by decide) (jv_n (by decide) (jv_n (by decide) (jv_n (by decide) (jv_n (by decide) (jv_n (by decide) (jv_n (by decide) (jv_n (by decide) (jv_n (by decide) (jv_n (by decide) (jv_n (by decide) (jv_n (by decide) (jv_n (by decide) (jv_n (by decide) (jv_n (by decide) (jv_n (by decide) (jv_n (by decide) (jv_n (by decide) (jv_n (by decide) h58)))))))))))))))))))))))))))))) rfl in_X9_clears_9 tyX9 tyX9_ok nmX9 (by decide) (by decide +kernel) rfl rfl rfl (fun _ => (by decide : narrow .boolean (.int 0) = .int 0)) (fun _ => (by decide : fits .boolean (.int 0) = true)) (Nat.le_of_ble_eq_true rfl) dX9_clears_102 rfl ?_
  exact jv_vret C B ⟨rfl, rfl, fun j g0 g1 g2 g3 g4 g5 g6 g7 g8 => ((va_up_ne _ _ g0).trans ((va_up_ne _ _ g8).trans ((va_up_ne _ _ g8).trans ((va_up_ne _ _ g7).trans ((va_up_ne _ _ g7).trans ((va_up_ne _ _ g6).trans ((va_up_ne _ _ g5).trans ((va_up_ne _ _ g4).trans ((va_up_ne _ _ g3).trans ((va_up_ne _ _ g6).trans ((va_up_ne _ _ g5).trans ((va_up_ne _ _ g4).trans ((va_up_ne _ _ g3).trans ((va_up_ne _ _ g6).trans ((va_up_ne _ _ g5).trans ((va_up_ne _ _ g4).trans ((va_up_ne _ _ g3).trans ((va_up_ne _ _ g6).trans ((va_up_ne _ _ g5).trans ((va_up_ne _ _ g4).trans ((va_up_ne _ _ g3).trans ((va_up_ne _ _ g6).trans ((va_up_ne _ _ g5).trans ((va_up_ne _ _ g4).trans ((va_up_ne _ _ g3).trans ((va_up_ne _ _ g6).trans ((va_up_ne _ _ g5).trans ((va_up_ne _ _ g4).trans ((va_up_ne _ _ g3).trans ((va_up_ne _ _ g2).trans (va_up_ne _ _ g1))))))))))))))))))))))))))))))), (va_up_self _ _ _), (jv_n (by decide) (jv_n (by decide) (jv_n (by decide) (jv_n (by decide) (jv_n (by decide) (jv_n (by decide) (jv_n (by decide) (jv_n (by decide) (jv_n (by decide) (jv_n (by decide) (jv_n (by decide) (jv_n (by decide) (jv_n (by decide) (jv_n (by decide) (jv_n (by decide) (jv_n (by decide) (jv_n (by decide) (jv_n (by decide) (jv_n (by decide) (jv_n (by decide) (jv_n (by decide) (jv_n (by decide) (jv_n (by decide) (jv_n (by decide) (jv_n (by decide) (jv_n (by decide) (jv_n (by decide) (jv_n (by decide) (jv_n (by decide) (jv_n (by decide) (va_up_self _ _ _))))))))))))))))))))))))))))))), (jv_n (by decide) (jv_n (by decide) (jv_n (by decide) (jv_n (by decide) (jv_n (by decide) (jv_n (by decide) (jv_n (by decide) (jv_n (by decide) (jv_n (by decide) (jv_n (by decide) (jv_n (by decide) (jv_n (by decide) (jv_n (by decide) (jv_n (by decide) (jv_n (by decide) (jv_n (by decide) (jv_n (by decide) (jv_n (by decide) (jv_n (by decide) (jv_n (by decide) (jv_n (by decide) (jv_n (by decide) (jv_n (by decide) (jv_n (by decide) (jv_n (by decide) (jv_n (by decide) (jv_n (by decide) (jv_n (by decide) (jv_n (by decide) (va_up_self _ _ _)))))))))))))))))))))))))))))), (jv_n (by decide) (jv_n (by decide) (jv_n (by decide) (jv_n (by decide) (jv_n (by decide) (jv_n (by decide) (jv_n (by decide) (jv_n (by decide) (va_up_self _ _ _))))))))), (jv_n (by decide) (jv_n (by decide) (jv_n (by decide) (jv_n (by decide) (jv_n (by decide) (jv_n (by decide) (jv_n (by decide) (va_up_self _ _ _)))))))), (jv_n (by decide) (jv_n (by decide) (jv_n (by decide) (jv_n (by decide) (jv_n (by decide) (jv_n (by decide) (va_up_self _ _ _))))))), (jv_n (by decide) (jv_n (by decide) (jv_n (by decide) (jv_n (by decide) (jv_n (by decide) (va_up_self _ _ _)))))), (jv_n (by decide) (jv_n (by decide) (jv_n (by decide) (va_up_self _ _ _)))), (jv_n (by decide) (va_up_self _ _ _))⟩ ⟨by decide, by decide⟩ dX9_clears_105
theorem q_X9_copyRow : yX9_copyRow.cls ≠ "java/lang/invoke/MethodHandle" ∧ yX9_copyRow.cls ≠ "java/lang/invoke/VarHandle" ∧ (parseMethodDescriptor yX9_copyRow.desc).map (fun d => d.parameters.length) = some 4 := by decide +kernel
theorem in_X9_copyCity_9 : ∀ w ∈ u_ws RX9 TX9 46, w ∈ wsX9_copyCity := by decide +kernel
set_option maxRecDepth 100000 in
set_option maxHeartbeats 8000000 in
theorem c_X9_copyCity_4 (l : Launch) (D : va_G) (kp : Nat → ClassId) {n : Nat} {E : Nat → jv_E} (h64 : E 64 = .inl (0, 6, .inl (upd (fun _ => 0) (4 : Int32).toNatClampNeg 0))) (h65 : E 65 = .inl (0, 6, .inl (upd (fun _ => 0) (4 : Int32).toNatClampNeg 0))) (h66 : E 66 = .inl (0, 36, .inl (upd (upd (upd (upd (upd (upd (fun _ => 0) (24 : Int32).toNatClampNeg 0) (25 : Int32).toNatClampNeg 0) (26 : Int32).toNatClampNeg 0) (27 : Int32).toNatClampNeg 0) (28 : Int32).toNatClampNeg 0) (29 : Int32).toNatClampNeg 0))) (h67 : E 67 = .inl (0, 36, .inl (upd (upd (upd (upd (upd (upd (fun _ => 0) (24 : Int32).toNatClampNeg 1) (25 : Int32).toNatClampNeg 1) (26 : Int32).toNatClampNeg 1) (27 : Int32).toNatClampNeg 1) (28 : Int32).toNatClampNeg 1) (29 : Int32).toNatClampNeg 1))) (h68 : E 68 = .inl (0, 288, .inl (upd (upd (upd (upd (upd (upd (fun _ => 0) (192 : Int32).toNatClampNeg 0) (200 : Int32).toNatClampNeg 0) (208 : Int32).toNatClampNeg 0) (216 : Int32).toNatClampNeg 0) (224 : Int32).toNatClampNeg 0) (232 : Int32).toNatClampNeg 0))) (h69 : E 69 = .inl (0, 288, .inl (upd (upd (upd (upd (upd (upd (fun _ => 0) (192 : Int32).toNatClampNeg 0) (200 : Int32).toNatClampNeg 1) (208 : Int32).toNatClampNeg 2) (216 : Int32).toNatClampNeg 3) (224 : Int32).toNatClampNeg 4) (232 : Int32).toNatClampNeg 5))) (h70 : E 70 = .inl (0, 12, .inl (upd (upd (fun _ => 0) (8 : Int32).toNatClampNeg 0) (9 : Int32).toNatClampNeg 0))) (h71 : E 71 = cx71) (h72 : E 72 = cx72) (h73 : E 73 = .inl (0, 12, .inl (upd (upd (fun _ => 0) (8 : Int32).toNatClampNeg 9) (9 : Int32).toNatClampNeg 0))) (h58 : E 58 = .inr (9, [.int 0, .ref 59, .ref 60, .ref 61, .ref 62, .ref 63, .int 0, .int 0, .int 0, .int 0, .int 0, .long 0, .int 0, .int (-1), .int 0, .int (-1), .ref 64, .ref 65, .ref 66, .ref 67, .ref 68, .ref 69, .ref 70, .ref 71, .ref 72, .ref 73, .int 0, .ref 74, .ref 75, .ref 76, .int 0, .int 0, .ref 77, .ref 78, .ref 79, .int 0, .int 0, .int 0, .ref 80, .ref 81, .ref 82, .long 0, .ref 83, .int 0, .int 0, .int 0]))  : jv_M l D vwCl kp yX9_copyCity wsX9_copyCity rm2 [] [.ref 58, .int 4, .int 0] n E 0 0 (fun r n1 E1 => none = r ∧ n = n1 ∧ (∀ j, j ≠ 64 → j ≠ 65 → j ≠ 66 → j ≠ 67 → j ≠ 68 → j ≠ 69 → j ≠ 70 → j ≠ 71 → j ≠ 72 → j ≠ 73 → E1 j = E j) ∧ (∃ g, E1 64 = .inl (0, 6, .inl g) ∧ ∀ j, g j = 0) ∧ (∃ g, E1 65 = .inl (0, 6, .inl g)) ∧ (∃ g, E1 66 = .inl (0, 36, .inl g)) ∧ (∃ g, E1 67 = .inl (0, 36, .inl g)) ∧ (∃ g, E1 68 = .inl (0, 288, .inl g)) ∧ (∃ g, E1 69 = .inl (0, 288, .inl g)) ∧ (∃ g, E1 70 = .inl (0, 12, .inl g)) ∧ (∃ g, E1 71 = .inl (0, 72, .inl g)) ∧ (∃ g, E1 72 = .inl (0, 144, .inl g)) ∧ (∃ g, E1 73 = .inl (0, 12, .inl g))) := by
  refine jv_of (by decide) rfl (Nat.le_of_ble_eq_true rfl) (fun G C B hI hnl => ?_)
  show jv_V l D vwCl kp G 0 0 n E 0 [(0, .ref 58), (1, .int 4), (2, .int 0)] []
  refine jv_aload_n C dX9_copyCity_0 0 rfl ?_
  refine jv_getf (fk := 16) C (by decide) h58 rfl in_X9_copyCity_9 (by decide) (by decide +kernel) rfl rfl dX9_copyCity_1 ?_
  refine jv_iconst (v := 1) C dX9_copyCity_4 (by decide) ?_
  refine jv_iload_n C dX9_copyCity_5 1 rfl ?_
  refine jv_iload_n C dX9_copyCity_6 2 rfl ?_
  refine jv_callS (na := 4) (As := [.ref 64, .int 1, .int 4, .int 0]) (st := []) C (c_X9_copyRow l D kp h64 1 4 0 (by decide) (by decide) (by decide) (by decide) (by decide)) gX9_copyCity_X9_copyRow rfl rfl rfl q_X9_copyRow rfl ⟨by decide, by decide⟩ ⟨by decide, by decide⟩ (fun _ h => absurd h List.not_mem_nil) (Nat.le_of_ble_eq_true rfl) rfl dX9_copyCity_7 (fun r n1 E_1 hp _ => ?_)
  obtain ⟨rfl, rfl, hf2, g_4, e3, hz5⟩ := hp
  show jv_V l D vwCl kp G 0 0 n E_1 10 [(0, .ref 58), (1, .int 4), (2, .int 0)] []
  refine jv_aload_n C dX9_copyCity_10 0 rfl ?_
  refine jv_getf (fk := 17) C (by decide) ((hf2 58 (by decide)).trans h58) rfl in_X9_copyCity_9 (by decide) (by decide +kernel) rfl rfl dX9_copyCity_11 ?_
  refine jv_iconst (v := 1) C dX9_copyCity_14 (by decide) ?_
  refine jv_iload_n C dX9_copyCity_15 1 rfl ?_
  refine jv_iload_n C dX9_copyCity_16 2 rfl ?_
  refine jv_callS (na := 4) (As := [.ref 65, .int 1, .int 4, .int 0]) (st := []) C (c_X9_copyRow l D kp ((hf2 65 (by decide)).trans h65) 1 4 0 (by decide) (by decide) (by decide) (by decide) (by decide)) gX9_copyCity_X9_copyRow rfl rfl rfl q_X9_copyRow rfl ⟨by decide, by decide⟩ ⟨by decide, by decide⟩ (fun _ h => absurd h List.not_mem_nil) (Nat.le_of_ble_eq_true rfl) rfl dX9_copyCity_17 (fun r n1 E_6 hp _ => ?_)
  obtain ⟨rfl, rfl, hf7, g_9, e8, hz10⟩ := hp
  show jv_V l D vwCl kp G 0 0 n E_6 20 [(0, .ref 58), (1, .int 4), (2, .int 0)] []
  refine jv_aload_n C dX9_copyCity_20 0 rfl ?_
  refine jv_getf (fk := 18) C (by decide) ((hf7 58 (by decide)).trans ((hf2 58 (by decide)).trans h58)) rfl in_X9_copyCity_9 (by decide) (by decide +kernel) rfl rfl dX9_copyCity_21 ?_
  refine jv_bipush (v := 6) C dX9_copyCity_24 (by decide) ?_
  refine jv_iload_n C dX9_copyCity_26 1 rfl ?_
  refine jv_iload_n C dX9_copyCity_27 2 rfl ?_
  refine jv_callS (na := 4) (As := [.ref 66, .int 6, .int 4, .int 0]) (st := []) C (c_X9_copyRow l D kp ((hf7 66 (by decide)).trans ((hf2 66 (by decide)).trans h66)) 6 4 0 (by decide) (by decide) (by decide) (by decide) (by decide)) gX9_copyCity_X9_copyRow rfl rfl rfl q_X9_copyRow rfl ⟨by decide, by decide⟩ ⟨by decide, by decide⟩ (fun _ h => absurd h List.not_mem_nil) (Nat.le_of_ble_eq_true rfl) rfl dX9_copyCity_28 (fun r n1 E_11 hp _ => ?_)
  obtain ⟨rfl, rfl, hf12, g_14, e13, hz15⟩ := hp
  show jv_V l D vwCl kp G 0 0 n E_11 31 [(0, .ref 58), (1, .int 4), (2, .int 0)] []
  refine jv_aload_n C dX9_copyCity_31 0 rfl ?_
  refine jv_getf (fk := 19) C (by decide) ((hf12 58 (by decide)).trans ((hf7 58 (by decide)).trans ((hf2 58 (by decide)).trans h58))) rfl in_X9_copyCity_9 (by decide) (by decide +kernel) rfl rfl dX9_copyCity_32 ?_
  refine jv_bipush (v := 6) C dX9_copyCity_35 (by decide) ?_
  refine jv_iload_n C dX9_copyCity_37 1 rfl ?_
  refine jv_iload_n C dX9_copyCity_38 2 rfl ?_
  refine jv_callS (na := 4) (As := [.ref 67, .int 6, .int 4, .int 0]) (st := []) C (c_X9_copyRow l D kp ((hf12 67 (by decide)).trans ((hf7 67 (by decide)).trans ((hf2 67 (by decide)).trans h67))) 6 4 0 (by decide) (by decide) (by decide) (by decide) (by decide)) gX9_copyCity_X9_copyRow rfl rfl rfl q_X9_copyRow rfl ⟨by decide, by decide⟩ ⟨by decide, by decide⟩ (fun _ h => absurd h List.not_mem_nil) (Nat.le_of_ble_eq_true rfl) rfl dX9_copyCity_39 (fun r n1 E_16 hp _ => ?_)
  obtain ⟨rfl, rfl, hf17, g_19, e18, hz20⟩ := hp
  show jv_V l D vwCl kp G 0 0 n E_16 42 [(0, .ref 58), (1, .int 4), (2, .int 0)] []
  refine jv_aload_n C dX9_copyCity_42 0 rfl ?_
  refine jv_getf (fk := 20) C (by decide) ((hf17 58 (by decide)).trans ((hf12 58 (by decide)).trans ((hf7 58 (by decide)).trans ((hf2 58 (by decide)).trans h58)))) rfl in_X9_copyCity_9 (by decide) (by decide +kernel) rfl rfl dX9_copyCity_43 ?_
  refine jv_bipush (v := 48) C dX9_copyCity_46 (by decide) ?_
  refine jv_iload_n C dX9_copyCity_48 1 rfl ?_
  refine jv_iload_n C dX9_copyCity_49 2 rfl ?_
  refine jv_callS (na := 4) (As := [.ref 68, .int 48, .int 4, .int 0]) (st := []) C (c_X9_copyRow l D kp ((hf17 68 (by decide)).trans ((hf12 68 (by decide)).trans ((hf7 68 (by decide)).trans ((hf2 68 (by decide)).trans h68)))) 48 4 0 (by decide) (by decide) (by decide) (by decide) (by decide)) gX9_copyCity_X9_copyRow rfl rfl rfl q_X9_copyRow rfl ⟨by decide, by decide⟩ ⟨by decide, by decide⟩ (fun _ h => absurd h List.not_mem_nil) (Nat.le_of_ble_eq_true rfl) rfl dX9_copyCity_50 (fun r n1 E_21 hp _ => ?_)
  obtain ⟨rfl, rfl, hf22, g_24, e23, hz25⟩ := hp
  show jv_V l D vwCl kp G 0 0 n E_21 53 [(0, .ref 58), (1, .int 4), (2, .int 0)] []
  refine jv_aload_n C dX9_copyCity_53 0 rfl ?_
  refine jv_getf (fk := 21) C (by decide) ((hf22 58 (by decide)).trans ((hf17 58 (by decide)).trans ((hf12 58 (by decide)).trans ((hf7 58 (by decide)).trans ((hf2 58 (by decide)).trans h58))))) rfl in_X9_copyCity_9 (by decide) (by decide +kernel) rfl rfl dX9_copyCity_54 ?_
  refine jv_bipush (v := 48) C dX9_copyCity_57 (by decide) ?_
  refine jv_iload_n C dX9_copyCity_59 1 rfl ?_
  refine jv_iload_n C dX9_copyCity_60 2 rfl ?_
  refine jv_callS (na := 4) (As := [.ref 69, .int 48, .int 4, .int 0]) (st := []) C (c_X9_copyRow l D kp ((hf22 69 (by decide)).trans ((hf17 69 (by decide)).trans ((hf12 69 (by decide)).trans ((hf7 69 (by decide)).trans ((hf2 69 (by decide)).trans h69))))) 48 4 0 (by decide) (by decide) (by decide) (by decide) (by decide)) gX9_copyCity_X9_copyRow rfl rfl rfl q_X9_copyRow rfl ⟨by decide, by decide⟩ ⟨by decide, by decide⟩ (fun _ h => absurd h List.not_mem_nil) (Nat.le_of_ble_eq_true rfl) rfl dX9_copyCity_61 (fun r n1 E_26 hp _ => ?_)
  obtain ⟨rfl, rfl, hf27, g_29, e28, hz30⟩ := hp
  show jv_V l D vwCl kp G 0 0 n E_26 64 [(0, .ref 58), (1, .int 4), (2, .int 0)] []
  refine jv_aload_n C dX9_copyCity_64 0 rfl ?_
  refine jv_getf (fk := 22) C (by decide) ((hf27 58 (by decide)).trans ((hf22 58 (by decide)).trans ((hf17 58 (by decide)).trans ((hf12 58 (by decide)).trans ((hf7 58 (by decide)).trans ((hf2 58 (by decide)).trans h58)))))) rfl in_X9_copyCity_9 (by decide) (by decide +kernel) rfl rfl dX9_copyCity_65 ?_
  refine jv_iconst (v := 2) C dX9_copyCity_68 (by decide) ?_
  refine jv_iload_n C dX9_copyCity_69 1 rfl ?_
  refine jv_iload_n C dX9_copyCity_70 2 rfl ?_
  refine jv_callS (na := 4) (As := [.ref 70, .int 2, .int 4, .int 0]) (st := []) C (c_X9_copyRow l D kp ((hf27 70 (by decide)).trans ((hf22 70 (by decide)).trans ((hf17 70 (by decide)).trans ((hf12 70 (by decide)).trans ((hf7 70 (by decide)).trans ((hf2 70 (by decide)).trans h70)))))) 2 4 0 (by decide) (by decide) (by decide) (by decide) (by decide)) gX9_copyCity_X9_copyRow rfl rfl rfl q_X9_copyRow rfl ⟨by decide, by decide⟩ ⟨by decide, by decide⟩ (fun _ h => absurd h List.not_mem_nil) (Nat.le_of_ble_eq_true rfl) rfl dX9_copyCity_71 (fun r n1 E_31 hp _ => ?_)
  obtain ⟨rfl, rfl, hf32, g_34, e33, hz35⟩ := hp
  show jv_V l D vwCl kp G 0 0 n E_31 74 [(0, .ref 58), (1, .int 4), (2, .int 0)] []
  refine jv_aload_n C dX9_copyCity_74 0 rfl ?_
  refine jv_getf (fk := 23) C (by decide) ((hf32 58 (by decide)).trans ((hf27 58 (by decide)).trans ((hf22 58 (by decide)).trans ((hf17 58 (by decide)).trans ((hf12 58 (by decide)).trans ((hf7 58 (by decide)).trans ((hf2 58 (by decide)).trans h58))))))) rfl in_X9_copyCity_9 (by decide) (by decide +kernel) rfl rfl dX9_copyCity_75 ?_
  refine jv_bipush (v := 12) C dX9_copyCity_78 (by decide) ?_
  refine jv_iload_n C dX9_copyCity_80 1 rfl ?_
  refine jv_iload_n C dX9_copyCity_81 2 rfl ?_
  refine jv_callS (na := 4) (As := [.ref 71, .int 12, .int 4, .int 0]) (st := []) C (c_X9_copyRow l D kp ((hf32 71 (by decide)).trans ((hf27 71 (by decide)).trans ((hf22 71 (by decide)).trans ((hf17 71 (by decide)).trans ((hf12 71 (by decide)).trans ((hf7 71 (by decide)).trans ((hf2 71 (by decide)).trans h71))))))) 12 4 0 (by decide) (by decide) (by decide) (by decide) (by decide)) gX9_copyCity_X9_copyRow rfl rfl rfl q_X9_copyRow rfl ⟨by decide, by decide⟩ ⟨by decide, by decide⟩ (fun _ h => absurd h List.not_mem_nil) (Nat.le_of_ble_eq_true rfl) rfl dX9_copyCity_82 (fun r n1 E_36 hp _ => ?_)
  obtain ⟨rfl, rfl, hf37, g_39, e38, hz40⟩ := hp
  show jv_V l D vwCl kp G 0 0 n E_36 85 [(0, .ref 58), (1, .int 4), (2, .int 0)] []
  refine jv_aload_n C dX9_copyCity_85 0 rfl ?_
  refine jv_getf (fk := 24) C (by decide) ((hf37 58 (by decide)).trans ((hf32 58 (by decide)).trans ((hf27 58 (by decide)).trans ((hf22 58 (by decide)).trans ((hf17 58 (by decide)).trans ((hf12 58 (by decide)).trans ((hf7 58 (by decide)).trans ((hf2 58 (by decide)).trans h58)))))))) rfl in_X9_copyCity_9 (by decide) (by decide +kernel) rfl rfl dX9_copyCity_86 ?_
  refine jv_bipush (v := 24) C dX9_copyCity_89 (by decide) ?_
  refine jv_iload_n C dX9_copyCity_91 1 rfl ?_
  refine jv_iload_n C dX9_copyCity_92 2 rfl ?_
  refine jv_callS (na := 4) (As := [.ref 72, .int 24, .int 4, .int 0]) (st := []) C (c_X9_copyRow l D kp ((hf37 72 (by decide)).trans ((hf32 72 (by decide)).trans ((hf27 72 (by decide)).trans ((hf22 72 (by decide)).trans ((hf17 72 (by decide)).trans ((hf12 72 (by decide)).trans ((hf7 72 (by decide)).trans ((hf2 72 (by decide)).trans h72)))))))) 24 4 0 (by decide) (by decide) (by decide) (by decide) (by decide)) gX9_copyCity_X9_copyRow rfl rfl rfl q_X9_copyRow rfl ⟨by decide, by decide⟩ ⟨by decide, by decide⟩ (fun _ h => absurd h List.not_mem_nil) (Nat.le_of_ble_eq_true rfl) rfl dX9_copyCity_93 (fun r n1 E_41 hp _ => ?_)
  obtain ⟨rfl, rfl, hf42, g_44, e43, hz45⟩ := hp
  show jv_V l D vwCl kp G 0 0 n E_41 96 [(0, .ref 58), (1, .int 4), (2, .int 0)] []
  refine jv_aload_n C dX9_copyCity_96 0 rfl ?_
  refine jv_getf (fk := 25) C (by decide) ((hf42 58 (by decide)).trans ((hf37 58 (by decide)).trans ((hf32 58 (by decide)).trans ((hf27 58 (by decide)).trans ((hf22 58 (by decide)).trans ((hf17 58 (by decide)).trans ((hf12 58 (by decide)).trans ((hf7 58 (by decide)).trans ((hf2 58 (by decide)).trans h58))))))))) rfl in_X9_copyCity_9 (by decide) (by decide +kernel) rfl rfl dX9_copyCity_97 ?_
  refine jv_iconst (v := 2) C dX9_copyCity_100 (by decide) ?_
  refine jv_iload_n C dX9_copyCity_101 1 rfl ?_
  refine jv_iload_n C dX9_copyCity_102 2 rfl ?_
  refine jv_callS (na := 4) (As := [.ref 73, .int 2, .int 4, .int 0]) (st := []) C (c_X9_copyRow l D kp ((hf42 73 (by decide)).trans ((hf37 73 (by decide)).trans ((hf32 73 (by decide)).trans ((hf27 73 (by decide)).trans ((hf22 73 (by decide)).trans ((hf17 73 (by decide)).trans ((hf12 73 (by decide)).trans ((hf7 73 (by decide)).trans ((hf2 73 (by decide)).trans h73))))))))) 2 4 0 (by decide) (by decide) (by decide) (by decide) (by decide)) gX9_copyCity_X9_copyRow rfl rfl rfl q_X9_copyRow rfl ⟨by decide, by decide⟩ ⟨by decide, by decide⟩ (fun _ h => absurd h List.not_mem_nil) (Nat.le_of_ble_eq_true rfl) rfl dX9_copyCity_103 (fun r n1 E_46 hp _ => ?_)
  obtain ⟨rfl, rfl, hf47, g_49, e48, hz50⟩ := hp
  show jv_V l D vwCl kp G 0 0 n E_46 106 [(0, .ref 58), (1, .int 4), (2, .int 0)] []
  exact jv_vret C B ⟨rfl, rfl, fun j g0 g1 g2 g3 g4 g5 g6 g7 g8 g9 => ((hf47 j g9).trans ((hf42 j g8).trans ((hf37 j g7).trans ((hf32 j g6).trans ((hf27 j g5).trans ((hf22 j g4).trans ((hf17 j g3).trans ((hf12 j g2).trans ((hf7 j g1).trans (hf2 j g0)))))))))), ⟨_, ((hf47 64 (by decide)).trans ((hf42 64 (by decide)).trans ((hf37 64 (by decide)).trans ((hf32 64 (by decide)).trans ((hf27 64 (by decide)).trans ((hf22 64 (by decide)).trans ((hf17 64 (by decide)).trans ((hf12 64 (by decide)).trans ((hf7 64 (by decide)).trans e3))))))))), (hz5 (fun j => by simp [upd]))⟩, ⟨_, ((hf47 65 (by decide)).trans ((hf42 65 (by decide)).trans ((hf37 65 (by decide)).trans ((hf32 65 (by decide)).trans ((hf27 65 (by decide)).trans ((hf22 65 (by decide)).trans ((hf17 65 (by decide)).trans ((hf12 65 (by decide)).trans e8))))))))⟩, ⟨_, ((hf47 66 (by decide)).trans ((hf42 66 (by decide)).trans ((hf37 66 (by decide)).trans ((hf32 66 (by decide)).trans ((hf27 66 (by decide)).trans ((hf22 66 (by decide)).trans ((hf17 66 (by decide)).trans e13)))))))⟩, ⟨_, ((hf47 67 (by decide)).trans ((hf42 67 (by decide)).trans ((hf37 67 (by decide)).trans ((hf32 67 (by decide)).trans ((hf27 67 (by decide)).trans ((hf22 67 (by decide)).trans e18))))))⟩, ⟨_, ((hf47 68 (by decide)).trans ((hf42 68 (by decide)).trans ((hf37 68 (by decide)).trans ((hf32 68 (by decide)).trans ((hf27 68 (by decide)).trans e23)))))⟩, ⟨_, ((hf47 69 (by decide)).trans ((hf42 69 (by decide)).trans ((hf37 69 (by decide)).trans ((hf32 69 (by decide)).trans e28))))⟩, ⟨_, ((hf47 70 (by decide)).trans ((hf42 70 (by decide)).trans ((hf37 70 (by decide)).trans e33)))⟩, ⟨_, ((hf47 71 (by decide)).trans ((hf42 71 (by decide)).trans e38))⟩, ⟨_, ((hf47 72 (by decide)).trans e43)⟩, ⟨_, e48⟩⟩ ⟨by decide, by decide⟩ dX9_copyCity_106
set_option maxRecDepth 100000 in
set_option maxHeartbeats 8000000 in
theorem c_X9_copyCity_0_1 (l : Launch) (D : va_G) (kp : Nat → ClassId) {n : Nat} {E : Nat → jv_E} (h58 : E 58 = cx58) (h64 : E 64 = cx64) (h65 : E 65 = cx65) (h66 : E 66 = cx66) (h67 : E 67 = cx67) (h68 : E 68 = cx68) (h69 : E 69 = cx69) (h70 : E 70 = cx70) (h71 : E 71 = cx71) (h72 : E 72 = cx72) (h73 : E 73 = cx73)  : jv_M l D vwCl kp yX9_copyCity wsX9_copyCity rm2 [] [.ref 58, .int 0, .int 1] n E 0 0 (fun r n1 E1 => none = r ∧ n = n1 ∧ (∀ j, j ≠ 64 → j ≠ 65 → j ≠ 66 → j ≠ 67 → j ≠ 68 → j ≠ 69 → j ≠ 70 → j ≠ 71 → j ≠ 72 → j ≠ 73 → E1 j = E j) ∧ (∃ g, E1 64 = .inl (0, 6, .inl g)) ∧ (∃ g, E1 65 = .inl (0, 6, .inl g)) ∧ (∃ g, E1 66 = .inl (0, 36, .inl g)) ∧ (∃ g, E1 67 = .inl (0, 36, .inl g)) ∧ (∃ g, E1 68 = .inl (0, 288, .inl g)) ∧ (∃ g, E1 69 = .inl (0, 288, .inl g)) ∧ (∃ g, E1 70 = .inl (0, 12, .inl g)) ∧ (∃ g, E1 71 = .inl (0, 72, .inl g)) ∧ (∃ g, E1 72 = .inl (0, 144, .inl g)) ∧ (∃ g, E1 73 = .inl (0, 12, .inl g))) := by
  refine jv_of (by decide) rfl (Nat.le_of_ble_eq_true rfl) (fun G C B hI hnl => ?_)
  show jv_V l D vwCl kp G 0 0 n E 0 [(0, .ref 58), (1, .int 0), (2, .int 1)] []
  refine jv_aload_n C dX9_copyCity_0 0 rfl ?_
  refine jv_getf (fk := 16) C (by decide) h58 rfl in_X9_copyCity_9 (by decide) (by decide +kernel) rfl rfl dX9_copyCity_1 ?_
  refine jv_iconst (v := 1) C dX9_copyCity_4 (by decide) ?_
  refine jv_iload_n C dX9_copyCity_5 1 rfl ?_
  refine jv_iload_n C dX9_copyCity_6 2 rfl ?_
  refine jv_callS (na := 4) (As := [.ref 64, .int 1, .int 0, .int 1]) (st := []) C (c_X9_copyRow l D kp h64 1 0 1 (by decide) (by decide) (by decide) (by decide) (by decide)) gX9_copyCity_X9_copyRow rfl rfl rfl q_X9_copyRow rfl ⟨by decide, by decide⟩ ⟨by decide, by decide⟩ (fun _ h => absurd h List.not_mem_nil) (Nat.le_of_ble_eq_true rfl) rfl dX9_copyCity_7 (fun r n1 E_1 hp _ => ?_)
  obtain ⟨rfl, rfl, hf2, g_4, e3, hz5⟩ := hp
  show jv_V l D vwCl kp G 0 0 n E_1 10 [(0, .ref 58), (1, .int 0), (2, .int 1)] []
  refine jv_aload_n C dX9_copyCity_10 0 rfl ?_
  refine jv_getf (fk := 17) C (by decide) ((hf2 58 (by decide)).trans h58) rfl in_X9_copyCity_9 (by decide) (by decide +kernel) rfl rfl dX9_copyCity_11 ?_
  refine jv_iconst (v := 1) C dX9_copyCity_14 (by decide) ?_
  refine jv_iload_n C dX9_copyCity_15 1 rfl ?_
  refine jv_iload_n C dX9_copyCity_16 2 rfl ?_
  refine jv_callS (na := 4) (As := [.ref 65, .int 1, .int 0, .int 1]) (st := []) C (c_X9_copyRow l D kp ((hf2 65 (by decide)).trans h65) 1 0 1 (by decide) (by decide) (by decide) (by decide) (by decide)) gX9_copyCity_X9_copyRow rfl rfl rfl q_X9_copyRow rfl ⟨by decide, by decide⟩ ⟨by decide, by decide⟩ (fun _ h => absurd h List.not_mem_nil) (Nat.le_of_ble_eq_true rfl) rfl dX9_copyCity_17 (fun r n1 E_6 hp _ => ?_)
  obtain ⟨rfl, rfl, hf7, g_9, e8, hz10⟩ := hp
  show jv_V l D vwCl kp G 0 0 n E_6 20 [(0, .ref 58), (1, .int 0), (2, .int 1)] []
  refine jv_aload_n C dX9_copyCity_20 0 rfl ?_
  refine jv_getf (fk := 18) C (by decide) ((hf7 58 (by decide)).trans ((hf2 58 (by decide)).trans h58)) rfl in_X9_copyCity_9 (by decide) (by decide +kernel) rfl rfl dX9_copyCity_21 ?_
  refine jv_bipush (v := 6) C dX9_copyCity_24 (by decide) ?_
  refine jv_iload_n C dX9_copyCity_26 1 rfl ?_
  refine jv_iload_n C dX9_copyCity_27 2 rfl ?_
  refine jv_callS (na := 4) (As := [.ref 66, .int 6, .int 0, .int 1]) (st := []) C (c_X9_copyRow l D kp ((hf7 66 (by decide)).trans ((hf2 66 (by decide)).trans h66)) 6 0 1 (by decide) (by decide) (by decide) (by decide) (by decide)) gX9_copyCity_X9_copyRow rfl rfl rfl q_X9_copyRow rfl ⟨by decide, by decide⟩ ⟨by decide, by decide⟩ (fun _ h => absurd h List.not_mem_nil) (Nat.le_of_ble_eq_true rfl) rfl dX9_copyCity_28 (fun r n1 E_11 hp _ => ?_)
  obtain ⟨rfl, rfl, hf12, g_14, e13, hz15⟩ := hp
  show jv_V l D vwCl kp G 0 0 n E_11 31 [(0, .ref 58), (1, .int 0), (2, .int 1)] []
  refine jv_aload_n C dX9_copyCity_31 0 rfl ?_
  refine jv_getf (fk := 19) C (by decide) ((hf12 58 (by decide)).trans ((hf7 58 (by decide)).trans ((hf2 58 (by decide)).trans h58))) rfl in_X9_copyCity_9 (by decide) (by decide +kernel) rfl rfl dX9_copyCity_32 ?_
  refine jv_bipush (v := 6) C dX9_copyCity_35 (by decide) ?_
  refine jv_iload_n C dX9_copyCity_37 1 rfl ?_
  refine jv_iload_n C dX9_copyCity_38 2 rfl ?_
  refine jv_callS (na := 4) (As := [.ref 67, .int 6, .int 0, .int 1]) (st := []) C (c_X9_copyRow l D kp ((hf12 67 (by decide)).trans ((hf7 67 (by decide)).trans ((hf2 67 (by decide)).trans h67))) 6 0 1 (by decide) (by decide) (by decide) (by decide) (by decide)) gX9_copyCity_X9_copyRow rfl rfl rfl q_X9_copyRow rfl ⟨by decide, by decide⟩ ⟨by decide, by decide⟩ (fun _ h => absurd h List.not_mem_nil) (Nat.le_of_ble_eq_true rfl) rfl dX9_copyCity_39 (fun r n1 E_16 hp _ => ?_)
  obtain ⟨rfl, rfl, hf17, g_19, e18, hz20⟩ := hp
  show jv_V l D vwCl kp G 0 0 n E_16 42 [(0, .ref 58), (1, .int 0), (2, .int 1)] []
  refine jv_aload_n C dX9_copyCity_42 0 rfl ?_
  refine jv_getf (fk := 20) C (by decide) ((hf17 58 (by decide)).trans ((hf12 58 (by decide)).trans ((hf7 58 (by decide)).trans ((hf2 58 (by decide)).trans h58)))) rfl in_X9_copyCity_9 (by decide) (by decide +kernel) rfl rfl dX9_copyCity_43 ?_
  refine jv_bipush (v := 48) C dX9_copyCity_46 (by decide) ?_
  refine jv_iload_n C dX9_copyCity_48 1 rfl ?_
  refine jv_iload_n C dX9_copyCity_49 2 rfl ?_
  refine jv_callS (na := 4) (As := [.ref 68, .int 48, .int 0, .int 1]) (st := []) C (c_X9_copyRow l D kp ((hf17 68 (by decide)).trans ((hf12 68 (by decide)).trans ((hf7 68 (by decide)).trans ((hf2 68 (by decide)).trans h68)))) 48 0 1 (by decide) (by decide) (by decide) (by decide) (by decide)) gX9_copyCity_X9_copyRow rfl rfl rfl q_X9_copyRow rfl ⟨by decide, by decide⟩ ⟨by decide, by decide⟩ (fun _ h => absurd h List.not_mem_nil) (Nat.le_of_ble_eq_true rfl) rfl dX9_copyCity_50 (fun r n1 E_21 hp _ => ?_)
  obtain ⟨rfl, rfl, hf22, g_24, e23, hz25⟩ := hp
  show jv_V l D vwCl kp G 0 0 n E_21 53 [(0, .ref 58), (1, .int 0), (2, .int 1)] []
  refine jv_aload_n C dX9_copyCity_53 0 rfl ?_
  refine jv_getf (fk := 21) C (by decide) ((hf22 58 (by decide)).trans ((hf17 58 (by decide)).trans ((hf12 58 (by decide)).trans ((hf7 58 (by decide)).trans ((hf2 58 (by decide)).trans h58))))) rfl in_X9_copyCity_9 (by decide) (by decide +kernel) rfl rfl dX9_copyCity_54 ?_
  refine jv_bipush (v := 48) C dX9_copyCity_57 (by decide) ?_
  refine jv_iload_n C dX9_copyCity_59 1 rfl ?_
  refine jv_iload_n C dX9_copyCity_60 2 rfl ?_
  refine jv_callS (na := 4) (As := [.ref 69, .int 48, .int 0, .int 1]) (st := []) C (c_X9_copyRow l D kp ((hf22 69 (by decide)).trans ((hf17 69 (by decide)).trans ((hf12 69 (by decide)).trans ((hf7 69 (by decide)).trans ((hf2 69 (by decide)).trans h69))))) 48 0 1 (by decide) (by decide) (by decide) (by decide) (by decide)) gX9_copyCity_X9_copyRow rfl rfl rfl q_X9_copyRow rfl ⟨by decide, by decide⟩ ⟨by decide, by decide⟩ (fun _ h => absurd h List.not_mem_nil) (Nat.le_of_ble_eq_true rfl) rfl dX9_copyCity_61 (fun r n1 E_26 hp _ => ?_)
  obtain ⟨rfl, rfl, hf27, g_29, e28, hz30⟩ := hp
  show jv_V l D vwCl kp G 0 0 n E_26 64 [(0, .ref 58), (1, .int 0), (2, .int 1)] []
  refine jv_aload_n C dX9_copyCity_64 0 rfl ?_
  refine jv_getf (fk := 22) C (by decide) ((hf27 58 (by decide)).trans ((hf22 58 (by decide)).trans ((hf17 58 (by decide)).trans ((hf12 58 (by decide)).trans ((hf7 58 (by decide)).trans ((hf2 58 (by decide)).trans h58)))))) rfl in_X9_copyCity_9 (by decide) (by decide +kernel) rfl rfl dX9_copyCity_65 ?_
  refine jv_iconst (v := 2) C dX9_copyCity_68 (by decide) ?_
  refine jv_iload_n C dX9_copyCity_69 1 rfl ?_
  refine jv_iload_n C dX9_copyCity_70 2 rfl ?_
  refine jv_callS (na := 4) (As := [.ref 70, .int 2, .int 0, .int 1]) (st := []) C (c_X9_copyRow l D kp ((hf27 70 (by decide)).trans ((hf22 70 (by decide)).trans ((hf17 70 (by decide)).trans ((hf12 70 (by decide)).trans ((hf7 70 (by decide)).trans ((hf2 70 (by decide)).trans h70)))))) 2 0 1 (by decide) (by decide) (by decide) (by decide) (by decide)) gX9_copyCity_X9_copyRow rfl rfl rfl q_X9_copyRow rfl ⟨by decide, by decide⟩ ⟨by decide, by decide⟩ (fun _ h => absurd h List.not_mem_nil) (Nat.le_of_ble_eq_true rfl) rfl dX9_copyCity_71 (fun r n1 E_31 hp _ => ?_)
  obtain ⟨rfl, rfl, hf32, g_34, e33, hz35⟩ := hp
  show jv_V l D vwCl kp G 0 0 n E_31 74 [(0, .ref 58), (1, .int 0), (2, .int 1)] []
  refine jv_aload_n C dX9_copyCity_74 0 rfl ?_
  refine jv_getf (fk := 23) C (by decide) ((hf32 58 (by decide)).trans ((hf27 58 (by decide)).trans ((hf22 58 (by decide)).trans ((hf17 58 (by decide)).trans ((hf12 58 (by decide)).trans ((hf7 58 (by decide)).trans ((hf2 58 (by decide)).trans h58))))))) rfl in_X9_copyCity_9 (by decide) (by decide +kernel) rfl rfl dX9_copyCity_75 ?_
  refine jv_bipush (v := 12) C dX9_copyCity_78 (by decide) ?_
  refine jv_iload_n C dX9_copyCity_80 1 rfl ?_
  refine jv_iload_n C dX9_copyCity_81 2 rfl ?_
  refine jv_callS (na := 4) (As := [.ref 71, .int 12, .int 0, .int 1]) (st := []) C (c_X9_copyRow l D kp ((hf32 71 (by decide)).trans ((hf27 71 (by decide)).trans ((hf22 71 (by decide)).trans ((hf17 71 (by decide)).trans ((hf12 71 (by decide)).trans ((hf7 71 (by decide)).trans ((hf2 71 (by decide)).trans h71))))))) 12 0 1 (by decide) (by decide) (by decide) (by decide) (by decide)) gX9_copyCity_X9_copyRow rfl rfl rfl q_X9_copyRow rfl ⟨by decide, by decide⟩ ⟨by decide, by decide⟩ (fun _ h => absurd h List.not_mem_nil) (Nat.le_of_ble_eq_true rfl) rfl dX9_copyCity_82 (fun r n1 E_36 hp _ => ?_)
  obtain ⟨rfl, rfl, hf37, g_39, e38, hz40⟩ := hp
  show jv_V l D vwCl kp G 0 0 n E_36 85 [(0, .ref 58), (1, .int 0), (2, .int 1)] []
  refine jv_aload_n C dX9_copyCity_85 0 rfl ?_
  refine jv_getf (fk := 24) C (by decide) ((hf37 58 (by decide)).trans ((hf32 58 (by decide)).trans ((hf27 58 (by decide)).trans ((hf22 58 (by decide)).trans ((hf17 58 (by decide)).trans ((hf12 58 (by decide)).trans ((hf7 58 (by decide)).trans ((hf2 58 (by decide)).trans h58)))))))) rfl in_X9_copyCity_9 (by decide) (by decide +kernel) rfl rfl dX9_copyCity_86 ?_
  refine jv_bipush (v := 24) C dX9_copyCity_89 (by decide) ?_
  refine jv_iload_n C dX9_copyCity_91 1 rfl ?_
  refine jv_iload_n C dX9_copyCity_92 2 rfl ?_
  refine jv_callS (na := 4) (As := [.ref 72, .int 24, .int 0, .int 1]) (st := []) C (c_X9_copyRow l D kp ((hf37 72 (by decide)).trans ((hf32 72 (by decide)).trans ((hf27 72 (by decide)).trans ((hf22 72 (by decide)).trans ((hf17 72 (by decide)).trans ((hf12 72 (by decide)).trans ((hf7 72 (by decide)).trans ((hf2 72 (by decide)).trans h72)))))))) 24 0 1 (by decide) (by decide) (by decide) (by decide) (by decide)) gX9_copyCity_X9_copyRow rfl rfl rfl q_X9_copyRow rfl ⟨by decide, by decide⟩ ⟨by decide, by decide⟩ (fun _ h => absurd h List.not_mem_nil) (Nat.le_of_ble_eq_true rfl) rfl dX9_copyCity_93 (fun r n1 E_41 hp _ => ?_)
  obtain ⟨rfl, rfl, hf42, g_44, e43, hz45⟩ := hp
  show jv_V l D vwCl kp G 0 0 n E_41 96 [(0, .ref 58), (1, .int 0), (2, .int 1)] []
  refine jv_aload_n C dX9_copyCity_96 0 rfl ?_
  refine jv_getf (fk := 25) C (by decide) ((hf42 58 (by decide)).trans ((hf37 58 (by decide)).trans ((hf32 58 (by decide)).trans ((hf27 58 (by decide)).trans ((hf22 58 (by decide)).trans ((hf17 58 (by decide)).trans ((hf12 58 (by decide)).trans ((hf7 58 (by decide)).trans ((hf2 58 (by decide)).trans h58))))))))) rfl in_X9_copyCity_9 (by decide) (by decide +kernel) rfl rfl dX9_copyCity_97 ?_
  refine jv_iconst (v := 2) C dX9_copyCity_100 (by decide) ?_
  refine jv_iload_n C dX9_copyCity_101 1 rfl ?_
  refine jv_iload_n C dX9_copyCity_102 2 rfl ?_
  refine jv_callS (na := 4) (As := [.ref 73, .int 2, .int 0, .int 1]) (st := []) C (c_X9_copyRow l D kp ((hf42 73 (by decide)).trans ((hf37 73 (by decide)).trans ((hf32 73 (by decide)).trans ((hf27 73 (by decide)).trans ((hf22 73 (by decide)).trans ((hf17 73 (by decide)).trans ((hf12 73 (by decide)).trans ((hf7 73 (by decide)).trans ((hf2 73 (by decide)).trans h73))))))))) 2 0 1 (by decide) (by decide) (by decide) (by decide) (by decide)) gX9_copyCity_X9_copyRow rfl rfl rfl q_X9_copyRow rfl ⟨by decide, by decide⟩ ⟨by decide, by decide⟩ (fun _ h => absurd h List.not_mem_nil) (Nat.le_of_ble_eq_true rfl) rfl dX9_copyCity_103 (fun r n1 E_46 hp _ => ?_)
  obtain ⟨rfl, rfl, hf47, g_49, e48, hz50⟩ := hp
  show jv_V l D vwCl kp G 0 0 n E_46 106 [(0, .ref 58), (1, .int 0), (2, .int 1)] []
  exact jv_vret C B ⟨rfl, rfl, fun j g0 g1 g2 g3 g4 g5 g6 g7 g8 g9 => ((hf47 j g9).trans ((hf42 j g8).trans ((hf37 j g7).trans ((hf32 j g6).trans ((hf27 j g5).trans ((hf22 j g4).trans ((hf17 j g3).trans ((hf12 j g2).trans ((hf7 j g1).trans (hf2 j g0)))))))))), ⟨_, ((hf47 64 (by decide)).trans ((hf42 64 (by decide)).trans ((hf37 64 (by decide)).trans ((hf32 64 (by decide)).trans ((hf27 64 (by decide)).trans ((hf22 64 (by decide)).trans ((hf17 64 (by decide)).trans ((hf12 64 (by decide)).trans ((hf7 64 (by decide)).trans e3)))))))))⟩, ⟨_, ((hf47 65 (by decide)).trans ((hf42 65 (by decide)).trans ((hf37 65 (by decide)).trans ((hf32 65 (by decide)).trans ((hf27 65 (by decide)).trans ((hf22 65 (by decide)).trans ((hf17 65 (by decide)).trans ((hf12 65 (by decide)).trans e8))))))))⟩, ⟨_, ((hf47 66 (by decide)).trans ((hf42 66 (by decide)).trans ((hf37 66 (by decide)).trans ((hf32 66 (by decide)).trans ((hf27 66 (by decide)).trans ((hf22 66 (by decide)).trans ((hf17 66 (by decide)).trans e13)))))))⟩, ⟨_, ((hf47 67 (by decide)).trans ((hf42 67 (by decide)).trans ((hf37 67 (by decide)).trans ((hf32 67 (by decide)).trans ((hf27 67 (by decide)).trans ((hf22 67 (by decide)).trans e18))))))⟩, ⟨_, ((hf47 68 (by decide)).trans ((hf42 68 (by decide)).trans ((hf37 68 (by decide)).trans ((hf32 68 (by decide)).trans ((hf27 68 (by decide)).trans e23)))))⟩, ⟨_, ((hf47 69 (by decide)).trans ((hf42 69 (by decide)).trans ((hf37 69 (by decide)).trans ((hf32 69 (by decide)).trans e28))))⟩, ⟨_, ((hf47 70 (by decide)).trans ((hf42 70 (by decide)).trans ((hf37 70 (by decide)).trans e33)))⟩, ⟨_, ((hf47 71 (by decide)).trans ((hf42 71 (by decide)).trans e38))⟩, ⟨_, ((hf47 72 (by decide)).trans e43)⟩, ⟨_, e48⟩⟩ ⟨by decide, by decide⟩ dX9_copyCity_106
set_option maxRecDepth 100000 in
set_option maxHeartbeats 8000000 in
theorem c_X9_copyCity_0_2 (l : Launch) (D : va_G) (kp : Nat → ClassId) {n : Nat} {E : Nat → jv_E} (h58 : E 58 = cx58) (h64 : E 64 = cx64) (h65 : E 65 = cx65) (h66 : E 66 = cx66) (h67 : E 67 = cx67) (h68 : E 68 = cx68) (h69 : E 69 = cx69) (h70 : E 70 = cx70) (h71 : E 71 = cx71) (h72 : E 72 = cx72) (h73 : E 73 = cx73)  : jv_M l D vwCl kp yX9_copyCity wsX9_copyCity rm2 [] [.ref 58, .int 0, .int 2] n E 0 0 (fun r n1 E1 => none = r ∧ n = n1 ∧ (∀ j, j ≠ 64 → j ≠ 65 → j ≠ 66 → j ≠ 67 → j ≠ 68 → j ≠ 69 → j ≠ 70 → j ≠ 71 → j ≠ 72 → j ≠ 73 → E1 j = E j) ∧ (∃ g, E1 64 = .inl (0, 6, .inl g)) ∧ (∃ g, E1 65 = .inl (0, 6, .inl g)) ∧ (∃ g, E1 66 = .inl (0, 36, .inl g)) ∧ (∃ g, E1 67 = .inl (0, 36, .inl g)) ∧ (∃ g, E1 68 = .inl (0, 288, .inl g)) ∧ (∃ g, E1 69 = .inl (0, 288, .inl g)) ∧ (∃ g, E1 70 = .inl (0, 12, .inl g)) ∧ (∃ g, E1 71 = .inl (0, 72, .inl g)) ∧ (∃ g, E1 72 = .inl (0, 144, .inl g)) ∧ (∃ g, E1 73 = .inl (0, 12, .inl g))) := by
  refine jv_of (by decide) rfl (Nat.le_of_ble_eq_true rfl) (fun G C B hI hnl => ?_)
  show jv_V l D vwCl kp G 0 0 n E 0 [(0, .ref 58), (1, .int 0), (2, .int 2)] []
  refine jv_aload_n C dX9_copyCity_0 0 rfl ?_
  refine jv_getf (fk := 16) C (by decide) h58 rfl in_X9_copyCity_9 (by decide) (by decide +kernel) rfl rfl dX9_copyCity_1 ?_
  refine jv_iconst (v := 1) C dX9_copyCity_4 (by decide) ?_
  refine jv_iload_n C dX9_copyCity_5 1 rfl ?_
  refine jv_iload_n C dX9_copyCity_6 2 rfl ?_
  refine jv_callS (na := 4) (As := [.ref 64, .int 1, .int 0, .int 2]) (st := []) C (c_X9_copyRow l D kp h64 1 0 2 (by decide) (by decide) (by decide) (by decide) (by decide)) gX9_copyCity_X9_copyRow rfl rfl rfl q_X9_copyRow rfl ⟨by decide, by decide⟩ ⟨by decide, by decide⟩ (fun _ h => absurd h List.not_mem_nil) (Nat.le_of_ble_eq_true rfl) rfl dX9_copyCity_7 (fun r n1 E_1 hp _ => ?_)
  obtain ⟨rfl, rfl, hf2, g_4, e3, hz5⟩ := hp
  show jv_V l D vwCl kp G 0 0 n E_1 10 [(0, .ref 58), (1, .int 0), (2, .int 2)] []
  refine jv_aload_n C dX9_copyCity_10 0 rfl ?_
  refine jv_getf (fk := 17) C (by decide) ((hf2 58 (by decide)).trans h58) rfl in_X9_copyCity_9 (by decide) (by decide +kernel) rfl rfl dX9_copyCity_11 ?_
  refine jv_iconst (v := 1) C dX9_copyCity_14 (by decide) ?_
  refine jv_iload_n C dX9_copyCity_15 1 rfl ?_
  refine jv_iload_n C dX9_copyCity_16 2 rfl ?_
  refine jv_callS (na := 4) (As := [.ref 65, .int 1, .int 0, .int 2]) (st := []) C (c_X9_copyRow l D kp ((hf2 65 (by decide)).trans h65) 1 0 2 (by decide) (by decide) (by decide) (by decide) (by decide)) gX9_copyCity_X9_copyRow rfl rfl rfl q_X9_copyRow rfl ⟨by decide, by decide⟩ ⟨by decide, by decide⟩ (fun _ h => absurd h List.not_mem_nil) (Nat.le_of_ble_eq_true rfl) rfl dX9_copyCity_17 (fun r n1 E_6 hp _ => ?_)
  obtain ⟨rfl, rfl, hf7, g_9, e8, hz10⟩ := hp
  show jv_V l D vwCl kp G 0 0 n E_6 20 [(0, .ref 58), (1, .int 0), (2, .int 2)] []
  refine jv_aload_n C dX9_copyCity_20 0 rfl ?_
  refine jv_getf (fk := 18) C (by decide) ((hf7 58 (by decide)).trans ((hf2 58 (by decide)).trans h58)) rfl in_X9_copyCity_9 (by decide) (by decide +kernel) rfl rfl dX9_copyCity_21 ?_
  refine jv_bipush (v := 6) C dX9_copyCity_24 (by decide) ?_
  refine jv_iload_n C dX9_copyCity_26 1 rfl ?_
  refine jv_iload_n C dX9_copyCity_27 2 rfl ?_
  refine jv_callS (na := 4) (As := [.ref 66, .int 6, .int 0, .int 2]) (st := []) C (c_X9_copyRow l D kp ((hf7 66 (by decide)).trans ((hf2 66 (by decide)).trans h66)) 6 0 2 (by decide) (by decide) (by decide) (by decide) (by decide)) gX9_copyCity_X9_copyRow rfl rfl rfl q_X9_copyRow rfl ⟨by decide, by decide⟩ ⟨by decide, by decide⟩ (fun _ h => absurd h List.not_mem_nil) (Nat.le_of_ble_eq_true rfl) rfl dX9_copyCity_28 (fun r n1 E_11 hp _ => ?_)
  obtain ⟨rfl, rfl, hf12, g_14, e13, hz15⟩ := hp
  show jv_V l D vwCl kp G 0 0 n E_11 31 [(0, .ref 58), (1, .int 0), (2, .int 2)] []
  refine jv_aload_n C dX9_copyCity_31 0 rfl ?_
  refine jv_getf (fk := 19) C (by decide) ((hf12 58 (by decide)).trans ((hf7 58 (by decide)).trans ((hf2 58 (by decide)).trans h58))) rfl in_X9_copyCity_9 (by decide) (by decide +kernel) rfl rfl dX9_copyCity_32 ?_
  refine jv_bipush (v := 6) C dX9_copyCity_35 (by decide) ?_
  refine jv_iload_n C dX9_copyCity_37 1 rfl ?_
  refine jv_iload_n C dX9_copyCity_38 2 rfl ?_
  refine jv_callS (na := 4) (As := [.ref 67, .int 6, .int 0, .int 2]) (st := []) C (c_X9_copyRow l D kp ((hf12 67 (by decide)).trans ((hf7 67 (by decide)).trans ((hf2 67 (by decide)).trans h67))) 6 0 2 (by decide) (by decide) (by decide) (by decide) (by decide)) gX9_copyCity_X9_copyRow rfl rfl rfl q_X9_copyRow rfl ⟨by decide, by decide⟩ ⟨by decide, by decide⟩ (fun _ h => absurd h List.not_mem_nil) (Nat.le_of_ble_eq_true rfl) rfl dX9_copyCity_39 (fun r n1 E_16 hp _ => ?_)
  obtain ⟨rfl, rfl, hf17, g_19, e18, hz20⟩ := hp
  show jv_V l D vwCl kp G 0 0 n E_16 42 [(0, .ref 58), (1, .int 0), (2, .int 2)] []
  refine jv_aload_n C dX9_copyCity_42 0 rfl ?_
  refine jv_getf (fk := 20) C (by decide) ((hf17 58 (by decide)).trans ((hf12 58 (by decide)).trans ((hf7 58 (by decide)).trans ((hf2 58 (by decide)).trans h58)))) rfl in_X9_copyCity_9 (by decide) (by decide +kernel) rfl rfl dX9_copyCity_43 ?_
  refine jv_bipush (v := 48) C dX9_copyCity_46 (by decide) ?_
  refine jv_iload_n C dX9_copyCity_48 1 rfl ?_
  refine jv_iload_n C dX9_copyCity_49 2 rfl ?_
  refine jv_callS (na := 4) (As := [.ref 68, .int 48, .int 0, .int 2]) (st := []) C (c_X9_copyRow l D kp ((hf17 68 (by decide)).trans ((hf12 68 (by decide)).trans ((hf7 68 (by decide)).trans ((hf2 68 (by decide)).trans h68)))) 48 0 2 (by decide) (by decide) (by decide) (by decide) (by decide)) gX9_copyCity_X9_copyRow rfl rfl rfl q_X9_copyRow rfl ⟨by decide, by decide⟩ ⟨by decide, by decide⟩ (fun _ h => absurd h List.not_mem_nil) (Nat.le_of_ble_eq_true rfl) rfl dX9_copyCity_50 (fun r n1 E_21 hp _ => ?_)
  obtain ⟨rfl, rfl, hf22, g_24, e23, hz25⟩ := hp
  show jv_V l D vwCl kp G 0 0 n E_21 53 [(0, .ref 58), (1, .int 0), (2, .int 2)] []
  refine jv_aload_n C dX9_copyCity_53 0 rfl ?_
  refine jv_getf (fk := 21) C (by decide) ((hf22 58 (by decide)).trans ((hf17 58 (by decide)).trans ((hf12 58 (by decide)).trans ((hf7 58 (by decide)).trans ((hf2 58 (by decide)).trans h58))))) rfl in_X9_copyCity_9 (by decide) (by decide +kernel) rfl rfl dX9_copyCity_54 ?_
  refine jv_bipush (v := 48) C dX9_copyCity_57 (by decide) ?_
  refine jv_iload_n C dX9_copyCity_59 1 rfl ?_
  refine jv_iload_n C dX9_copyCity_60 2 rfl ?_
  refine jv_callS (na := 4) (As := [.ref 69, .int 48, .int 0, .int 2]) (st := []) C (c_X9_copyRow l D kp ((hf22 69 (by decide)).trans ((hf17 69 (by decide)).trans ((hf12 69 (by decide)).trans ((hf7 69 (by decide)).trans ((hf2 69 (by decide)).trans h69))))) 48 0 2 (by decide) (by decide) (by decide) (by decide) (by decide)) gX9_copyCity_X9_copyRow rfl rfl rfl q_X9_copyRow rfl ⟨by decide, by decide⟩ ⟨by decide, by decide⟩ (fun _ h => absurd h List.not_mem_nil) (Nat.le_of_ble_eq_true rfl) rfl dX9_copyCity_61 (fun r n1 E_26 hp _ => ?_)
  obtain ⟨rfl, rfl, hf27, g_29, e28, hz30⟩ := hp
  show jv_V l D vwCl kp G 0 0 n E_26 64 [(0, .ref 58), (1, .int 0), (2, .int 2)] []
  refine jv_aload_n C dX9_copyCity_64 0 rfl ?_
  refine jv_getf (fk := 22) C (by decide) ((hf27 58 (by decide)).trans ((hf22 58 (by decide)).trans ((hf17 58 (by decide)).trans ((hf12 58 (by decide)).trans ((hf7 58 (by decide)).trans ((hf2 58 (by decide)).trans h58)))))) rfl in_X9_copyCity_9 (by decide) (by decide +kernel) rfl rfl dX9_copyCity_65 ?_
  refine jv_iconst (v := 2) C dX9_copyCity_68 (by decide) ?_
  refine jv_iload_n C dX9_copyCity_69 1 rfl ?_
  refine jv_iload_n C dX9_copyCity_70 2 rfl ?_
  refine jv_callS (na := 4) (As := [.ref 70, .int 2, .int 0, .int 2]) (st := []) C (c_X9_copyRow l D kp ((hf27 70 (by decide)).trans ((hf22 70 (by decide)).trans ((hf17 70 (by decide)).trans ((hf12 70 (by decide)).trans ((hf7 70 (by decide)).trans ((hf2 70 (by decide)).trans h70)))))) 2 0 2 (by decide) (by decide) (by decide) (by decide) (by decide)) gX9_copyCity_X9_copyRow rfl rfl rfl q_X9_copyRow rfl ⟨by decide, by decide⟩ ⟨by decide, by decide⟩ (fun _ h => absurd h List.not_mem_nil) (Nat.le_of_ble_eq_true rfl) rfl dX9_copyCity_71 (fun r n1 E_31 hp _ => ?_)
  obtain ⟨rfl, rfl, hf32, g_34, e33, hz35⟩ := hp
  show jv_V l D vwCl kp G 0 0 n E_31 74 [(0, .ref 58), (1, .int 0), (2, .int 2)] []
  refine jv_aload_n C dX9_copyCity_74 0 rfl ?_
  refine jv_getf (fk := 23) C (by decide) ((hf32 58 (by decide)).trans ((hf27 58 (by decide)).trans ((hf22 58 (by decide)).trans ((hf17 58 (by decide)).trans ((hf12 58 (by decide)).trans ((hf7 58 (by decide)).trans ((hf2 58 (by decide)).trans h58))))))) rfl in_X9_copyCity_9 (by decide) (by decide +kernel) rfl rfl dX9_copyCity_75 ?_
  refine jv_bipush (v := 12) C dX9_copyCity_78 (by decide) ?_
  refine jv_iload_n C dX9_copyCity_80 1 rfl ?_
  refine jv_iload_n C dX9_copyCity_81 2 rfl ?_
  refine jv_callS (na := 4) (As := [.ref 71, .int 12, .int 0, .int 2]) (st := []) C (c_X9_copyRow l D kp ((hf32 71 (by decide)).trans ((hf27 71 (by decide)).trans ((hf22 71 (by decide)).trans ((hf17 71 (by decide)).trans ((hf12 71 (by decide)).trans ((hf7 71 (by decide)).trans ((hf2 71 (by decide)).trans h71))))))) 12 0 2 (by decide) (by decide) (by decide) (by decide) (by decide)) gX9_copyCity_X9_copyRow rfl rfl rfl q_X9_copyRow rfl ⟨by decide, by decide⟩ ⟨by decide, by decide⟩ (fun _ h => absurd h List.not_mem_nil) (Nat.le_of_ble_eq_true rfl) rfl dX9_copyCity_82 (fun r n1 E_36 hp _ => ?_)
  obtain ⟨rfl, rfl, hf37, g_39, e38, hz40⟩ := hp
  show jv_V l D vwCl kp G 0 0 n E_36 85 [(0, .ref 58), (1, .int 0), (2, .int 2)] []
  refine jv_aload_n C dX9_copyCity_85 0 rfl ?_
  refine jv_getf (fk := 24) C (by decide) ((hf37 58 (by decide)).trans ((hf32 58 (by decide)).trans ((hf27 58 (by decide)).trans ((hf22 58 (by decide)).trans ((hf17 58 (by decide)).trans ((hf12 58 (by decide)).trans ((hf7 58 (by decide)).trans ((hf2 58 (by decide)).trans h58)))))))) rfl in_X9_copyCity_9 (by decide) (by decide +kernel) rfl rfl dX9_copyCity_86 ?_
  refine jv_bipush (v := 24) C dX9_copyCity_89 (by decide) ?_
  refine jv_iload_n C dX9_copyCity_91 1 rfl ?_
  refine jv_iload_n C dX9_copyCity_92 2 rfl ?_
  refine jv_callS (na := 4) (As := [.ref 72, .int 24, .int 0, .int 2]) (st := []) C (c_X9_copyRow l D kp ((hf37 72 (by decide)).trans ((hf32 72 (by decide)).trans ((hf27 72 (by decide)).trans ((hf22 72 (by decide)).trans ((hf17 72 (by decide)).trans ((hf12 72 (by decide)).trans ((hf7 72 (by decide)).trans ((hf2 72 (by decide)).trans h72)))))))) 24 0 2 (by decide) (by decide) (by decide) (by decide) (by decide)) gX9_copyCity_X9_copyRow rfl rfl rfl q_X9_copyRow rfl ⟨by decide, by decide⟩ ⟨by decide, by decide⟩ (fun _ h => absurd h List.not_mem_nil) (Nat.le_of_ble_eq_true rfl) rfl dX9_copyCity_93 (fun r n1 E_41 hp _ => ?_)
  obtain ⟨rfl, rfl, hf42, g_44, e43, hz45⟩ := hp
  show jv_V l D vwCl kp G 0 0 n E_41 96 [(0, .ref 58), (1, .int 0), (2, .int 2)] []
  refine jv_aload_n C dX9_copyCity_96 0 rfl ?_
  refine jv_getf (fk := 25) C (by decide) ((hf42 58 (by decide)).trans ((hf37 58 (by decide)).trans ((hf32 58 (by decide)).trans ((hf27 58 (by decide)).trans ((hf22 58 (by decide)).trans ((hf17 58 (by decide)).trans ((hf12 58 (by decide)).trans ((hf7 58 (by decide)).trans ((hf2 58 (by decide)).trans h58))))))))) rfl in_X9_copyCity_9 (by decide) (by decide +kernel) rfl rfl dX9_copyCity_97 ?_
  refine jv_iconst (v := 2) C dX9_copyCity_100 (by decide) ?_
  refine jv_iload_n C dX9_copyCity_101 1 rfl ?_
  refine jv_iload_n C dX9_copyCity_102 2 rfl ?_
  refine jv_callS (na := 4) (As := [.ref 73, .int 2, .int 0, .int 2]) (st := []) C (c_X9_copyRow l D kp ((hf42 73 (by decide)).trans ((hf37 73 (by decide)).trans ((hf32 73 (by decide)).trans ((hf27 73 (by decide)).trans ((hf22 73 (by decide)).trans ((hf17 73 (by decide)).trans ((hf12 73 (by decide)).trans ((hf7 73 (by decide)).trans ((hf2 73 (by decide)).trans h73))))))))) 2 0 2 (by decide) (by decide) (by decide) (by decide) (by decide)) gX9_copyCity_X9_copyRow rfl rfl rfl q_X9_copyRow rfl ⟨by decide, by decide⟩ ⟨by decide, by decide⟩ (fun _ h => absurd h List.not_mem_nil) (Nat.le_of_ble_eq_true rfl) rfl dX9_copyCity_103 (fun r n1 E_46 hp _ => ?_)
  obtain ⟨rfl, rfl, hf47, g_49, e48, hz50⟩ := hp
  show jv_V l D vwCl kp G 0 0 n E_46 106 [(0, .ref 58), (1, .int 0), (2, .int 2)] []
  exact jv_vret C B ⟨rfl, rfl, fun j g0 g1 g2 g3 g4 g5 g6 g7 g8 g9 => ((hf47 j g9).trans ((hf42 j g8).trans ((hf37 j g7).trans ((hf32 j g6).trans ((hf27 j g5).trans ((hf22 j g4).trans ((hf17 j g3).trans ((hf12 j g2).trans ((hf7 j g1).trans (hf2 j g0)))))))))), ⟨_, ((hf47 64 (by decide)).trans ((hf42 64 (by decide)).trans ((hf37 64 (by decide)).trans ((hf32 64 (by decide)).trans ((hf27 64 (by decide)).trans ((hf22 64 (by decide)).trans ((hf17 64 (by decide)).trans ((hf12 64 (by decide)).trans ((hf7 64 (by decide)).trans e3)))))))))⟩, ⟨_, ((hf47 65 (by decide)).trans ((hf42 65 (by decide)).trans ((hf37 65 (by decide)).trans ((hf32 65 (by decide)).trans ((hf27 65 (by decide)).trans ((hf22 65 (by decide)).trans ((hf17 65 (by decide)).trans ((hf12 65 (by decide)).trans e8))))))))⟩, ⟨_, ((hf47 66 (by decide)).trans ((hf42 66 (by decide)).trans ((hf37 66 (by decide)).trans ((hf32 66 (by decide)).trans ((hf27 66 (by decide)).trans ((hf22 66 (by decide)).trans ((hf17 66 (by decide)).trans e13)))))))⟩, ⟨_, ((hf47 67 (by decide)).trans ((hf42 67 (by decide)).trans ((hf37 67 (by decide)).trans ((hf32 67 (by decide)).trans ((hf27 67 (by decide)).trans ((hf22 67 (by decide)).trans e18))))))⟩, ⟨_, ((hf47 68 (by decide)).trans ((hf42 68 (by decide)).trans ((hf37 68 (by decide)).trans ((hf32 68 (by decide)).trans ((hf27 68 (by decide)).trans e23)))))⟩, ⟨_, ((hf47 69 (by decide)).trans ((hf42 69 (by decide)).trans ((hf37 69 (by decide)).trans ((hf32 69 (by decide)).trans e28))))⟩, ⟨_, ((hf47 70 (by decide)).trans ((hf42 70 (by decide)).trans ((hf37 70 (by decide)).trans e33)))⟩, ⟨_, ((hf47 71 (by decide)).trans ((hf42 71 (by decide)).trans e38))⟩, ⟨_, ((hf47 72 (by decide)).trans e43)⟩, ⟨_, e48⟩⟩ ⟨by decide, by decide⟩ dX9_copyCity_106
set_option maxRecDepth 100000 in
set_option maxHeartbeats 8000000 in
theorem c_X9_copyCity_0_3 (l : Launch) (D : va_G) (kp : Nat → ClassId) {n : Nat} {E : Nat → jv_E} (h58 : E 58 = cx58) (h64 : E 64 = cx64) (h65 : E 65 = cx65) (h66 : E 66 = cx66) (h67 : E 67 = cx67) (h68 : E 68 = cx68) (h69 : E 69 = cx69) (h70 : E 70 = cx70) (h71 : E 71 = cx71) (h72 : E 72 = cx72) (h73 : E 73 = cx73)  : jv_M l D vwCl kp yX9_copyCity wsX9_copyCity rm2 [] [.ref 58, .int 0, .int 3] n E 0 0 (fun r n1 E1 => none = r ∧ n = n1 ∧ (∀ j, j ≠ 64 → j ≠ 65 → j ≠ 66 → j ≠ 67 → j ≠ 68 → j ≠ 69 → j ≠ 70 → j ≠ 71 → j ≠ 72 → j ≠ 73 → E1 j = E j) ∧ (∃ g, E1 64 = .inl (0, 6, .inl g)) ∧ (∃ g, E1 65 = .inl (0, 6, .inl g)) ∧ (∃ g, E1 66 = .inl (0, 36, .inl g)) ∧ (∃ g, E1 67 = .inl (0, 36, .inl g)) ∧ (∃ g, E1 68 = .inl (0, 288, .inl g)) ∧ (∃ g, E1 69 = .inl (0, 288, .inl g)) ∧ (∃ g, E1 70 = .inl (0, 12, .inl g)) ∧ (∃ g, E1 71 = .inl (0, 72, .inl g)) ∧ (∃ g, E1 72 = .inl (0, 144, .inl g)) ∧ (∃ g, E1 73 = .inl (0, 12, .inl g))) := by
  refine jv_of (by decide) rfl (Nat.le_of_ble_eq_true rfl) (fun G C B hI hnl => ?_)
  show jv_V l D vwCl kp G 0 0 n E 0 [(0, .ref 58), (1, .int 0), (2, .int 3)] []
  refine jv_aload_n C dX9_copyCity_0 0 rfl ?_
  refine jv_getf (fk := 16) C (by decide) h58 rfl in_X9_copyCity_9 (by decide) (by decide +kernel) rfl rfl dX9_copyCity_1 ?_
  refine jv_iconst (v := 1) C dX9_copyCity_4 (by decide) ?_
  refine jv_iload_n C dX9_copyCity_5 1 rfl ?_
  refine jv_iload_n C dX9_copyCity_6 2 rfl ?_
  refine jv_callS (na := 4) (As := [.ref 64, .int 1, .int 0, .int 3]) (st := []) C (c_X9_copyRow l D kp h64 1 0 3 (by decide) (by decide) (by decide) (by decide) (by decide)) gX9_copyCity_X9_copyRow rfl rfl rfl q_X9_copyRow rfl ⟨by decide, by decide⟩ ⟨by decide, by decide⟩ (fun _ h => absurd h List.not_mem_nil) (Nat.le_of_ble_eq_true rfl) rfl dX9_copyCity_7 (fun r n1 E_1 hp _ => ?_)
  obtain ⟨rfl, rfl, hf2, g_4, e3, hz5⟩ := hp
  show jv_V l D vwCl kp G 0 0 n E_1 10 [(0, .ref 58), (1, .int 0), (2, .int 3)] []
  refine jv_aload_n C dX9_copyCity_10 0 rfl ?_
  refine jv_getf (fk := 17) C (by decide) ((hf2 58 (by decide)).trans h58) rfl in_X9_copyCity_9 (by decide) (by decide +kernel) rfl rfl dX9_copyCity_11 ?_
  refine jv_iconst (v := 1) C dX9_copyCity_14 (by decide) ?_
  refine jv_iload_n C dX9_copyCity_15 1 rfl ?_
  refine jv_iload_n C dX9_copyCity_16 2 rfl ?_
  refine jv_callS (na := 4) (As := [.ref 65, .int 1, .int 0, .int 3]) (st := []) C (c_X9_copyRow l D kp ((hf2 65 (by decide)).trans h65) 1 0 3 (by decide) (by decide) (by decide) (by decide) (by decide)) gX9_copyCity_X9_copyRow rfl rfl rfl q_X9_copyRow rfl ⟨by decide, by decide⟩ ⟨by decide, by decide⟩ (fun _ h => absurd h List.not_mem_nil) (Nat.le_of_ble_eq_true rfl) rfl dX9_copyCity_17 (fun r n1 E_6 hp _ => ?_)
  obtain ⟨rfl, rfl, hf7, g_9, e8, hz10⟩ := hp
  show jv_V l D vwCl kp G 0 0 n E_6 20 [(0, .ref 58), (1, .int 0), (2, .int 3)] []
  refine jv_aload_n C dX9_copyCity_20 0 rfl ?_
  refine jv_getf (fk := 18) C (by decide) ((hf7 58 (by decide)).trans ((hf2 58 (by decide)).trans h58)) rfl in_X9_copyCity_9 (by decide) (by decide +kernel) rfl rfl dX9_copyCity_21 ?_
  refine jv_bipush (v := 6) C dX9_copyCity_24 (by decide) ?_
  refine jv_iload_n C dX9_copyCity_26 1 rfl ?_
  refine jv_iload_n C dX9_copyCity_27 2 rfl ?_
  refine jv_callS (na := 4) (As := [.ref 66, .int 6, .int 0, .int 3]) (st := []) C (c_X9_copyRow l D kp ((hf7 66 (by decide)).trans ((hf2 66 (by decide)).trans h66)) 6 0 3 (by decide) (by decide) (by decide) (by decide) (by decide)) gX9_copyCity_X9_copyRow rfl rfl rfl q_X9_copyRow rfl ⟨by decide, by decide⟩ ⟨by decide, by decide⟩ (fun _ h => absurd h List.not_mem_nil) (Nat.le_of_ble_eq_true rfl) rfl dX9_copyCity_28 (fun r n1 E_11 hp _ => ?_)
  obtain ⟨rfl, rfl, hf12, g_14, e13, hz15⟩ := hp
  show jv_V l D vwCl kp G 0 0 n E_11 31 [(0, .ref 58), (1, .int 0), (2, .int 3)] []
  refine jv_aload_n C dX9_copyCity_31 0 rfl ?_
  refine jv_getf (fk := 19) C (by decide) ((hf12 58 (by decide)).trans ((hf7 58 (by decide)).trans ((hf2 58 (by decide)).trans h58))) rfl in_X9_copyCity_9 (by decide) (by decide +kernel) rfl rfl dX9_copyCity_32 ?_
  refine jv_bipush (v := 6) C dX9_copyCity_35 (by decide) ?_
  refine jv_iload_n C dX9_copyCity_37 1 rfl ?_
  refine jv_iload_n C dX9_copyCity_38 2 rfl ?_
  refine jv_callS (na := 4) (As := [.ref 67, .int 6, .int 0, .int 3]) (st := []) C (c_X9_copyRow l D kp ((hf12 67 (by decide)).trans ((hf7 67 (by decide)).trans ((hf2 67 (by decide)).trans h67))) 6 0 3 (by decide) (by decide) (by decide) (by decide) (by decide)) gX9_copyCity_X9_copyRow rfl rfl rfl q_X9_copyRow rfl ⟨by decide, by decide⟩ ⟨by decide, by decide⟩ (fun _ h => absurd h List.not_mem_nil) (Nat.le_of_ble_eq_true rfl) rfl dX9_copyCity_39 (fun r n1 E_16 hp _ => ?_)
  obtain ⟨rfl, rfl, hf17, g_19, e18, hz20⟩ := hp
  show jv_V l D vwCl kp G 0 0 n E_16 42 [(0, .ref 58), (1, .int 0), (2, .int 3)] []
  refine jv_aload_n C dX9_copyCity_42 0 rfl ?_
  refine jv_getf (fk := 20) C (by decide) ((hf17 58 (by decide)).trans ((hf12 58 (by decide)).trans ((hf7 58 (by decide)).trans ((hf2 58 (by decide)).trans h58)))) rfl in_X9_copyCity_9 (by decide) (by decide +kernel) rfl rfl dX9_copyCity_43 ?_
  refine jv_bipush (v := 48) C dX9_copyCity_46 (by decide) ?_
  refine jv_iload_n C dX9_copyCity_48 1 rfl ?_
  refine jv_iload_n C dX9_copyCity_49 2 rfl ?_
  refine jv_callS (na := 4) (As := [.ref 68, .int 48, .int 0, .int 3]) (st := []) C (c_X9_copyRow l D kp ((hf17 68 (by decide)).trans ((hf12 68 (by decide)).trans ((hf7 68 (by decide)).trans ((hf2 68 (by decide)).trans h68)))) 48 0 3 (by decide) (by decide) (by decide) (by decide) (by decide)) gX9_copyCity_X9_copyRow rfl rfl rfl q_X9_copyRow rfl ⟨by decide, by decide⟩ ⟨by decide, by decide⟩ (fun _ h => absurd h List.not_mem_nil) (Nat.le_of_ble_eq_true rfl) rfl dX9_copyCity_50 (fun r n1 E_21 hp _ => ?_)
  obtain ⟨rfl, rfl, hf22, g_24, e23, hz25⟩ := hp
  show jv_V l D vwCl kp G 0 0 n E_21 53 [(0, .ref 58), (1, .int 0), (2, .int 3)] []
  refine jv_aload_n C dX9_copyCity_53 0 rfl ?_
  refine jv_getf (fk := 21) C (by decide) ((hf22 58 (by decide)).trans ((hf17 58 (by decide)).trans ((hf12 58 (by decide)).trans ((hf7 58 (by decide)).trans ((hf2 58 (by decide)).trans h58))))) rfl in_X9_copyCity_9 (by decide) (by decide +kernel) rfl rfl dX9_copyCity_54 ?_
  refine jv_bipush (v := 48) C dX9_copyCity_57 (by decide) ?_
  refine jv_iload_n C dX9_copyCity_59 1 rfl ?_
  refine jv_iload_n C dX9_copyCity_60 2 rfl ?_
  refine jv_callS (na := 4) (As := [.ref 69, .int 48, .int 0, .int 3]) (st := []) C (c_X9_copyRow l D kp ((hf22 69 (by decide)).trans ((hf17 69 (by decide)).trans ((hf12 69 (by decide)).trans ((hf7 69 (by decide)).trans ((hf2 69 (by decide)).trans h69))))) 48 0 3 (by decide) (by decide) (by decide) (by decide) (by decide)) gX9_copyCity_X9_copyRow rfl rfl rfl q_X9_copyRow rfl ⟨by decide, by decide⟩ ⟨by decide, by decide⟩ (fun _ h => absurd h List.not_mem_nil) (Nat.le_of_ble_eq_true rfl) rfl dX9_copyCity_61 (fun r n1 E_26 hp _ => ?_)
  obtain ⟨rfl, rfl, hf27, g_29, e28, hz30⟩ := hp
  show jv_V l D vwCl kp G 0 0 n E_26 64 [(0, .ref 58), (1, .int 0), (2, .int 3)] []
  refine jv_aload_n C dX9_copyCity_64 0 rfl ?_
  refine jv_getf (fk := 22) C (by decide) ((hf27 58 (by decide)).trans ((hf22 58 (by decide)).trans ((hf17 58 (by decide)).trans ((hf12 58 (by decide)).trans ((hf7 58 (by decide)).trans ((hf2 58 (by decide)).trans h58)))))) rfl in_X9_copyCity_9 (by decide) (by decide +kernel) rfl rfl dX9_copyCity_65 ?_
  refine jv_iconst (v := 2) C dX9_copyCity_68 (by decide) ?_
  refine jv_iload_n C dX9_copyCity_69 1 rfl ?_
  refine jv_iload_n C dX9_copyCity_70 2 rfl ?_
  refine jv_callS (na := 4) (As := [.ref 70, .int 2, .int 0, .int 3]) (st := []) C (c_X9_copyRow l D kp ((hf27 70 (by decide)).trans ((hf22 70 (by decide)).trans ((hf17 70 (by decide)).trans ((hf12 70 (by decide)).trans ((hf7 70 (by decide)).trans ((hf2 70 (by decide)).trans h70)))))) 2 0 3 (by decide) (by decide) (by decide) (by decide) (by decide)) gX9_copyCity_X9_copyRow rfl rfl rfl q_X9_copyRow rfl ⟨by decide, by decide⟩ ⟨by decide, by decide⟩ (fun _ h => absurd h List.not_mem_nil) (Nat.le_of_ble_eq_true rfl) rfl dX9_copyCity_71 (fun r n1 E_31 hp _ => ?_)
  obtain ⟨rfl, rfl, hf32, g_34, e33, hz35⟩ := hp
  show jv_V l D vwCl kp G 0 0 n E_31 74 [(0, .ref 58), (1, .int 0), (2, .int 3)] []
  refine jv_aload_n C dX9_copyCity_74 0 rfl ?_
  refine jv_getf (fk := 23) C (by decide) ((hf32 58 (by decide)).trans ((hf27 58 (by decide)).trans ((hf22 58 (by decide)).trans ((hf17 58 (by decide)).trans ((hf12 58 (by decide)).trans ((hf7 58 (by decide)).trans ((hf2 58 (by decide)).trans h58))))))) rfl in_X9_copyCity_9 (by decide) (by decide +kernel) rfl rfl dX9_copyCity_75 ?_
  refine jv_bipush (v := 12) C dX9_copyCity_78 (by decide) ?_
  refine jv_iload_n C dX9_copyCity_80 1 rfl ?_
  refine jv_iload_n C dX9_copyCity_81 2 rfl ?_
  refine jv_callS (na := 4) (As := [.ref 71, .int 12, .int 0, .int 3]) (st := []) C (c_X9_copyRow l D kp ((hf32 71 (by decide)).trans ((hf27 71 (by decide)).trans ((hf22 71 (by decide)).trans ((hf17 71 (by decide)).trans ((hf12 71 (by decide)).trans ((hf7 71 (by decide)).trans ((hf2 71 (by decide)).trans h71))))))) 12 0 3 (by decide) (by decide) (by decide) (by decide) (by decide)) gX9_copyCity_X9_copyRow rfl rfl rfl q_X9_copyRow rfl ⟨by decide, by decide⟩ ⟨by decide, by decide⟩ (fun _ h => absurd h List.not_mem_nil) (Nat.le_of_ble_eq_true rfl) rfl dX9_copyCity_82 (fun r n1 E_36 hp _ => ?_)
  obtain ⟨rfl, rfl, hf37, g_39, e38, hz40⟩ := hp
  show jv_V l D vwCl kp G 0 0 n E_36 85 [(0, .ref 58), (1, .int 0), (2, .int 3)] []
  refine jv_aload_n C dX9_copyCity_85 0 rfl ?_
  refine jv_getf (fk := 24) C (by decide) ((hf37 58 (by decide)).trans ((hf32 58 (by decide)).trans ((hf27 58 (by decide)).trans ((hf22 58 (by decide)).trans ((hf17 58 (by decide)).trans ((hf12 58 (by decide)).trans ((hf7 58 (by decide)).trans ((hf2 58 (by decide)).trans h58)))))))) rfl in_X9_copyCity_9 (by decide) (by decide +kernel) rfl rfl dX9_copyCity_86 ?_
  refine jv_bipush (v := 24) C dX9_copyCity_89 (by decide) ?_
  refine jv_iload_n C dX9_copyCity_91 1 rfl ?_
  refine jv_iload_n C dX9_copyCity_92 2 rfl ?_
  refine jv_callS (na := 4) (As := [.ref 72, .int 24, .int 0, .int 3]) (st := []) C (c_X9_copyRow l D kp ((hf37 72 (by decide)).trans ((hf32 72 (by decide)).trans ((hf27 72 (by decide)).trans ((hf22 72 (by decide)).trans ((hf17 72 (by decide)).trans ((hf12 72 (by decide)).trans ((hf7 72 (by decide)).trans ((hf2 72 (by decide)).trans h72)))))))) 24 0 3 (by decide) (by decide) (by decide) (by decide) (by decide)) gX9_copyCity_X9_copyRow rfl rfl rfl q_X9_copyRow rfl ⟨by decide, by decide⟩ ⟨by decide, by decide⟩ (fun _ h => absurd h List.not_mem_nil) (Nat.le_of_ble_eq_true rfl) rfl dX9_copyCity_93 (fun r n1 E_41 hp _ => ?_)
  obtain ⟨rfl, rfl, hf42, g_44, e43, hz45⟩ := hp
  show jv_V l D vwCl kp G 0 0 n E_41 96 [(0, .ref 58), (1, .int 0), (2, .int 3)] []
  refine jv_aload_n C dX9_copyCity_96 0 rfl ?_
  refine jv_getf (fk := 25) C (by decide) ((hf42 58 (by decide)).trans ((hf37 58 (by decide)).trans ((hf32 58 (by decide)).trans ((hf27 58 (by decide)).trans ((hf22 58 (by decide)).trans ((hf17 58 (by decide)).trans ((hf12 58 (by decide)).trans ((hf7 58 (by decide)).trans ((hf2 58 (by decide)).trans h58))))))))) rfl in_X9_copyCity_9 (by decide) (by decide +kernel) rfl rfl dX9_copyCity_97 ?_
  refine jv_iconst (v := 2) C dX9_copyCity_100 (by decide) ?_
  refine jv_iload_n C dX9_copyCity_101 1 rfl ?_
  refine jv_iload_n C dX9_copyCity_102 2 rfl ?_
  refine jv_callS (na := 4) (As := [.ref 73, .int 2, .int 0, .int 3]) (st := []) C (c_X9_copyRow l D kp ((hf42 73 (by decide)).trans ((hf37 73 (by decide)).trans ((hf32 73 (by decide)).trans ((hf27 73 (by decide)).trans ((hf22 73 (by decide)).trans ((hf17 73 (by decide)).trans ((hf12 73 (by decide)).trans ((hf7 73 (by decide)).trans ((hf2 73 (by decide)).trans h73))))))))) 2 0 3 (by decide) (by decide) (by decide) (by decide) (by decide)) gX9_copyCity_X9_copyRow rfl rfl rfl q_X9_copyRow rfl ⟨by decide, by decide⟩ ⟨by decide, by decide⟩ (fun _ h => absurd h List.not_mem_nil) (Nat.le_of_ble_eq_true rfl) rfl dX9_copyCity_103 (fun r n1 E_46 hp _ => ?_)
  obtain ⟨rfl, rfl, hf47, g_49, e48, hz50⟩ := hp
  show jv_V l D vwCl kp G 0 0 n E_46 106 [(0, .ref 58), (1, .int 0), (2, .int 3)] []
  exact jv_vret C B ⟨rfl, rfl, fun j g0 g1 g2 g3 g4 g5 g6 g7 g8 g9 => ((hf47 j g9).trans ((hf42 j g8).trans ((hf37 j g7).trans ((hf32 j g6).trans ((hf27 j g5).trans ((hf22 j g4).trans ((hf17 j g3).trans ((hf12 j g2).trans ((hf7 j g1).trans (hf2 j g0)))))))))), ⟨_, ((hf47 64 (by decide)).trans ((hf42 64 (by decide)).trans ((hf37 64 (by decide)).trans ((hf32 64 (by decide)).trans ((hf27 64 (by decide)).trans ((hf22 64 (by decide)).trans ((hf17 64 (by decide)).trans ((hf12 64 (by decide)).trans ((hf7 64 (by decide)).trans e3)))))))))⟩, ⟨_, ((hf47 65 (by decide)).trans ((hf42 65 (by decide)).trans ((hf37 65 (by decide)).trans ((hf32 65 (by decide)).trans ((hf27 65 (by decide)).trans ((hf22 65 (by decide)).trans ((hf17 65 (by decide)).trans ((hf12 65 (by decide)).trans e8))))))))⟩, ⟨_, ((hf47 66 (by decide)).trans ((hf42 66 (by decide)).trans ((hf37 66 (by decide)).trans ((hf32 66 (by decide)).trans ((hf27 66 (by decide)).trans ((hf22 66 (by decide)).trans ((hf17 66 (by decide)).trans e13)))))))⟩, ⟨_, ((hf47 67 (by decide)).trans ((hf42 67 (by decide)).trans ((hf37 67 (by decide)).trans ((hf32 67 (by decide)).trans ((hf27 67 (by decide)).trans ((hf22 67 (by decide)).trans e18))))))⟩, ⟨_, ((hf47 68 (by decide)).trans ((hf42 68 (by decide)).trans ((hf37 68 (by decide)).trans ((hf32 68 (by decide)).trans ((hf27 68 (by decide)).trans e23)))))⟩, ⟨_, ((hf47 69 (by decide)).trans ((hf42 69 (by decide)).trans ((hf37 69 (by decide)).trans ((hf32 69 (by decide)).trans e28))))⟩, ⟨_, ((hf47 70 (by decide)).trans ((hf42 70 (by decide)).trans ((hf37 70 (by decide)).trans e33)))⟩, ⟨_, ((hf47 71 (by decide)).trans ((hf42 71 (by decide)).trans e38))⟩, ⟨_, ((hf47 72 (by decide)).trans e43)⟩, ⟨_, e48⟩⟩ ⟨by decide, by decide⟩ dX9_copyCity_106
theorem q_X9_begins : yX9_begins.cls ≠ "java/lang/invoke/MethodHandle" ∧ yX9_begins.cls ≠ "java/lang/invoke/VarHandle" ∧ (parseMethodDescriptor yX9_begins.desc).map (fun d => d.parameters.length) = some 0 := by decide +kernel
theorem q_X9_clears : yX9_clears.cls ≠ "java/lang/invoke/MethodHandle" ∧ yX9_clears.cls ≠ "java/lang/invoke/VarHandle" ∧ (parseMethodDescriptor yX9_clears.desc).map (fun d => d.parameters.length) = some 0 := by decide +kernel
theorem q_X9_copyCity : yX9_copyCity.cls ≠ "java/lang/invoke/MethodHandle" ∧ yX9_copyCity.cls ≠ "java/lang/invoke/VarHandle" ∧ (parseMethodDescriptor yX9_copyCity.desc).map (fun d => d.parameters.length) = some 2 := by decide +kernel
theorem q_X9_isGood : yX9_isGood.cls ≠ "java/lang/invoke/MethodHandle" ∧ yX9_isGood.cls ≠ "java/lang/invoke/VarHandle" ∧ (parseMethodDescriptor yX9_isGood.desc).map (fun d => d.parameters.length) = some 0 := by decide +kernel
theorem q_X9_isOver : yX9_isOver.cls ≠ "java/lang/invoke/MethodHandle" ∧ yX9_isOver.cls ≠ "java/lang/invoke/VarHandle" ∧ (parseMethodDescriptor yX9_isOver.desc).map (fun d => d.parameters.length) = some 0 := by decide +kernel
theorem in_X9_city_9 : ∀ w ∈ u_ws RX9 TX9 46, w ∈ wsX9_city := by decide +kernel
set_option maxRecDepth 100000 in
set_option maxHeartbeats 8000000 in
theorem c_X9_city (l : Launch) (D : va_G) (kp : Nat → ClassId) {n : Nat} {E : Nat → jv_E} (h58 : E 58 = cx58) (h64 : E 64 = cx64) (h65 : E 65 = cx65) (h66 : E 66 = cx66) (h67 : E 67 = cx67) (h68 : E 68 = cx68) (h69 : E 69 = cx69) (h70 : E 70 = cx70) (h71 : E 71 = cx71) (h72 : E 72 = cx72) (h73 : E 73 = cx73)  : jv_M l D vwCl kp yX9_city wsX9_city rm4 [] [.ref 58] n E 0 0 (fun r n1 E1 => some (.int 0) = r) := by
  refine jv_of (by decide) rfl (Nat.le_of_ble_eq_true rfl) (fun G C B hI hnl => ?_)
  show jv_V l D vwCl kp G 0 0 n E 0 [(0, .ref 58)] []
  refine jv_aload_n C dX9_city_0 0 rfl ?_
  refine jv_iconst (v := 0) C dX9_city_1 (by decide) ?_
  refine jv_putf (fk := 0) (ty := .int) (fs2 := [.int 0, .ref 59, .ref 60, .ref 61, .ref 62, .ref 63, .int 0, .int 0, .int 0, .int 0, .int 0, .long 0, .int 0, .int 0, .int 0, .int (-1), .ref 64, .ref 65, .ref 66, .ref 67, .ref 68, .ref 69, .ref 70, .ref 71, .ref 72, .ref 73, .int 0, .ref 74, .ref 75, .ref 76, .int 0, .int 0, .ref 77, .ref 78, .ref 79, .int 0, .int 0, .int 0, .ref 80, .ref 81, .ref 82, .long 0, .ref 83, .int 0, .int 0, .int 0]) C (by decide) h58 rfl in_X9_city_9 tyX9 tyX9_ok nmX9 (by decide) (by decide +kernel) rfl rfl rfl (fun _ => rfl) (fun _ => rfl) (Nat.le_of_ble_eq_true rfl) dX9_city_2 rfl ?_
  refine jv_aload_n C dX9_city_5 0 rfl ?_
  refine jv_callV (na := 0) (As := []) (st := []) C (c_X9_clears l D kp (va_up_self _ _ _) (jv_n (by decide) h64) (jv_n (by decide) h65) (jv_n (by decide) h66) (jv_n (by decide) h67) (jv_n (by decide) h68) (jv_n (by decide) h69) (jv_n (by decide) h70) (jv_n (by decide) h73)  ) gX9_city_X9_clears rfl (by decide) (va_up_self _ _ _) rfl rfl rfl q_X9_clears rfl ⟨by decide, by decide⟩ ⟨by decide, by decide⟩ (fun _ h => absurd h List.not_mem_nil) (Nat.le_of_ble_eq_true rfl) rfl dX9_city_6 (fun r n1 E_1 hp _ => ?_)
  obtain ⟨rfl, rfl, hf2, e3, e4, e5, e6, e7, e8, e9, e10, e11⟩ := hp
  show jv_V l D vwCl kp G 0 0 n E_1 9 [(0, .ref 58)] []
  refine jv_aload_n C dX9_city_9 0 rfl ?_
  refine jv_callV (na := 0) (As := []) (st := []) C (c_X9_begins l D kp e3  ) gX9_city_X9_begins rfl (by decide) e3 rfl rfl rfl q_X9_begins rfl ⟨by decide, by decide⟩ ⟨by decide, by decide⟩ (fun _ h => absurd h List.not_mem_nil) (Nat.le_of_ble_eq_true rfl) rfl dX9_city_10 (fun r n1 E_12 hp _ => ?_)
  obtain ⟨rfl, rfl, hf13, e14⟩ := hp
  show jv_V l D vwCl kp G 0 0 n E_12 13 [(0, .ref 58)] []
  refine jv_aload_n C dX9_city_13 0 rfl ?_
  refine jv_callV (na := 0) (As := []) (st := []) C (c_X9_isGood_b l D kp e14  ) gX9_city_X9_isGood rfl (by decide) e14 rfl rfl rfl q_X9_isGood rfl ⟨by decide, by decide⟩ ⟨by decide, by decide⟩ (fun _ h => absurd h List.not_mem_nil) (Nat.le_of_ble_eq_true rfl) rfl dX9_city_14 (fun r n1 E_15 hp _ => ?_)
  obtain ⟨rfl, rfl, rfl⟩ := hp
  show jv_V l D vwCl kp G 0 0 n E_12 17 [(0, .ref 58)] [.int 1]
  refine jv_if_eq (tgt := 87) C dX9_city_17 (by decide) (fun h => absurd h (by decide)) (fun _ => ?_)
  refine jv_aload_n C dX9_city_20 0 rfl ?_
  refine jv_getf (fk := 8) C (by decide) e14 rfl in_X9_city_9 (by decide) (by decide +kernel) rfl rfl dX9_city_21 ?_
  refine jv_if_eq (tgt := 87) C dX9_city_24 (by decide) (fun _ => ?_) (fun h => absurd (by decide) h)
  refine jv_aload_n C dX9_city_87 0 rfl ?_
  refine jv_callV (na := 0) (As := []) (st := []) C (c_X9_isOver l D kp e14  ) gX9_city_X9_isOver rfl (by decide) e14 rfl rfl rfl q_X9_isOver rfl ⟨by decide, by decide⟩ ⟨by decide, by decide⟩ (fun _ h => absurd h List.not_mem_nil) (Nat.le_of_ble_eq_true rfl) rfl dX9_city_88 (fun r n1 E_16 hp _ => ?_)
  obtain ⟨rfl, rfl, hf17, e18⟩ := hp
  show jv_V l D vwCl kp G 0 0 n E_16 91 [(0, .ref 58)] []
  refine jv_aload_n C dX9_city_91 0 rfl ?_
  refine jv_getf (fk := 12) C (by decide) e18 rfl in_X9_city_9 (by decide) (by decide +kernel) rfl rfl dX9_city_92 ?_
  refine jv_if_eq (tgt := 101) C dX9_city_95 (by decide) (fun _ => ?_) (fun h => absurd (by decide) h)
  refine jv_aload_n C dX9_city_101 0 rfl ?_
  refine jv_iconst (v := 4) C dX9_city_102 (by decide) ?_
  refine jv_iconst (v := 0) C dX9_city_103 (by decide) ?_
  refine jv_callV (na := 2) (As := [.int 4, .int 0]) (st := []) C (c_X9_copyCity_4 l D kp ((hf17 64 (by decide)).trans ((hf13 64 (by decide)).trans e4)) ((hf17 65 (by decide)).trans ((hf13 65 (by decide)).trans e5)) ((hf17 66 (by decide)).trans ((hf13 66 (by decide)).trans e6)) ((hf17 67 (by decide)).trans ((hf13 67 (by decide)).trans e7)) ((hf17 68 (by decide)).trans ((hf13 68 (by decide)).trans e8)) ((hf17 69 (by decide)).trans ((hf13 69 (by decide)).trans e9)) ((hf17 70 (by decide)).trans ((hf13 70 (by decide)).trans e10)) ((hf17 71 (by decide)).trans ((hf13 71 (by decide)).trans ((hf2 71 (by decide) (by decide) (by decide) (by decide) (by decide) (by decide) (by decide) (by decide) (by decide)).trans (jv_n (by decide) h71)))) ((hf17 72 (by decide)).trans ((hf13 72 (by decide)).trans ((hf2 72 (by decide) (by decide) (by decide) (by decide) (by decide) (by decide) (by decide) (by decide) (by decide)).trans (jv_n (by decide) h72)))) ((hf17 73 (by decide)).trans ((hf13 73 (by decide)).trans e11)) e18  ) gX9_city_X9_copyCity rfl (by decide) e18 rfl rfl rfl q_X9_copyCity rfl ⟨by decide, by decide⟩ ⟨by decide, by decide⟩ (fun _ h => absurd h List.not_mem_nil) (Nat.le_of_ble_eq_true rfl) rfl dX9_city_104 (fun r n1 E_19 hp _ => ?_)
  obtain ⟨rfl, rfl, hf20, ⟨g_31, e21, hz32⟩, ⟨g_33, e22⟩, ⟨g_34, e23⟩, ⟨g_35, e24⟩, ⟨g_36, e25⟩, ⟨g_37, e26⟩, ⟨g_38, e27⟩, ⟨g_39, e28⟩, ⟨g_40, e29⟩, ⟨g_41, e30⟩⟩ := hp
  show jv_V l D vwCl kp G 0 0 n E_19 107 [(0, .ref 58)] []
  refine jv_aload_n C dX9_city_107 0 rfl ?_
  refine jv_getf (fk := 16) C (by decide) ((hf20 58 (by decide) (by decide) (by decide) (by decide) (by decide) (by decide) (by decide) (by decide) (by decide) (by decide)).trans e18) rfl in_X9_city_9 (by decide) (by decide +kernel) rfl rfl dX9_city_108 ?_
  refine jv_iconst (v := 0) C dX9_city_111 (by decide) ?_
  refine jv_iald C (by decide) e21 (jv_vi (by decide)) dX9_city_112 ?_
  refine jv_ti (y := 0) (hz32 _) ?_
  exact jv_iret C B rfl ⟨by decide, by decide⟩ dX9_city_113
theorem in_X9_keep_9 : ∀ w ∈ u_ws RX9 TX9 46, w ∈ wsX9_keep := by decide +kernel
set_option maxRecDepth 100000 in
set_option maxHeartbeats 8000000 in
theorem c_X9_keep_0 (l : Launch) (D : va_G) (kp : Nat → ClassId) {n : Nat} {E : Nat → jv_E} (h58 : E 58 = cx58) (h74 : E 74 = cx74) (h64 : E 64 = cx64) (h65 : E 65 = cx65) (h66 : E 66 = cx66) (h67 : E 67 = cx67) (h68 : E 68 = cx68) (h69 : E 69 = cx69) (h70 : E 70 = cx70) (h71 : E 71 = cx71) (h72 : E 72 = cx72) (h73 : E 73 = cx73)  : jv_M l D vwCl kp yX9_keep wsX9_keep rm3 [] [.ref 58, .int 0] n E 0 0 (fun r n1 E1 => some (.int 0) = r) := by
  refine jv_of (by decide) rfl (Nat.le_of_ble_eq_true rfl) (fun G C B hI hnl => ?_)
  show jv_V l D vwCl kp G 0 0 n E 0 [(0, .ref 58), (1, .int 0)] []
  refine jv_aload_n C dX9_keep_0 0 rfl ?_
  refine jv_iconst (v := 0) C dX9_keep_1 (by decide) ?_
  refine jv_putf (fk := 0) (ty := .int) (fs2 := [.int 0, .ref 59, .ref 60, .ref 61, .ref 62, .ref 63, .int 0, .int 0, .int 0, .int 0, .int 0, .long 0, .int 0, .int 0, .int 0, .int (-1), .ref 64, .ref 65, .ref 66, .ref 67, .ref 68, .ref 69, .ref 70, .ref 71, .ref 72, .ref 73, .int 0, .ref 74, .ref 75, .ref 76, .int 0, .int 0, .ref 77, .ref 78, .ref 79, .int 0, .int 0, .int 0, .ref 80, .ref 81, .ref 82, .long 0, .ref 83, .int 0, .int 0, .int 0]) C (by decide) h58 rfl in_X9_keep_9 tyX9 tyX9_ok nmX9 (by decide) (by decide +kernel) rfl rfl rfl (fun _ => rfl) (fun _ => rfl) (Nat.le_of_ble_eq_true rfl) dX9_keep_2 rfl ?_
  refine jv_iload_n C dX9_keep_5 1 rfl ?_
  refine jv_i2l C dX9_keep_6 ?_
  refine jv_tl (y := 0) (by decide) ?_
  refine jv_lconst (v := 0) C dX9_keep_7 (by decide) ?_
  refine jv_ldc2 (v := 2) C dX9_keep_8 (by decide +kernel) ?_
  refine jv_callS (na := 3) (As := [.long 0, .long 0, .long 2]) (st := []) C (c_X9_in l D kp 0 0 2 0 0 2 (by decide) (by decide) (by decide)) gX9_keep_X9_in rfl rfl rfl q_X9_in rfl ⟨by decide, by decide⟩ ⟨by decide, by decide⟩ (fun _ h => absurd h List.not_mem_nil) (Nat.le_of_ble_eq_true rfl) rfl dX9_keep_11 (fun r n1 E_1 hp _ => ?_)
  obtain ⟨hq, rfl, rfl⟩ := hp
  obtain ⟨rfl, q2⟩ := hq.resolve_right (fun h => absurd h.2 (by skip; omega))
  show jv_V l D vwCl kp G 0 0 n (va_up E 58 (.inr (9, [.int 0, .ref 59, .ref 60, .ref 61, .ref 62, .ref 63, .int 0, .int 0, .int 0, .int 0, .int 0, .long 0, .int 0, .int 0, .int 0, .int (-1), .ref 64, .ref 65, .ref 66, .ref 67, .ref 68, .ref 69, .ref 70, .ref 71, .ref 72, .ref 73, .int 0, .ref 74, .ref 75, .ref 76, .int 0, .int 0, .ref 77, .ref 78, .ref 79, .int 0, .int 0, .int 0, .ref 80, .ref 81, .ref 82, .long 0, .ref 83, .int 0, .int 0, .int 0]))) 14 [(0, .ref 58), (1, .int 0)] [.int 1]
  refine jv_if_ne (tgt := 20) C dX9_keep_14 (by decide) (fun _ => ?_) (fun h => absurd h (by decide))
  refine jv_aload_n C dX9_keep_20 0 rfl ?_
  refine jv_iconst (v := 0) C dX9_keep_21 (by decide) ?_
  refine jv_iconst (v := 1) C dX9_keep_22 (by decide) ?_
  refine jv_iload_n C dX9_keep_23 1 rfl ?_
  refine jv_iadd C dX9_keep_24 ?_
  refine jv_ti (y := 1) (by decide) ?_
  refine jv_callV (na := 2) (As := [.int 0, .int 1]) (st := []) C (c_X9_copyCity_0_1 l D kp (va_up_self _ _ _) (jv_n (by decide) h64) (jv_n (by decide) h65) (jv_n (by decide) h66) (jv_n (by decide) h67) (jv_n (by decide) h68) (jv_n (by decide) h69) (jv_n (by decide) h70) (jv_n (by decide) h71) (jv_n (by decide) h72) (jv_n (by decide) h73)  ) gX9_keep_X9_copyCity rfl (by decide) (va_up_self _ _ _) rfl rfl rfl q_X9_copyCity rfl ⟨by decide, by decide⟩ ⟨by decide, by decide⟩ (fun _ h => absurd h List.not_mem_nil) (Nat.le_of_ble_eq_true rfl) rfl dX9_keep_25 (fun r n1 E_3 hp _ => ?_)
  obtain ⟨rfl, rfl, hf4, ⟨g_15, e5⟩, ⟨g_16, e6⟩, ⟨g_17, e7⟩, ⟨g_18, e8⟩, ⟨g_19, e9⟩, ⟨g_20, e10⟩, ⟨g_21, e11⟩, ⟨g_22, e12⟩, ⟨g_23, e13⟩, ⟨g_24, e14⟩⟩ := hp
  show jv_V l D vwCl kp G 0 0 n E_3 28 [(0, .ref 58), (1, .int 0)] []
  refine jv_aload_n C dX9_keep_28 0 rfl ?_
  refine jv_getf (fk := 27) C (by decide) ((hf4 58 (by decide) (by decide) (by decide) (by decide) (by decide) (by decide) (by decide) (by decide) (by decide) (by decide)).trans (va_up_self _ _ _)) rfl in_X9_keep_9 (by decide) (by decide +kernel) rfl rfl dX9_keep_29 ?_
  refine jv_iload_n C dX9_keep_32 1 rfl ?_
  refine jv_iconst (v := 1) C dX9_keep_33 (by decide) ?_
  refine jv_zast C (by decide) ((hf4 74 (by decide) (by decide) (by decide) (by decide) (by decide) (by decide) (by decide) (by decide) (by decide) (by decide)).trans (jv_n (by decide) h74)) (jv_vi (by decide)) dX9_keep_34 ?_
  refine jv_iconst (v := 0) C dX9_keep_35 (by decide) ?_
  exact jv_iret C B rfl ⟨by decide, by decide⟩ dX9_keep_36
theorem in_X9_back_9 : ∀ w ∈ u_ws RX9 TX9 46, w ∈ wsX9_back := by decide +kernel
set_option maxRecDepth 100000 in
set_option maxHeartbeats 8000000 in
theorem c_X9_back_0 (l : Launch) (D : va_G) (kp : Nat → ClassId) {n : Nat} {E : Nat → jv_E} (h58 : E 58 = cx58) (h74 : E 74 = cx74)  : jv_M l D vwCl kp yX9_back wsX9_back rm2 [] [.ref 58, .int 0] n E 0 0 (fun r n1 E1 => some (.int (-6)) = r) := by
  refine jv_of (by decide) rfl (Nat.le_of_ble_eq_true rfl) (fun G C B hI hnl => ?_)
  show jv_V l D vwCl kp G 0 0 n E 0 [(0, .ref 58), (1, .int 0)] []
  refine jv_aload_n C dX9_back_0 0 rfl ?_
  refine jv_iconst (v := 0) C dX9_back_1 (by decide) ?_
  refine jv_putf (fk := 0) (ty := .int) (fs2 := [.int 0, .ref 59, .ref 60, .ref 61, .ref 62, .ref 63, .int 0, .int 0, .int 0, .int 0, .int 0, .long 0, .int 0, .int 0, .int 0, .int (-1), .ref 64, .ref 65, .ref 66, .ref 67, .ref 68, .ref 69, .ref 70, .ref 71, .ref 72, .ref 73, .int 0, .ref 74, .ref 75, .ref 76, .int 0, .int 0, .ref 77, .ref 78, .ref 79, .int 0, .int 0, .int 0, .ref 80, .ref 81, .ref 82, .long 0, .ref 83, .int 0, .int 0, .int 0]) C (by decide) h58 rfl in_X9_back_9 tyX9 tyX9_ok nmX9 (by decide) (by decide +kernel) rfl rfl rfl (fun _ => rfl) (fun _ => rfl) (Nat.le_of_ble_eq_true rfl) dX9_back_2 rfl ?_
  refine jv_iload_n C dX9_back_5 1 rfl ?_
  refine jv_i2l C dX9_back_6 ?_
  refine jv_tl (y := 0) (by decide) ?_
  refine jv_lconst (v := 0) C dX9_back_7 (by decide) ?_
  refine jv_ldc2 (v := 2) C dX9_back_8 (by decide +kernel) ?_
  refine jv_callS (na := 3) (As := [.long 0, .long 0, .long 2]) (st := []) C (c_X9_in l D kp 0 0 2 0 0 2 (by decide) (by decide) (by decide)) gX9_back_X9_in rfl rfl rfl q_X9_in rfl ⟨by decide, by decide⟩ ⟨by decide, by decide⟩ (fun _ h => absurd h List.not_mem_nil) (Nat.le_of_ble_eq_true rfl) rfl dX9_back_11 (fun r n1 E_1 hp _ => ?_)
  obtain ⟨hq, rfl, rfl⟩ := hp
  obtain ⟨rfl, q2⟩ := hq.resolve_right (fun h => absurd h.2 (by skip; omega))
  show jv_V l D vwCl kp G 0 0 n (va_up E 58 (.inr (9, [.int 0, .ref 59, .ref 60, .ref 61, .ref 62, .ref 63, .int 0, .int 0, .int 0, .int 0, .int 0, .long 0, .int 0, .int 0, .int 0, .int (-1), .ref 64, .ref 65, .ref 66, .ref 67, .ref 68, .ref 69, .ref 70, .ref 71, .ref 72, .ref 73, .int 0, .ref 74, .ref 75, .ref 76, .int 0, .int 0, .ref 77, .ref 78, .ref 79, .int 0, .int 0, .int 0, .ref 80, .ref 81, .ref 82, .long 0, .ref 83, .int 0, .int 0, .int 0]))) 14 [(0, .ref 58), (1, .int 0)] [.int 1]
  refine jv_if_ne (tgt := 20) C dX9_back_14 (by decide) (fun _ => ?_) (fun h => absurd h (by decide))
  refine jv_aload_n C dX9_back_20 0 rfl ?_
  refine jv_getf (fk := 27) C (by decide) (va_up_self _ _ _) rfl in_X9_back_9 (by decide) (by decide +kernel) rfl rfl dX9_back_21 ?_
  refine jv_iload_n C dX9_back_24 1 rfl ?_
  refine jv_zald C (by decide) (jv_n (by decide) h74) (jv_vi (by decide)) dX9_back_25 ?_
  refine jv_ti (y := 0) (by decide) ?_
  refine jv_if_ne (tgt := 32) C dX9_back_26 (by decide) (fun h => absurd h (by decide)) (fun _ => ?_)
  refine jv_bipush (v := (-6)) C dX9_back_29 (by decide) ?_
  exact jv_iret C B rfl ⟨by decide, by decide⟩ dX9_back_31
set_option maxRecDepth 100000 in
set_option maxHeartbeats 8000000 in
theorem c_X9_keep_1 (l : Launch) (D : va_G) (kp : Nat → ClassId) {n : Nat} {E : Nat → jv_E} (h58 : E 58 = cx58) (h74 : E 74 = cx74) (h64 : E 64 = cx64) (h65 : E 65 = cx65) (h66 : E 66 = cx66) (h67 : E 67 = cx67) (h68 : E 68 = cx68) (h69 : E 69 = cx69) (h70 : E 70 = cx70) (h71 : E 71 = cx71) (h72 : E 72 = cx72) (h73 : E 73 = cx73)  : jv_M l D vwCl kp yX9_keep wsX9_keep rm3 [] [.ref 58, .int 1] n E 0 0 (fun r n1 E1 => some (.int 0) = r) := by
  refine jv_of (by decide) rfl (Nat.le_of_ble_eq_true rfl) (fun G C B hI hnl => ?_)
  show jv_V l D vwCl kp G 0 0 n E 0 [(0, .ref 58), (1, .int 1)] []
  refine jv_aload_n C dX9_keep_0 0 rfl ?_
  refine jv_iconst (v := 0) C dX9_keep_1 (by decide) ?_
  refine jv_putf (fk := 0) (ty := .int) (fs2 := [.int 0, .ref 59, .ref 60, .ref 61, .ref 62, .ref 63, .int 0, .int 0, .int 0, .int 0, .int 0, .long 0, .int 0, .int 0, .int 0, .int (-1), .ref 64, .ref 65, .ref 66, .ref 67, .ref 68, .ref 69, .ref 70, .ref 71, .ref 72, .ref 73, .int 0, .ref 74, .ref 75, .ref 76, .int 0, .int 0, .ref 77, .ref 78, .ref 79, .int 0, .int 0, .int 0, .ref 80, .ref 81, .ref 82, .long 0, .ref 83, .int 0, .int 0, .int 0]) C (by decide) h58 rfl in_X9_keep_9 tyX9 tyX9_ok nmX9 (by decide) (by decide +kernel) rfl rfl rfl (fun _ => rfl) (fun _ => rfl) (Nat.le_of_ble_eq_true rfl) dX9_keep_2 rfl ?_
  refine jv_iload_n C dX9_keep_5 1 rfl ?_
  refine jv_i2l C dX9_keep_6 ?_
  refine jv_tl (y := 1) (by decide) ?_
  refine jv_lconst (v := 0) C dX9_keep_7 (by decide) ?_
  refine jv_ldc2 (v := 2) C dX9_keep_8 (by decide +kernel) ?_
  refine jv_callS (na := 3) (As := [.long 1, .long 0, .long 2]) (st := []) C (c_X9_in l D kp 1 0 2 1 0 2 (by decide) (by decide) (by decide)) gX9_keep_X9_in rfl rfl rfl q_X9_in rfl ⟨by decide, by decide⟩ ⟨by decide, by decide⟩ (fun _ h => absurd h List.not_mem_nil) (Nat.le_of_ble_eq_true rfl) rfl dX9_keep_11 (fun r n1 E_1 hp _ => ?_)
  obtain ⟨hq, rfl, rfl⟩ := hp
  obtain ⟨rfl, q2⟩ := hq.resolve_right (fun h => absurd h.2 (by skip; omega))
  show jv_V l D vwCl kp G 0 0 n (va_up E 58 (.inr (9, [.int 0, .ref 59, .ref 60, .ref 61, .ref 62, .ref 63, .int 0, .int 0, .int 0, .int 0, .int 0, .long 0, .int 0, .int 0, .int 0, .int (-1), .ref 64, .ref 65, .ref 66, .ref 67, .ref 68, .ref 69, .ref 70, .ref 71, .ref 72, .ref 73, .int 0, .ref 74, .ref 75, .ref 76, .int 0, .int 0, .ref 77, .ref 78, .ref 79, .int 0, .int 0, .int 0, .ref 80, .ref 81, .ref 82, .long 0, .ref 83, .int 0, .int 0, .int 0]))) 14 [(0, .ref 58), (1, .int 1)] [.int 1]
  refine jv_if_ne (tgt := 20) C dX9_keep_14 (by decide) (fun _ => ?_) (fun h => absurd h (by decide))
  refine jv_aload_n C dX9_keep_20 0 rfl ?_
  refine jv_iconst (v := 0) C dX9_keep_21 (by decide) ?_
  refine jv_iconst (v := 1) C dX9_keep_22 (by decide) ?_
  refine jv_iload_n C dX9_keep_23 1 rfl ?_
  refine jv_iadd C dX9_keep_24 ?_
  refine jv_ti (y := 2) (by decide) ?_
  refine jv_callV (na := 2) (As := [.int 0, .int 2]) (st := []) C (c_X9_copyCity_0_2 l D kp (va_up_self _ _ _) (jv_n (by decide) h64) (jv_n (by decide) h65) (jv_n (by decide) h66) (jv_n (by decide) h67) (jv_n (by decide) h68) (jv_n (by decide) h69) (jv_n (by decide) h70) (jv_n (by decide) h71) (jv_n (by decide) h72) (jv_n (by decide) h73)  ) gX9_keep_X9_copyCity rfl (by decide) (va_up_self _ _ _) rfl rfl rfl q_X9_copyCity rfl ⟨by decide, by decide⟩ ⟨by decide, by decide⟩ (fun _ h => absurd h List.not_mem_nil) (Nat.le_of_ble_eq_true rfl) rfl dX9_keep_25 (fun r n1 E_3 hp _ => ?_)
  obtain ⟨rfl, rfl, hf4, ⟨g_15, e5⟩, ⟨g_16, e6⟩, ⟨g_17, e7⟩, ⟨g_18, e8⟩, ⟨g_19, e9⟩, ⟨g_20, e10⟩, ⟨g_21, e11⟩, ⟨g_22, e12⟩, ⟨g_23, e13⟩, ⟨g_24, e14⟩⟩ := hp
  show jv_V l D vwCl kp G 0 0 n E_3 28 [(0, .ref 58), (1, .int 1)] []
  refine jv_aload_n C dX9_keep_28 0 rfl ?_
  refine jv_getf (fk := 27) C (by decide) ((hf4 58 (by decide) (by decide) (by decide) (by decide) (by decide) (by decide) (by decide) (by decide) (by decide) (by decide)).trans (va_up_self _ _ _)) rfl in_X9_keep_9 (by decide) (by decide +kernel) rfl rfl dX9_keep_29 ?_
  refine jv_iload_n C dX9_keep_32 1 rfl ?_
  refine jv_iconst (v := 1) C dX9_keep_33 (by decide) ?_
  refine jv_zast C (by decide) ((hf4 74 (by decide) (by decide) (by decide) (by decide) (by decide) (by decide) (by decide) (by decide) (by decide) (by decide)).trans (jv_n (by decide) h74)) (jv_vi (by decide)) dX9_keep_34 ?_
  refine jv_iconst (v := 0) C dX9_keep_35 (by decide) ?_
  exact jv_iret C B rfl ⟨by decide, by decide⟩ dX9_keep_36
set_option maxRecDepth 100000 in
set_option maxHeartbeats 8000000 in
theorem c_X9_back_1 (l : Launch) (D : va_G) (kp : Nat → ClassId) {n : Nat} {E : Nat → jv_E} (h58 : E 58 = cx58) (h74 : E 74 = cx74)  : jv_M l D vwCl kp yX9_back wsX9_back rm2 [] [.ref 58, .int 1] n E 0 0 (fun r n1 E1 => some (.int (-6)) = r) := by
  refine jv_of (by decide) rfl (Nat.le_of_ble_eq_true rfl) (fun G C B hI hnl => ?_)
  show jv_V l D vwCl kp G 0 0 n E 0 [(0, .ref 58), (1, .int 1)] []
  refine jv_aload_n C dX9_back_0 0 rfl ?_
  refine jv_iconst (v := 0) C dX9_back_1 (by decide) ?_
  refine jv_putf (fk := 0) (ty := .int) (fs2 := [.int 0, .ref 59, .ref 60, .ref 61, .ref 62, .ref 63, .int 0, .int 0, .int 0, .int 0, .int 0, .long 0, .int 0, .int 0, .int 0, .int (-1), .ref 64, .ref 65, .ref 66, .ref 67, .ref 68, .ref 69, .ref 70, .ref 71, .ref 72, .ref 73, .int 0, .ref 74, .ref 75, .ref 76, .int 0, .int 0, .ref 77, .ref 78, .ref 79, .int 0, .int 0, .int 0, .ref 80, .ref 81, .ref 82, .long 0, .ref 83, .int 0, .int 0, .int 0]) C (by decide) h58 rfl in_X9_back_9 tyX9 tyX9_ok nmX9 (by decide) (by decide +kernel) rfl rfl rfl (fun _ => rfl) (fun _ => rfl) (Nat.le_of_ble_eq_true rfl) dX9_back_2 rfl ?_
  refine jv_iload_n C dX9_back_5 1 rfl ?_
  refine jv_i2l C dX9_back_6 ?_
  refine jv_tl (y := 1) (by decide) ?_
  refine jv_lconst (v := 0) C dX9_back_7 (by decide) ?_
  refine jv_ldc2 (v := 2) C dX9_back_8 (by decide +kernel) ?_
  refine jv_callS (na := 3) (As := [.long 1, .long 0, .long 2]) (st := []) C (c_X9_in l D kp 1 0 2 1 0 2 (by decide) (by decide) (by decide)) gX9_back_X9_in rfl rfl rfl q_X9_in rfl ⟨by decide, by decide⟩ ⟨by decide, by decide⟩ (fun _ h => absurd h List.not_mem_nil) (Nat.le_of_ble_eq_true rfl) rfl dX9_back_11 (fun r n1 E_1 hp _ => ?_)
  obtain ⟨hq, rfl, rfl⟩ := hp
  obtain ⟨rfl, q2⟩ := hq.resolve_right (fun h => absurd h.2 (by skip; omega))
  show jv_V l D vwCl kp G 0 0 n (va_up E 58 (.inr (9, [.int 0, .ref 59, .ref 60, .ref 61, .ref 62, .ref 63, .int 0, .int 0, .int 0, .int 0, .int 0, .long 0, .int 0, .int 0, .int 0, .int (-1), .ref 64, .ref 65, .ref 66, .ref 67, .ref 68, .ref 69, .ref 70, .ref 71, .ref 72, .ref 73, .int 0, .ref 74, .ref 75, .ref 76, .int 0, .int 0, .ref 77, .ref 78, .ref 79, .int 0, .int 0, .int 0, .ref 80, .ref 81, .ref 82, .long 0, .ref 83, .int 0, .int 0, .int 0]))) 14 [(0, .ref 58), (1, .int 1)] [.int 1]
  refine jv_if_ne (tgt := 20) C dX9_back_14 (by decide) (fun _ => ?_) (fun h => absurd h (by decide))
  refine jv_aload_n C dX9_back_20 0 rfl ?_
  refine jv_getf (fk := 27) C (by decide) (va_up_self _ _ _) rfl in_X9_back_9 (by decide) (by decide +kernel) rfl rfl dX9_back_21 ?_
  refine jv_iload_n C dX9_back_24 1 rfl ?_
  refine jv_zald C (by decide) (jv_n (by decide) h74) (jv_vi (by decide)) dX9_back_25 ?_
  refine jv_ti (y := 0) (by decide) ?_
  refine jv_if_ne (tgt := 32) C dX9_back_26 (by decide) (fun h => absurd h (by decide)) (fun _ => ?_)
  refine jv_bipush (v := (-6)) C dX9_back_29 (by decide) ?_
  exact jv_iret C B rfl ⟨by decide, by decide⟩ dX9_back_31
set_option maxRecDepth 100000 in
set_option maxHeartbeats 8000000 in
theorem c_X9_keep_2 (l : Launch) (D : va_G) (kp : Nat → ClassId) {n : Nat} {E : Nat → jv_E} (h58 : E 58 = cx58) (h74 : E 74 = cx74) (h64 : E 64 = cx64) (h65 : E 65 = cx65) (h66 : E 66 = cx66) (h67 : E 67 = cx67) (h68 : E 68 = cx68) (h69 : E 69 = cx69) (h70 : E 70 = cx70) (h71 : E 71 = cx71) (h72 : E 72 = cx72) (h73 : E 73 = cx73)  : jv_M l D vwCl kp yX9_keep wsX9_keep rm3 [] [.ref 58, .int 2] n E 0 0 (fun r n1 E1 => some (.int 0) = r) := by
  refine jv_of (by decide) rfl (Nat.le_of_ble_eq_true rfl) (fun G C B hI hnl => ?_)
  show jv_V l D vwCl kp G 0 0 n E 0 [(0, .ref 58), (1, .int 2)] []
  refine jv_aload_n C dX9_keep_0 0 rfl ?_
  refine jv_iconst (v := 0) C dX9_keep_1 (by decide) ?_
  refine jv_putf (fk := 0) (ty := .int) (fs2 := [.int 0, .ref 59, .ref 60, .ref 61, .ref 62, .ref 63, .int 0, .int 0, .int 0, .int 0, .int 0, .long 0, .int 0, .int 0, .int 0, .int (-1), .ref 64, .ref 65, .ref 66, .ref 67, .ref 68, .ref 69, .ref 70, .ref 71, .ref 72, .ref 73, .int 0, .ref 74, .ref 75, .ref 76, .int 0, .int 0, .ref 77, .ref 78, .ref 79, .int 0, .int 0, .int 0, .ref 80, .ref 81, .ref 82, .long 0, .ref 83, .int 0, .int 0, .int 0]) C (by decide) h58 rfl in_X9_keep_9 tyX9 tyX9_ok nmX9 (by decide) (by decide +kernel) rfl rfl rfl (fun _ => rfl) (fun _ => rfl) (Nat.le_of_ble_eq_true rfl) dX9_keep_2 rfl ?_
  refine jv_iload_n C dX9_keep_5 1 rfl ?_
  refine jv_i2l C dX9_keep_6 ?_
  refine jv_tl (y := 2) (by decide) ?_
  refine jv_lconst (v := 0) C dX9_keep_7 (by decide) ?_
  refine jv_ldc2 (v := 2) C dX9_keep_8 (by decide +kernel) ?_
  refine jv_callS (na := 3) (As := [.long 2, .long 0, .long 2]) (st := []) C (c_X9_in l D kp 2 0 2 2 0 2 (by decide) (by decide) (by decide)) gX9_keep_X9_in rfl rfl rfl q_X9_in rfl ⟨by decide, by decide⟩ ⟨by decide, by decide⟩ (fun _ h => absurd h List.not_mem_nil) (Nat.le_of_ble_eq_true rfl) rfl dX9_keep_11 (fun r n1 E_1 hp _ => ?_)
  obtain ⟨hq, rfl, rfl⟩ := hp
  obtain ⟨rfl, q2⟩ := hq.resolve_right (fun h => absurd h.2 (by skip; omega))
  show jv_V l D vwCl kp G 0 0 n (va_up E 58 (.inr (9, [.int 0, .ref 59, .ref 60, .ref 61, .ref 62, .ref 63, .int 0, .int 0, .int 0, .int 0, .int 0, .long 0, .int 0, .int 0, .int 0, .int (-1), .ref 64, .ref 65, .ref 66, .ref 67, .ref 68, .ref 69, .ref 70, .ref 71, .ref 72, .ref 73, .int 0, .ref 74, .ref 75, .ref 76, .int 0, .int 0, .ref 77, .ref 78, .ref 79, .int 0, .int 0, .int 0, .ref 80, .ref 81, .ref 82, .long 0, .ref 83, .int 0, .int 0, .int 0]))) 14 [(0, .ref 58), (1, .int 2)] [.int 1]
  refine jv_if_ne (tgt := 20) C dX9_keep_14 (by decide) (fun _ => ?_) (fun h => absurd h (by decide))
  refine jv_aload_n C dX9_keep_20 0 rfl ?_
  refine jv_iconst (v := 0) C dX9_keep_21 (by decide) ?_
  refine jv_iconst (v := 1) C dX9_keep_22 (by decide) ?_
  refine jv_iload_n C dX9_keep_23 1 rfl ?_
  refine jv_iadd C dX9_keep_24 ?_
  refine jv_ti (y := 3) (by decide) ?_
  refine jv_callV (na := 2) (As := [.int 0, .int 3]) (st := []) C (c_X9_copyCity_0_3 l D kp (va_up_self _ _ _) (jv_n (by decide) h64) (jv_n (by decide) h65) (jv_n (by decide) h66) (jv_n (by decide) h67) (jv_n (by decide) h68) (jv_n (by decide) h69) (jv_n (by decide) h70) (jv_n (by decide) h71) (jv_n (by decide) h72) (jv_n (by decide) h73)  ) gX9_keep_X9_copyCity rfl (by decide) (va_up_self _ _ _) rfl rfl rfl q_X9_copyCity rfl ⟨by decide, by decide⟩ ⟨by decide, by decide⟩ (fun _ h => absurd h List.not_mem_nil) (Nat.le_of_ble_eq_true rfl) rfl dX9_keep_25 (fun r n1 E_3 hp _ => ?_)
  obtain ⟨rfl, rfl, hf4, ⟨g_15, e5⟩, ⟨g_16, e6⟩, ⟨g_17, e7⟩, ⟨g_18, e8⟩, ⟨g_19, e9⟩, ⟨g_20, e10⟩, ⟨g_21, e11⟩, ⟨g_22, e12⟩, ⟨g_23, e13⟩, ⟨g_24, e14⟩⟩ := hp
  show jv_V l D vwCl kp G 0 0 n E_3 28 [(0, .ref 58), (1, .int 2)] []
  refine jv_aload_n C dX9_keep_28 0 rfl ?_
  refine jv_getf (fk := 27) C (by decide) ((hf4 58 (by decide) (by decide) (by decide) (by decide) (by decide) (by decide) (by decide) (by decide) (by decide) (by decide)).trans (va_up_self _ _ _)) rfl in_X9_keep_9 (by decide) (by decide +kernel) rfl rfl dX9_keep_29 ?_
  refine jv_iload_n C dX9_keep_32 1 rfl ?_
  refine jv_iconst (v := 1) C dX9_keep_33 (by decide) ?_
  refine jv_zast C (by decide) ((hf4 74 (by decide) (by decide) (by decide) (by decide) (by decide) (by decide) (by decide) (by decide) (by decide) (by decide)).trans (jv_n (by decide) h74)) (jv_vi (by decide)) dX9_keep_34 ?_
  refine jv_iconst (v := 0) C dX9_keep_35 (by decide) ?_
  exact jv_iret C B rfl ⟨by decide, by decide⟩ dX9_keep_36
set_option maxRecDepth 100000 in
set_option maxHeartbeats 8000000 in
theorem c_X9_back_2 (l : Launch) (D : va_G) (kp : Nat → ClassId) {n : Nat} {E : Nat → jv_E} (h58 : E 58 = cx58) (h74 : E 74 = cx74)  : jv_M l D vwCl kp yX9_back wsX9_back rm2 [] [.ref 58, .int 2] n E 0 0 (fun r n1 E1 => some (.int (-6)) = r) := by
  refine jv_of (by decide) rfl (Nat.le_of_ble_eq_true rfl) (fun G C B hI hnl => ?_)
  show jv_V l D vwCl kp G 0 0 n E 0 [(0, .ref 58), (1, .int 2)] []
  refine jv_aload_n C dX9_back_0 0 rfl ?_
  refine jv_iconst (v := 0) C dX9_back_1 (by decide) ?_
  refine jv_putf (fk := 0) (ty := .int) (fs2 := [.int 0, .ref 59, .ref 60, .ref 61, .ref 62, .ref 63, .int 0, .int 0, .int 0, .int 0, .int 0, .long 0, .int 0, .int 0, .int 0, .int (-1), .ref 64, .ref 65, .ref 66, .ref 67, .ref 68, .ref 69, .ref 70, .ref 71, .ref 72, .ref 73, .int 0, .ref 74, .ref 75, .ref 76, .int 0, .int 0, .ref 77, .ref 78, .ref 79, .int 0, .int 0, .int 0, .ref 80, .ref 81, .ref 82, .long 0, .ref 83, .int 0, .int 0, .int 0]) C (by decide) h58 rfl in_X9_back_9 tyX9 tyX9_ok nmX9 (by decide) (by decide +kernel) rfl rfl rfl (fun _ => rfl) (fun _ => rfl) (Nat.le_of_ble_eq_true rfl) dX9_back_2 rfl ?_
  refine jv_iload_n C dX9_back_5 1 rfl ?_
  refine jv_i2l C dX9_back_6 ?_
  refine jv_tl (y := 2) (by decide) ?_
  refine jv_lconst (v := 0) C dX9_back_7 (by decide) ?_
  refine jv_ldc2 (v := 2) C dX9_back_8 (by decide +kernel) ?_
  refine jv_callS (na := 3) (As := [.long 2, .long 0, .long 2]) (st := []) C (c_X9_in l D kp 2 0 2 2 0 2 (by decide) (by decide) (by decide)) gX9_back_X9_in rfl rfl rfl q_X9_in rfl ⟨by decide, by decide⟩ ⟨by decide, by decide⟩ (fun _ h => absurd h List.not_mem_nil) (Nat.le_of_ble_eq_true rfl) rfl dX9_back_11 (fun r n1 E_1 hp _ => ?_)
  obtain ⟨hq, rfl, rfl⟩ := hp
  obtain ⟨rfl, q2⟩ := hq.resolve_right (fun h => absurd h.2 (by skip; omega))
  show jv_V l D vwCl kp G 0 0 n (va_up E 58 (.inr (9, [.int 0, .ref 59, .ref 60, .ref 61, .ref 62, .ref 63, .int 0, .int 0, .int 0, .int 0, .int 0, .long 0, .int 0, .int 0, .int 0, .int (-1), .ref 64, .ref 65, .ref 66, .ref 67, .ref 68, .ref 69, .ref 70, .ref 71, .ref 72, .ref 73, .int 0, .ref 74, .ref 75, .ref 76, .int 0, .int 0, .ref 77, .ref 78, .ref 79, .int 0, .int 0, .int 0, .ref 80, .ref 81, .ref 82, .long 0, .ref 83, .int 0, .int 0, .int 0]))) 14 [(0, .ref 58), (1, .int 2)] [.int 1]
  refine jv_if_ne (tgt := 20) C dX9_back_14 (by decide) (fun _ => ?_) (fun h => absurd h (by decide))
  refine jv_aload_n C dX9_back_20 0 rfl ?_
  refine jv_getf (fk := 27) C (by decide) (va_up_self _ _ _) rfl in_X9_back_9 (by decide) (by decide +kernel) rfl rfl dX9_back_21 ?_
  refine jv_iload_n C dX9_back_24 1 rfl ?_
  refine jv_zald C (by decide) (jv_n (by decide) h74) (jv_vi (by decide)) dX9_back_25 ?_
  refine jv_ti (y := 0) (by decide) ?_
  refine jv_if_ne (tgt := 32) C dX9_back_26 (by decide) (fun h => absurd h (by decide)) (fun _ => ?_)
  refine jv_bipush (v := (-6)) C dX9_back_29 (by decide) ?_
  exact jv_iret C B rfl ⟨by decide, by decide⟩ dX9_back_31
set_option maxRecDepth 100000 in
set_option maxHeartbeats 8000000 in
theorem c_X9_keep_neg (l : Launch) (D : va_G) (kp : Nat → ClassId) {n : Nat} {E : Nat → jv_E} (h58 : E 58 = cx58) (p1 : Int32) (ho : p1.toInt < 0) : jv_M l D vwCl kp yX9_keep wsX9_keep rm2 [] [.ref 58, .int p1] n E 0 0 (fun r n1 E1 => some (.int (-2)) = r) := by
  refine jv_of (by decide) rfl (Nat.le_of_ble_eq_true rfl) (fun G C B hI hnl => ?_)
  show jv_V l D vwCl kp G 0 0 n E 0 [(0, .ref 58), (1, .int p1)] []
  refine jv_aload_n C dX9_keep_0 0 rfl ?_
  refine jv_iconst (v := 0) C dX9_keep_1 (by decide) ?_
  refine jv_putf (fk := 0) (ty := .int) (fs2 := [.int 0, .ref 59, .ref 60, .ref 61, .ref 62, .ref 63, .int 0, .int 0, .int 0, .int 0, .int 0, .long 0, .int 0, .int 0, .int 0, .int (-1), .ref 64, .ref 65, .ref 66, .ref 67, .ref 68, .ref 69, .ref 70, .ref 71, .ref 72, .ref 73, .int 0, .ref 74, .ref 75, .ref 76, .int 0, .int 0, .ref 77, .ref 78, .ref 79, .int 0, .int 0, .int 0, .ref 80, .ref 81, .ref 82, .long 0, .ref 83, .int 0, .int 0, .int 0]) C (by decide) h58 rfl in_X9_keep_9 tyX9 tyX9_ok nmX9 (by decide) (by decide +kernel) rfl rfl rfl (fun _ => rfl) (fun _ => rfl) (Nat.le_of_ble_eq_true rfl) dX9_keep_2 rfl ?_
  refine jv_iload_n C dX9_keep_5 1 rfl ?_
  refine jv_i2l C dX9_keep_6 ?_
  refine jv_lconst (v := 0) C dX9_keep_7 (by decide) ?_
  refine jv_ldc2 (v := 2) C dX9_keep_8 (by decide +kernel) ?_
  refine jv_callS (na := 3) (As := [.long p1.toInt64, .long 0, .long 2]) (st := []) C (c_X9_in l D kp p1.toInt64 0 2 p1.toInt 0 2 (jv_t64 p1) (by decide) (by decide)) gX9_keep_X9_in rfl rfl rfl q_X9_in rfl ⟨by decide, by decide⟩ ⟨by decide, by decide⟩ (fun _ h => absurd h List.not_mem_nil) (Nat.le_of_ble_eq_true rfl) rfl dX9_keep_11 (fun r n1 E_1 hp _ => ?_)
  obtain ⟨hq, rfl, rfl⟩ := hp
  obtain ⟨rfl, q2⟩ := hq.resolve_left (fun h => absurd h.2 (by have a0 := ho; omega))
  show jv_V l D vwCl kp G 0 0 n (va_up E 58 (.inr (9, [.int 0, .ref 59, .ref 60, .ref 61, .ref 62, .ref 63, .int 0, .int 0, .int 0, .int 0, .int 0, .long 0, .int 0, .int 0, .int 0, .int (-1), .ref 64, .ref 65, .ref 66, .ref 67, .ref 68, .ref 69, .ref 70, .ref 71, .ref 72, .ref 73, .int 0, .ref 74, .ref 75, .ref 76, .int 0, .int 0, .ref 77, .ref 78, .ref 79, .int 0, .int 0, .int 0, .ref 80, .ref 81, .ref 82, .long 0, .ref 83, .int 0, .int 0, .int 0]))) 14 [(0, .ref 58), (1, .int p1)] [.int 0]
  refine jv_if_ne (tgt := 20) C dX9_keep_14 (by decide) (fun h => absurd h (by decide)) (fun _ => ?_)
  refine jv_bipush (v := (-2)) C dX9_keep_17 (by decide) ?_
  exact jv_iret C B rfl ⟨by decide, by decide⟩ dX9_keep_19
set_option maxRecDepth 100000 in
set_option maxHeartbeats 8000000 in
theorem c_X9_back_neg (l : Launch) (D : va_G) (kp : Nat → ClassId) {n : Nat} {E : Nat → jv_E} (h58 : E 58 = cx58) (p1 : Int32) (ho : p1.toInt < 0) : jv_M l D vwCl kp yX9_back wsX9_back rm2 [] [.ref 58, .int p1] n E 0 0 (fun r n1 E1 => some (.int (-2)) = r) := by
  refine jv_of (by decide) rfl (Nat.le_of_ble_eq_true rfl) (fun G C B hI hnl => ?_)
  show jv_V l D vwCl kp G 0 0 n E 0 [(0, .ref 58), (1, .int p1)] []
  refine jv_aload_n C dX9_back_0 0 rfl ?_
  refine jv_iconst (v := 0) C dX9_back_1 (by decide) ?_
  refine jv_putf (fk := 0) (ty := .int) (fs2 := [.int 0, .ref 59, .ref 60, .ref 61, .ref 62, .ref 63, .int 0, .int 0, .int 0, .int 0, .int 0, .long 0, .int 0, .int 0, .int 0, .int (-1), .ref 64, .ref 65, .ref 66, .ref 67, .ref 68, .ref 69, .ref 70, .ref 71, .ref 72, .ref 73, .int 0, .ref 74, .ref 75, .ref 76, .int 0, .int 0, .ref 77, .ref 78, .ref 79, .int 0, .int 0, .int 0, .ref 80, .ref 81, .ref 82, .long 0, .ref 83, .int 0, .int 0, .int 0]) C (by decide) h58 rfl in_X9_back_9 tyX9 tyX9_ok nmX9 (by decide) (by decide +kernel) rfl rfl rfl (fun _ => rfl) (fun _ => rfl) (Nat.le_of_ble_eq_true rfl) dX9_back_2 rfl ?_
  refine jv_iload_n C dX9_back_5 1 rfl ?_
  refine jv_i2l C dX9_back_6 ?_
  refine jv_lconst (v := 0) C dX9_back_7 (by decide) ?_
  refine jv_ldc2 (v := 2) C dX9_back_8 (by decide +kernel) ?_
  refine jv_callS (na := 3) (As := [.long p1.toInt64, .long 0, .long 2]) (st := []) C (c_X9_in l D kp p1.toInt64 0 2 p1.toInt 0 2 (jv_t64 p1) (by decide) (by decide)) gX9_back_X9_in rfl rfl rfl q_X9_in rfl ⟨by decide, by decide⟩ ⟨by decide, by decide⟩ (fun _ h => absurd h List.not_mem_nil) (Nat.le_of_ble_eq_true rfl) rfl dX9_back_11 (fun r n1 E_1 hp _ => ?_)
  obtain ⟨hq, rfl, rfl⟩ := hp
  obtain ⟨rfl, q2⟩ := hq.resolve_left (fun h => absurd h.2 (by have a0 := ho; omega))
  show jv_V l D vwCl kp G 0 0 n (va_up E 58 (.inr (9, [.int 0, .ref 59, .ref 60, .ref 61, .ref 62, .ref 63, .int 0, .int 0, .int 0, .int 0, .int 0, .long 0, .int 0, .int 0, .int 0, .int (-1), .ref 64, .ref 65, .ref 66, .ref 67, .ref 68, .ref 69, .ref 70, .ref 71, .ref 72, .ref 73, .int 0, .ref 74, .ref 75, .ref 76, .int 0, .int 0, .ref 77, .ref 78, .ref 79, .int 0, .int 0, .int 0, .ref 80, .ref 81, .ref 82, .long 0, .ref 83, .int 0, .int 0, .int 0]))) 14 [(0, .ref 58), (1, .int p1)] [.int 0]
  refine jv_if_ne (tgt := 20) C dX9_back_14 (by decide) (fun h => absurd h (by decide)) (fun _ => ?_)
  refine jv_bipush (v := (-2)) C dX9_back_17 (by decide) ?_
  exact jv_iret C B rfl ⟨by decide, by decide⟩ dX9_back_19
set_option maxRecDepth 100000 in
set_option maxHeartbeats 8000000 in
theorem c_X9_keep_big (l : Launch) (D : va_G) (kp : Nat → ClassId) {n : Nat} {E : Nat → jv_E} (h58 : E 58 = cx58) (p1 : Int32) (ho : 2 < p1.toInt) : jv_M l D vwCl kp yX9_keep wsX9_keep rm2 [] [.ref 58, .int p1] n E 0 0 (fun r n1 E1 => some (.int (-2)) = r) := by
  refine jv_of (by decide) rfl (Nat.le_of_ble_eq_true rfl) (fun G C B hI hnl => ?_)
  show jv_V l D vwCl kp G 0 0 n E 0 [(0, .ref 58), (1, .int p1)] []
  refine jv_aload_n C dX9_keep_0 0 rfl ?_
  refine jv_iconst (v := 0) C dX9_keep_1 (by decide) ?_
  refine jv_putf (fk := 0) (ty := .int) (fs2 := [.int 0, .ref 59, .ref 60, .ref 61, .ref 62, .ref 63, .int 0, .int 0, .int 0, .int 0, .int 0, .long 0, .int 0, .int 0, .int 0, .int (-1), .ref 64, .ref 65, .ref 66, .ref 67, .ref 68, .ref 69, .ref 70, .ref 71, .ref 72, .ref 73, .int 0, .ref 74, .ref 75, .ref 76, .int 0, .int 0, .ref 77, .ref 78, .ref 79, .int 0, .int 0, .int 0, .ref 80, .ref 81, .ref 82, .long 0, .ref 83, .int 0, .int 0, .int 0]) C (by decide) h58 rfl in_X9_keep_9 tyX9 tyX9_ok nmX9 (by decide) (by decide +kernel) rfl rfl rfl (fun _ => rfl) (fun _ => rfl) (Nat.le_of_ble_eq_true rfl) dX9_keep_2 rfl ?_
  refine jv_iload_n C dX9_keep_5 1 rfl ?_
  refine jv_i2l C dX9_keep_6 ?_
  refine jv_lconst (v := 0) C dX9_keep_7 (by decide) ?_
  refine jv_ldc2 (v := 2) C dX9_keep_8 (by decide +kernel) ?_
  refine jv_callS (na := 3) (As := [.long p1.toInt64, .long 0, .long 2]) (st := []) C (c_X9_in l D kp p1.toInt64 0 2 p1.toInt 0 2 (jv_t64 p1) (by decide) (by decide)) gX9_keep_X9_in rfl rfl rfl q_X9_in rfl ⟨by decide, by decide⟩ ⟨by decide, by decide⟩ (fun _ h => absurd h List.not_mem_nil) (Nat.le_of_ble_eq_true rfl) rfl dX9_keep_11 (fun r n1 E_1 hp _ => ?_)
  obtain ⟨hq, rfl, rfl⟩ := hp
  obtain ⟨rfl, q2⟩ := hq.resolve_left (fun h => absurd h.2 (by have a0 := ho; omega))
  show jv_V l D vwCl kp G 0 0 n (va_up E 58 (.inr (9, [.int 0, .ref 59, .ref 60, .ref 61, .ref 62, .ref 63, .int 0, .int 0, .int 0, .int 0, .int 0, .long 0, .int 0, .int 0, .int 0, .int (-1), .ref 64, .ref 65, .ref 66, .ref 67, .ref 68, .ref 69, .ref 70, .ref 71, .ref 72, .ref 73, .int 0, .ref 74, .ref 75, .ref 76, .int 0, .int 0, .ref 77, .ref 78, .ref 79, .int 0, .int 0, .int 0, .ref 80, .ref 81, .ref 82, .long 0, .ref 83, .int 0, .int 0, .int 0]))) 14 [(0, .ref 58), (1, .int p1)] [.int 0]
  refine jv_if_ne (tgt := 20) C dX9_keep_14 (by decide) (fun h => absurd h (by decide)) (fun _ => ?_)
  refine jv_bipush (v := (-2)) C dX9_keep_17 (by decide) ?_
  exact jv_iret C B rfl ⟨by decide, by decide⟩ dX9_keep_19
set_option maxRecDepth 100000 in
set_option maxHeartbeats 8000000 in
theorem c_X9_back_big (l : Launch) (D : va_G) (kp : Nat → ClassId) {n : Nat} {E : Nat → jv_E} (h58 : E 58 = cx58) (p1 : Int32) (ho : 2 < p1.toInt) : jv_M l D vwCl kp yX9_back wsX9_back rm2 [] [.ref 58, .int p1] n E 0 0 (fun r n1 E1 => some (.int (-2)) = r) := by
  refine jv_of (by decide) rfl (Nat.le_of_ble_eq_true rfl) (fun G C B hI hnl => ?_)
  show jv_V l D vwCl kp G 0 0 n E 0 [(0, .ref 58), (1, .int p1)] []
  refine jv_aload_n C dX9_back_0 0 rfl ?_
  refine jv_iconst (v := 0) C dX9_back_1 (by decide) ?_
  refine jv_putf (fk := 0) (ty := .int) (fs2 := [.int 0, .ref 59, .ref 60, .ref 61, .ref 62, .ref 63, .int 0, .int 0, .int 0, .int 0, .int 0, .long 0, .int 0, .int 0, .int 0, .int (-1), .ref 64, .ref 65, .ref 66, .ref 67, .ref 68, .ref 69, .ref 70, .ref 71, .ref 72, .ref 73, .int 0, .ref 74, .ref 75, .ref 76, .int 0, .int 0, .ref 77, .ref 78, .ref 79, .int 0, .int 0, .int 0, .ref 80, .ref 81, .ref 82, .long 0, .ref 83, .int 0, .int 0, .int 0]) C (by decide) h58 rfl in_X9_back_9 tyX9 tyX9_ok nmX9 (by decide) (by decide +kernel) rfl rfl rfl (fun _ => rfl) (fun _ => rfl) (Nat.le_of_ble_eq_true rfl) dX9_back_2 rfl ?_
  refine jv_iload_n C dX9_back_5 1 rfl ?_
  refine jv_i2l C dX9_back_6 ?_
  refine jv_lconst (v := 0) C dX9_back_7 (by decide) ?_
  refine jv_ldc2 (v := 2) C dX9_back_8 (by decide +kernel) ?_
  refine jv_callS (na := 3) (As := [.long p1.toInt64, .long 0, .long 2]) (st := []) C (c_X9_in l D kp p1.toInt64 0 2 p1.toInt 0 2 (jv_t64 p1) (by decide) (by decide)) gX9_back_X9_in rfl rfl rfl q_X9_in rfl ⟨by decide, by decide⟩ ⟨by decide, by decide⟩ (fun _ h => absurd h List.not_mem_nil) (Nat.le_of_ble_eq_true rfl) rfl dX9_back_11 (fun r n1 E_1 hp _ => ?_)
  obtain ⟨hq, rfl, rfl⟩ := hp
  obtain ⟨rfl, q2⟩ := hq.resolve_left (fun h => absurd h.2 (by have a0 := ho; omega))
  show jv_V l D vwCl kp G 0 0 n (va_up E 58 (.inr (9, [.int 0, .ref 59, .ref 60, .ref 61, .ref 62, .ref 63, .int 0, .int 0, .int 0, .int 0, .int 0, .long 0, .int 0, .int 0, .int 0, .int (-1), .ref 64, .ref 65, .ref 66, .ref 67, .ref 68, .ref 69, .ref 70, .ref 71, .ref 72, .ref 73, .int 0, .ref 74, .ref 75, .ref 76, .int 0, .int 0, .ref 77, .ref 78, .ref 79, .int 0, .int 0, .int 0, .ref 80, .ref 81, .ref 82, .long 0, .ref 83, .int 0, .int 0, .int 0]))) 14 [(0, .ref 58), (1, .int p1)] [.int 0]
  refine jv_if_ne (tgt := 20) C dX9_back_14 (by decide) (fun h => absurd h (by decide)) (fun _ => ?_)
  refine jv_bipush (v := (-2)) C dX9_back_17 (by decide) ?_
  exact jv_iret C B rfl ⟨by decide, by decide⟩ dX9_back_19
theorem in_X9_write_9 : ∀ w ∈ u_ws RX9 TX9 46, w ∈ wsX9_write := by decide +kernel
set_option maxRecDepth 100000 in
set_option maxHeartbeats 8000000 in
theorem c_X9_write (l : Launch) (D : va_G) (kp : Nat → ClassId) {n : Nat} {E : Nat → jv_E} (h58 : E 58 = cx58) (h59 : E 59 = cx59) (p1 : Int32) (p2 : Int32) (p3 : Int64) : jv_M l D vwCl kp yX9_write wsX9_write rm3 [] [.ref 58, .int p1, .int p2, .long p3] n E 0 0 (fun r n1 E1 => some (.int (jr_slot p1)) = r) := by
  refine jv_of (by decide) rfl (Nat.le_of_ble_eq_true rfl) (fun G C B hI hnl => ?_)
  show jv_V l D vwCl kp G 0 0 n E 0 [(0, .ref 58), (1, .int p1), (2, .int p2), (3, .long p3)] []
  refine jv_aload_n C dX9_write_0 0 rfl ?_
  refine jv_iconst (v := 0) C dX9_write_1 (by decide) ?_
  refine jv_putf (fk := 0) (ty := .int) (fs2 := [.int 0, .ref 59, .ref 60, .ref 61, .ref 62, .ref 63, .int 0, .int 0, .int 0, .int 0, .int 0, .long 0, .int 0, .int 0, .int 0, .int (-1), .ref 64, .ref 65, .ref 66, .ref 67, .ref 68, .ref 69, .ref 70, .ref 71, .ref 72, .ref 73, .int 0, .ref 74, .ref 75, .ref 76, .int 0, .int 0, .ref 77, .ref 78, .ref 79, .int 0, .int 0, .int 0, .ref 80, .ref 81, .ref 82, .long 0, .ref 83, .int 0, .int 0, .int 0]) C (by decide) h58 rfl in_X9_write_9 tyX9 tyX9_ok nmX9 (by decide) (by decide +kernel) rfl rfl rfl (fun _ => rfl) (fun _ => rfl) (Nat.le_of_ble_eq_true rfl) dX9_write_2 rfl ?_
  refine jv_iload_n C dX9_write_5 1 rfl ?_
  refine jv_callS (na := 1) (As := [.int p1]) (st := []) C (c_X9_isSlot l D kp  p1) gX9_write_X9_isSlot rfl rfl rfl q_X9_isSlot rfl ⟨by decide, by decide⟩ ⟨by decide, by decide⟩ (fun _ h => absurd h List.not_mem_nil) (Nat.le_of_ble_eq_true rfl) rfl dX9_write_6 (fun r n1 E_1 hp _ => ?_)
  obtain ⟨⟨rfl, q2⟩ | ⟨rfl, q2⟩, rfl, rfl⟩ := hp
  · show jv_V l D vwCl kp G 0 0 n (va_up E 58 (.inr (9, [.int 0, .ref 59, .ref 60, .ref 61, .ref 62, .ref 63, .int 0, .int 0, .int 0, .int 0, .int 0, .long 0, .int 0, .int 0, .int 0, .int (-1), .ref 64, .ref 65, .ref 66, .ref 67, .ref 68, .ref 69, .ref 70, .ref 71, .ref 72, .ref 73, .int 0, .ref 74, .ref 75, .ref 76, .int 0, .int 0, .ref 77, .ref 78, .ref 79, .int 0, .int 0, .int 0, .ref 80, .ref 81, .ref 82, .long 0, .ref 83, .int 0, .int 0, .int 0]))) 9 [(0, .ref 58), (1, .int p1), (2, .int p2), (3, .long p3)] [.int 1]
    refine jv_if_ne (tgt := 15) C dX9_write_9 (by decide) (fun _ => ?_) (fun h => absurd h (by decide))
    refine jv_aload_n C dX9_write_15 0 rfl ?_
    refine jv_getf (fk := 1) C (by decide) (va_up_self _ _ _) rfl in_X9_write_9 (by decide) (by decide +kernel) rfl rfl dX9_write_16 ?_
    refine jv_iload_n C dX9_write_19 1 rfl ?_
    refine jv_iald C (by decide) (jv_n (by decide) h59) (vp_in_iff.mpr (by have a0 := q2; omega)) dX9_write_20 ?_
    refine jv_ti (y := (-1)) (jx_w4 (vp_in_iff.mpr (by have a0 := q2; omega))) ?_
    refine jv_iconst (v := (-1)) C dX9_write_21 (by decide) ?_
    refine jv_icmp_ne (tgt := 28) C dX9_write_22 (by decide) (fun h => absurd h (by decide)) (fun _ => ?_)
    refine jv_bipush (v := (-6)) C dX9_write_25 (by decide) ?_
    exact jv_iret C B (by have a0 := q2; simp only [jr_slot]; (repeat' split) <;> first | rfl | (exfalso; omega)) ⟨by decide, by decide⟩ dX9_write_27
  · show jv_V l D vwCl kp G 0 0 n (va_up E 58 (.inr (9, [.int 0, .ref 59, .ref 60, .ref 61, .ref 62, .ref 63, .int 0, .int 0, .int 0, .int 0, .int 0, .long 0, .int 0, .int 0, .int 0, .int (-1), .ref 64, .ref 65, .ref 66, .ref 67, .ref 68, .ref 69, .ref 70, .ref 71, .ref 72, .ref 73, .int 0, .ref 74, .ref 75, .ref 76, .int 0, .int 0, .ref 77, .ref 78, .ref 79, .int 0, .int 0, .int 0, .ref 80, .ref 81, .ref 82, .long 0, .ref 83, .int 0, .int 0, .int 0]))) 9 [(0, .ref 58), (1, .int p1), (2, .int p2), (3, .long p3)] [.int 0]
    refine jv_if_ne (tgt := 15) C dX9_write_9 (by decide) (fun h => absurd h (by decide)) (fun _ => ?_)
    refine jv_bipush (v := (-2)) C dX9_write_12 (by decide) ?_
    exact jv_iret C B (by have a0 := q2; simp only [jr_slot]; (repeat' split) <;> first | rfl | (exfalso; omega)) ⟨by decide, by decide⟩ dX9_write_14
theorem in_X9_paste_9 : ∀ w ∈ u_ws RX9 TX9 46, w ∈ wsX9_paste := by decide +kernel
set_option maxRecDepth 100000 in
set_option maxHeartbeats 8000000 in
theorem c_X9_paste (l : Launch) (D : va_G) (kp : Nat → ClassId) {n : Nat} {E : Nat → jv_E} (h58 : E 58 = cx58) (h59 : E 59 = cx59) (p1 : Int32) (p2 : Int32) (p3 : Int32) (p4 : Int32) (p5 : Int32) : jv_M l D vwCl kp yX9_paste wsX9_paste rm3 [] [.ref 58, .int p1, .int p2, .int p3, .int p4, .int p5] n E 0 0 (fun r n1 E1 => some (.int (jr_paste p1 p3)) = r) := by
  refine jv_of (by decide) rfl (Nat.le_of_ble_eq_true rfl) (fun G C B hI hnl => ?_)
  show jv_V l D vwCl kp G 0 0 n E 0 [(0, .ref 58), (1, .int p1), (2, .int p2), (3, .int p3), (4, .int p4), (5, .int p5)] []
  refine jv_aload_n C dX9_paste_0 0 rfl ?_
  refine jv_iconst (v := 0) C dX9_paste_1 (by decide) ?_
  refine jv_putf (fk := 0) (ty := .int) (fs2 := [.int 0, .ref 59, .ref 60, .ref 61, .ref 62, .ref 63, .int 0, .int 0, .int 0, .int 0, .int 0, .long 0, .int 0, .int 0, .int 0, .int (-1), .ref 64, .ref 65, .ref 66, .ref 67, .ref 68, .ref 69, .ref 70, .ref 71, .ref 72, .ref 73, .int 0, .ref 74, .ref 75, .ref 76, .int 0, .int 0, .ref 77, .ref 78, .ref 79, .int 0, .int 0, .int 0, .ref 80, .ref 81, .ref 82, .long 0, .ref 83, .int 0, .int 0, .int 0]) C (by decide) h58 rfl in_X9_paste_9 tyX9 tyX9_ok nmX9 (by decide) (by decide +kernel) rfl rfl rfl (fun _ => rfl) (fun _ => rfl) (Nat.le_of_ble_eq_true rfl) dX9_paste_2 rfl ?_
  refine jv_iload_n C dX9_paste_5 1 rfl ?_
  refine jv_callS (na := 1) (As := [.int p1]) (st := []) C (c_X9_isSlot l D kp  p1) gX9_paste_X9_isSlot rfl rfl rfl q_X9_isSlot rfl ⟨by decide, by decide⟩ ⟨by decide, by decide⟩ (fun _ h => absurd h List.not_mem_nil) (Nat.le_of_ble_eq_true rfl) rfl dX9_paste_6 (fun r n1 E_1 hp _ => ?_)
  obtain ⟨⟨rfl, q2⟩ | ⟨rfl, q2⟩, rfl, rfl⟩ := hp
  · show jv_V l D vwCl kp G 0 0 n (va_up E 58 (.inr (9, [.int 0, .ref 59, .ref 60, .ref 61, .ref 62, .ref 63, .int 0, .int 0, .int 0, .int 0, .int 0, .long 0, .int 0, .int 0, .int 0, .int (-1), .ref 64, .ref 65, .ref 66, .ref 67, .ref 68, .ref 69, .ref 70, .ref 71, .ref 72, .ref 73, .int 0, .ref 74, .ref 75, .ref 76, .int 0, .int 0, .ref 77, .ref 78, .ref 79, .int 0, .int 0, .int 0, .ref 80, .ref 81, .ref 82, .long 0, .ref 83, .int 0, .int 0, .int 0]))) 9 [(0, .ref 58), (1, .int p1), (2, .int p2), (3, .int p3), (4, .int p4), (5, .int p5)] [.int 1]
    refine jv_if_eq (tgt := 19) C dX9_paste_9 (by decide) (fun h => absurd h (by decide)) (fun _ => ?_)
    refine jv_iload_n C dX9_paste_12 3 rfl ?_
    refine jv_callS (na := 1) (As := [.int p3]) (st := []) C (c_X9_isSlot l D kp  p3) gX9_paste_X9_isSlot rfl rfl rfl q_X9_isSlot rfl ⟨by decide, by decide⟩ ⟨by decide, by decide⟩ (fun _ h => absurd h List.not_mem_nil) (Nat.le_of_ble_eq_true rfl) rfl dX9_paste_13 (fun r n1 E_3 hp _ => ?_)
    obtain ⟨⟨rfl, q4⟩ | ⟨rfl, q4⟩, rfl, rfl⟩ := hp
    · show jv_V l D vwCl kp G 0 0 n (va_up E 58 (.inr (9, [.int 0, .ref 59, .ref 60, .ref 61, .ref 62, .ref 63, .int 0, .int 0, .int 0, .int 0, .int 0, .long 0, .int 0, .int 0, .int 0, .int (-1), .ref 64, .ref 65, .ref 66, .ref 67, .ref 68, .ref 69, .ref 70, .ref 71, .ref 72, .ref 73, .int 0, .ref 74, .ref 75, .ref 76, .int 0, .int 0, .ref 77, .ref 78, .ref 79, .int 0, .int 0, .int 0, .ref 80, .ref 81, .ref 82, .long 0, .ref 83, .int 0, .int 0, .int 0]))) 16 [(0, .ref 58), (1, .int p1), (2, .int p2), (3, .int p3), (4, .int p4), (5, .int p5)] [.int 1]
      refine jv_if_ne (tgt := 22) C dX9_paste_16 (by decide) (fun _ => ?_) (fun h => absurd h (by decide))
      refine jv_aload_n C dX9_paste_22 0 rfl ?_
      refine jv_getf (fk := 1) C (by decide) (va_up_self _ _ _) rfl in_X9_paste_9 (by decide) (by decide +kernel) rfl rfl dX9_paste_23 ?_
      refine jv_iload_n C dX9_paste_26 1 rfl ?_
      refine jv_iald C (by decide) (jv_n (by decide) h59) (vp_in_iff.mpr (by have a0 := q2; have a1 := q4; omega)) dX9_paste_27 ?_
      refine jv_ti (y := (-1)) (jx_w4 (vp_in_iff.mpr (by have a0 := q2; have a1 := q4; omega))) ?_
      refine jv_iconst (v := (-1)) C dX9_paste_28 (by decide) ?_
      refine jv_icmp_eq (tgt := 42) C dX9_paste_29 (by decide) (fun _ => ?_) (fun h => absurd (by decide) h)
      refine jv_bipush (v := (-6)) C dX9_paste_42 (by decide) ?_
      exact jv_iret C B (by have a0 := q2; have a1 := q4; simp only [jr_paste]; (repeat' split) <;> first | rfl | (exfalso; omega)) ⟨by decide, by decide⟩ dX9_paste_44
    · show jv_V l D vwCl kp G 0 0 n (va_up E 58 (.inr (9, [.int 0, .ref 59, .ref 60, .ref 61, .ref 62, .ref 63, .int 0, .int 0, .int 0, .int 0, .int 0, .long 0, .int 0, .int 0, .int 0, .int (-1), .ref 64, .ref 65, .ref 66, .ref 67, .ref 68, .ref 69, .ref 70, .ref 71, .ref 72, .ref 73, .int 0, .ref 74, .ref 75, .ref 76, .int 0, .int 0, .ref 77, .ref 78, .ref 79, .int 0, .int 0, .int 0, .ref 80, .ref 81, .ref 82, .long 0, .ref 83, .int 0, .int 0, .int 0]))) 16 [(0, .ref 58), (1, .int p1), (2, .int p2), (3, .int p3), (4, .int p4), (5, .int p5)] [.int 0]
      refine jv_if_ne (tgt := 22) C dX9_paste_16 (by decide) (fun h => absurd h (by decide)) (fun _ => ?_)
      refine jv_bipush (v := (-2)) C dX9_paste_19 (by decide) ?_
      exact jv_iret C B (by have a0 := q2; have a1 := q4; simp only [jr_paste]; (repeat' split) <;> first | rfl | (exfalso; omega)) ⟨by decide, by decide⟩ dX9_paste_21
  · show jv_V l D vwCl kp G 0 0 n (va_up E 58 (.inr (9, [.int 0, .ref 59, .ref 60, .ref 61, .ref 62, .ref 63, .int 0, .int 0, .int 0, .int 0, .int 0, .long 0, .int 0, .int 0, .int 0, .int (-1), .ref 64, .ref 65, .ref 66, .ref 67, .ref 68, .ref 69, .ref 70, .ref 71, .ref 72, .ref 73, .int 0, .ref 74, .ref 75, .ref 76, .int 0, .int 0, .ref 77, .ref 78, .ref 79, .int 0, .int 0, .int 0, .ref 80, .ref 81, .ref 82, .long 0, .ref 83, .int 0, .int 0, .int 0]))) 9 [(0, .ref 58), (1, .int p1), (2, .int p2), (3, .int p3), (4, .int p4), (5, .int p5)] [.int 0]
    refine jv_if_eq (tgt := 19) C dX9_paste_9 (by decide) (fun _ => ?_) (fun h => absurd (by decide) h)
    refine jv_bipush (v := (-2)) C dX9_paste_19 (by decide) ?_
    exact jv_iret C B (by have a0 := q2; simp only [jr_paste]; (repeat' split) <;> first | rfl | (exfalso; omega)) ⟨by decide, by decide⟩ dX9_paste_21
set_option maxRecDepth 100000 in
set_option maxHeartbeats 8000000 in
theorem c_X9_row (l : Launch) (D : va_G) (kp : Nat → ClassId) {n : Nat} {E : Nat → jv_E} (h58 : E 58 = cx58) (h59 : E 59 = cx59) (h60 : E 60 = cx60) (h61 : E 61 = cx61) (p1 : Int32) (p2 : Int32) (p3 : Int32) : jv_M l D vwCl kp yX9_row wsX9_row rm3 [] [.ref 58, .int p1, .int p2, .int p3] n E 0 0 (fun r n1 E1 => some (.int (jr_row p1 p2 p3)) = r) := by
  refine jv_of (by decide) rfl (Nat.le_of_ble_eq_true rfl) (fun G C B hI hnl => ?_)
  show jv_V l D vwCl kp G 0 0 n E 0 [(0, .ref 58), (1, .int p1), (2, .int p2), (3, .int p3)] []
  refine jv_aload_n C dX9_row_0 0 rfl ?_
  refine jv_iconst (v := 0) C dX9_row_1 (by decide) ?_
  refine jv_putf (fk := 0) (ty := .int) (fs2 := [.int 0, .ref 59, .ref 60, .ref 61, .ref 62, .ref 63, .int 0, .int 0, .int 0, .int 0, .int 0, .long 0, .int 0, .int 0, .int 0, .int (-1), .ref 64, .ref 65, .ref 66, .ref 67, .ref 68, .ref 69, .ref 70, .ref 71, .ref 72, .ref 73, .int 0, .ref 74, .ref 75, .ref 76, .int 0, .int 0, .ref 77, .ref 78, .ref 79, .int 0, .int 0, .int 0, .ref 80, .ref 81, .ref 82, .long 0, .ref 83, .int 0, .int 0, .int 0]) C (by decide) h58 rfl in_X9_row_9 tyX9 tyX9_ok nmX9 (by decide) (by decide +kernel) rfl rfl rfl (fun _ => rfl) (fun _ => rfl) (Nat.le_of_ble_eq_true rfl) dX9_row_2 rfl ?_
  refine jv_iload_n C dX9_row_5 1 rfl ?_
  refine jv_callS (na := 1) (As := [.int p1]) (st := []) C (c_X9_isSlot l D kp  p1) gX9_row_X9_isSlot rfl rfl rfl q_X9_isSlot rfl ⟨by decide, by decide⟩ ⟨by decide, by decide⟩ (fun _ h => absurd h List.not_mem_nil) (Nat.le_of_ble_eq_true rfl) rfl dX9_row_6 (fun r n1 E_1 hp _ => ?_)
  obtain ⟨⟨rfl, q2⟩ | ⟨rfl, q2⟩, rfl, rfl⟩ := hp
  · show jv_V l D vwCl kp G 0 0 n (va_up E 58 (.inr (9, [.int 0, .ref 59, .ref 60, .ref 61, .ref 62, .ref 63, .int 0, .int 0, .int 0, .int 0, .int 0, .long 0, .int 0, .int 0, .int 0, .int (-1), .ref 64, .ref 65, .ref 66, .ref 67, .ref 68, .ref 69, .ref 70, .ref 71, .ref 72, .ref 73, .int 0, .ref 74, .ref 75, .ref 76, .int 0, .int 0, .ref 77, .ref 78, .ref 79, .int 0, .int 0, .int 0, .ref 80, .ref 81, .ref 82, .long 0, .ref 83, .int 0, .int 0, .int 0]))) 9 [(0, .ref 58), (1, .int p1), (2, .int p2), (3, .int p3)] [.int 1]
    refine jv_if_eq (tgt := 30) C dX9_row_9 (by decide) (fun h => absurd h (by decide)) (fun _ => ?_)
    refine jv_iload_n C dX9_row_12 2 rfl ?_
    refine jv_i2l C dX9_row_13 ?_
    refine jv_lconst (v := 0) C dX9_row_14 (by decide) ?_
    refine jv_ldc2 (v := 3) C dX9_row_15 (by decide +kernel) ?_
    refine jv_callS (na := 3) (As := [.long p2.toInt64, .long 0, .long 3]) (st := []) C (c_X9_in l D kp p2.toInt64 0 3 p2.toInt 0 3 (jv_t64 p2) (by decide) (by decide)) gX9_row_X9_in rfl rfl rfl q_X9_in rfl ⟨by decide, by decide⟩ ⟨by decide, by decide⟩ (fun _ h => absurd h List.not_mem_nil) (Nat.le_of_ble_eq_true rfl) rfl dX9_row_18 (fun r n1 E_3 hp _ => ?_)
    obtain ⟨⟨rfl, q4⟩ | ⟨rfl, q4⟩, rfl, rfl⟩ := hp
    · show jv_V l D vwCl kp G 0 0 n (va_up E 58 (.inr (9, [.int 0, .ref 59, .ref 60, .ref 61, .ref 62, .ref 63, .int 0, .int 0, .int 0, .int 0, .int 0, .long 0, .int 0, .int 0, .int 0, .int (-1), .ref 64, .ref 65, .ref 66, .ref 67, .ref 68, .ref 69, .ref 70, .ref 71, .ref 72, .ref 73, .int 0, .ref 74, .ref 75, .ref 76, .int 0, .int 0, .ref 77, .ref 78, .ref 79, .int 0, .int 0, .int 0, .ref 80, .ref 81, .ref 82, .long 0, .ref 83, .int 0, .int 0, .int 0]))) 21 [(0, .ref 58), (1, .int p1), (2, .int p2), (3, .int p3)] [.int 1]
      refine jv_if_eq (tgt := 30) C dX9_row_21 (by decide) (fun h => absurd h (by decide)) (fun _ => ?_)
      refine jv_iload_n C dX9_row_24 3 rfl ?_
      refine jv_bipush (v := 60) C dX9_row_25 (by decide) ?_
      refine jv_icmp_le (tgt := 33) C dX9_row_27 (by decide) (fun c5 => ?_) (fun c5 => ?_)
      · refine jv_iload_n C dX9_row_33 3 rfl ?_
        refine jv_if_ge (tgt := 40) C dX9_row_34 (by decide) (fun c6 => ?_) (fun c6 => ?_)
        · refine jv_aload_n C dX9_row_40 0 rfl ?_
          refine jv_getf (fk := 1) C (by decide) (va_up_self _ _ _) rfl in_X9_row_9 (by decide) (by decide +kernel) rfl rfl dX9_row_41 ?_
          refine jv_iload_n C dX9_row_44 1 rfl ?_
          refine jv_iload_n C dX9_row_45 2 rfl ?_
          refine jv_iast C (by decide) (jv_n (by decide) h59) (vp_in_iff.mpr (by have a0 := q2; have a1 := q4; have a2 := jv_i_le c5; have a3 := jv_i_le c6; have z0 : (0 : Int32).toInt = 0 := (by decide); have z60 : (60 : Int32).toInt = 60 := (by decide); omega)) dX9_row_46 ?_
          refine jv_aload_n C dX9_row_47 0 rfl ?_
          refine jv_getf (fk := 2) C (by decide) (jv_n (by decide) (va_up_self _ _ _)) rfl in_X9_row_9 (by decide) (by decide +kernel) rfl rfl dX9_row_48 ?_
          refine jv_iload_n C dX9_row_51 1 rfl ?_
          refine jv_iload_n C dX9_row_52 3 rfl ?_
          refine jv_iast C (by decide) (jv_n (by decide) (jv_n (by decide) h60)) (vp_in_iff.mpr (by have a0 := q2; have a1 := q4; have a2 := jv_i_le c5; have a3 := jv_i_le c6; have z0 : (0 : Int32).toInt = 0 := (by decide); have z60 : (60 : Int32).toInt = 60 := (by decide); omega)) dX9_row_53 ?_
          refine jv_iconst (v := 0) C dX9_row_54 (by decide) ?_
          refine jv_istore (lv2 := [(4, .int 0), (0, .ref 58), (1, .int p1), (2, .int p2), (3, .int p3)]) C dX9_row_55 hnl (by decide) rfl ?_
          exact lp_row9 C hnl B (fun _ _ => (by have a0 := q2; have a1 := q4; have a2 := jv_i_le c5; have a3 := jv_i_le c6; have z0 : (0 : Int32).toInt = 0 := (by decide); have z60 : (60 : Int32).toInt = 60 := (by decide); simp only [jr_row]; (repeat' split) <;> first | rfl | (exfalso; omega))) rfl (by have a0 := q2; have a1 := q4; have a2 := jv_i_le c5; have a3 := jv_i_le c6; have z0 : (0 : Int32).toInt = 0 := (by decide); have z60 : (60 : Int32).toInt = 60 := (by decide); omega) (by have a0 := q2; have a1 := q4; have a2 := jv_i_le c5; have a3 := jv_i_le c6; have z0 : (0 : Int32).toInt = 0 := (by decide); have z60 : (60 : Int32).toInt = 60 := (by decide); omega) p3.toInt.toNat 0 _ _ (by have a0 := q2; have a1 := q4; have a2 := jv_i_le c5; have a3 := jv_i_le c6; have z0 : (0 : Int32).toInt = 0 := (by decide); have z60 : (60 : Int32).toInt = 60 := (by decide); have z0 : (0 : Int32).toInt = 0 := (by decide); omega) (by decide) (jv_n (by decide) (jv_n (by decide) (va_up_self _ _ _))) (jv_n (by decide) (jv_n (by decide) (jv_n (by decide) h61)))
        · refine jv_bipush (v := (-3)) C dX9_row_37 (by decide) ?_
          exact jv_iret C B (by have a0 := q2; have a1 := q4; have a2 := jv_i_le c5; have a3 := jv_i_nle c6; have z0 : (0 : Int32).toInt = 0 := (by decide); have z60 : (60 : Int32).toInt = 60 := (by decide); simp only [jr_row]; (repeat' split) <;> first | rfl | (exfalso; omega)) ⟨by decide, by decide⟩ dX9_row_39
      · refine jv_bipush (v := (-2)) C dX9_row_30 (by decide) ?_
        exact jv_iret C B (by have a0 := q2; have a1 := q4; have a2 := jv_i_nle c5; have z60 : (60 : Int32).toInt = 60 := (by decide); simp only [jr_row]; (repeat' split) <;> first | rfl | (exfalso; omega)) ⟨by decide, by decide⟩ dX9_row_32
    · show jv_V l D vwCl kp G 0 0 n (va_up E 58 (.inr (9, [.int 0, .ref 59, .ref 60, .ref 61, .ref 62, .ref 63, .int 0, .int 0, .int 0, .int 0, .int 0, .long 0, .int 0, .int 0, .int 0, .int (-1), .ref 64, .ref 65, .ref 66, .ref 67, .ref 68, .ref 69, .ref 70, .ref 71, .ref 72, .ref 73, .int 0, .ref 74, .ref 75, .ref 76, .int 0, .int 0, .ref 77, .ref 78, .ref 79, .int 0, .int 0, .int 0, .ref 80, .ref 81, .ref 82, .long 0, .ref 83, .int 0, .int 0, .int 0]))) 21 [(0, .ref 58), (1, .int p1), (2, .int p2), (3, .int p3)] [.int 0]
      refine jv_if_eq (tgt := 30) C dX9_row_21 (by decide) (fun _ => ?_) (fun h => absurd (by decide) h)
      refine jv_bipush (v := (-2)) C dX9_row_30 (by decide) ?_
      exact jv_iret C B (by have a0 := q2; have a1 := q4; simp only [jr_row]; (repeat' split) <;> first | rfl | (exfalso; omega)) ⟨by decide, by decide⟩ dX9_row_32
  · show jv_V l D vwCl kp G 0 0 n (va_up E 58 (.inr (9, [.int 0, .ref 59, .ref 60, .ref 61, .ref 62, .ref 63, .int 0, .int 0, .int 0, .int 0, .int 0, .long 0, .int 0, .int 0, .int 0, .int (-1), .ref 64, .ref 65, .ref 66, .ref 67, .ref 68, .ref 69, .ref 70, .ref 71, .ref 72, .ref 73, .int 0, .ref 74, .ref 75, .ref 76, .int 0, .int 0, .ref 77, .ref 78, .ref 79, .int 0, .int 0, .int 0, .ref 80, .ref 81, .ref 82, .long 0, .ref 83, .int 0, .int 0, .int 0]))) 9 [(0, .ref 58), (1, .int p1), (2, .int p2), (3, .int p3)] [.int 0]
    refine jv_if_eq (tgt := 30) C dX9_row_9 (by decide) (fun _ => ?_) (fun h => absurd (by decide) h)
    refine jv_bipush (v := (-2)) C dX9_row_30 (by decide) ?_
    exact jv_iret C B (by have a0 := q2; simp only [jr_row]; (repeat' split) <;> first | rfl | (exfalso; omega)) ⟨by decide, by decide⟩ dX9_row_32
theorem in_X9_count_9 : ∀ w ∈ u_ws RX9 TX9 46, w ∈ wsX9_count := by decide +kernel
set_option maxRecDepth 100000 in
set_option maxHeartbeats 8000000 in
theorem c_X9_count_0 (l : Launch) (D : va_G) (kp : Nat → ClassId) {n : Nat} {E : Nat → jv_E} (h58 : E 58 = cx58) (h65 : E 65 = cx65) (h70 : E 70 = cx70) (h64 : E 64 = cx64) (h59 : E 59 = cx59)  : jv_M l D vwCl kp yX9_count wsX9_count rm1 [] [.ref 58, .int 0] n E 0 0 (fun r n1 E1 => some (.int 0) = r) := by
  refine jv_of (by decide) rfl (Nat.le_of_ble_eq_true rfl) (fun G C B hI hnl => ?_)
  show jv_V l D vwCl kp G 0 0 n E 0 [(0, .ref 58), (1, .int 0)] []
  refine jv_aload_n C dX9_count_0 0 rfl ?_
  refine jv_iconst (v := 0) C dX9_count_1 (by decide) ?_
  refine jv_putf (fk := 0) (ty := .int) (fs2 := [.int 0, .ref 59, .ref 60, .ref 61, .ref 62, .ref 63, .int 0, .int 0, .int 0, .int 0, .int 0, .long 0, .int 0, .int 0, .int 0, .int (-1), .ref 64, .ref 65, .ref 66, .ref 67, .ref 68, .ref 69, .ref 70, .ref 71, .ref 72, .ref 73, .int 0, .ref 74, .ref 75, .ref 76, .int 0, .int 0, .ref 77, .ref 78, .ref 79, .int 0, .int 0, .int 0, .ref 80, .ref 81, .ref 82, .long 0, .ref 83, .int 0, .int 0, .int 0]) C (by decide) h58 rfl in_X9_count_9 tyX9 tyX9_ok nmX9 (by decide) (by decide +kernel) rfl rfl rfl (fun _ => rfl) (fun _ => rfl) (Nat.le_of_ble_eq_true rfl) dX9_count_2 rfl ?_
  refine jv_iconst (v := 0) C dX9_count_5 (by decide) ?_
  refine jv_istore_n (lv2 := [(2, .int 0), (0, .ref 58), (1, .int 0)]) C dX9_count_6 rfl hnl (by decide) rfl ?_
  refine jv_iload_n C dX9_count_7 2 rfl ?_
  refine jv_tabIn (tgt := 60) C dX9_count_8 (by decide) (by decide) rfl (by decide) ?_
  refine jv_aload_n C dX9_count_60 1 rfl ?_
  refine jv_getf (fk := 17) C (by decide) (va_up_self _ _ _) rfl in_X9_count_9 (by decide) (by decide +kernel) rfl rfl dX9_count_61 ?_
  refine jv_iconst (v := 0) C dX9_count_64 (by decide) ?_
  refine jv_iald C (by decide) (jv_n (by decide) h65) (jv_vi (by decide)) dX9_count_65 ?_
  refine jv_ti (y := 0) (by decide) ?_
  exact jv_iret C B rfl ⟨by decide, by decide⟩ dX9_count_66
set_option maxRecDepth 100000 in
set_option maxHeartbeats 8000000 in
theorem c_X9_count_1 (l : Launch) (D : va_G) (kp : Nat → ClassId) {n : Nat} {E : Nat → jv_E} (h58 : E 58 = cx58) (h65 : E 65 = cx65) (h70 : E 70 = cx70) (h64 : E 64 = cx64) (h59 : E 59 = cx59)  : jv_M l D vwCl kp yX9_count wsX9_count rm1 [] [.ref 58, .int 1] n E 0 0 (fun r n1 E1 => some (.int 0) = r) := by
  refine jv_of (by decide) rfl (Nat.le_of_ble_eq_true rfl) (fun G C B hI hnl => ?_)
  show jv_V l D vwCl kp G 0 0 n E 0 [(0, .ref 58), (1, .int 1)] []
  refine jv_aload_n C dX9_count_0 0 rfl ?_
  refine jv_iconst (v := 0) C dX9_count_1 (by decide) ?_
  refine jv_putf (fk := 0) (ty := .int) (fs2 := [.int 0, .ref 59, .ref 60, .ref 61, .ref 62, .ref 63, .int 0, .int 0, .int 0, .int 0, .int 0, .long 0, .int 0, .int 0, .int 0, .int (-1), .ref 64, .ref 65, .ref 66, .ref 67, .ref 68, .ref 69, .ref 70, .ref 71, .ref 72, .ref 73, .int 0, .ref 74, .ref 75, .ref 76, .int 0, .int 0, .ref 77, .ref 78, .ref 79, .int 0, .int 0, .int 0, .ref 80, .ref 81, .ref 82, .long 0, .ref 83, .int 0, .int 0, .int 0]) C (by decide) h58 rfl in_X9_count_9 tyX9 tyX9_ok nmX9 (by decide) (by decide +kernel) rfl rfl rfl (fun _ => rfl) (fun _ => rfl) (Nat.le_of_ble_eq_true rfl) dX9_count_2 rfl ?_
  refine jv_iconst (v := 0) C dX9_count_5 (by decide) ?_
  refine jv_istore_n (lv2 := [(2, .int 0), (0, .ref 58), (1, .int 1)]) C dX9_count_6 rfl hnl (by decide) rfl ?_
  refine jv_iload_n C dX9_count_7 2 rfl ?_
  refine jv_tabIn (tgt := 67) C dX9_count_8 (by decide) (by decide) rfl (by decide) ?_
  refine jv_aload_n C dX9_count_67 1 rfl ?_
  refine jv_getf (fk := 22) C (by decide) (va_up_self _ _ _) rfl in_X9_count_9 (by decide) (by decide +kernel) rfl rfl dX9_count_68 ?_
  refine jv_iconst (v := 1) C dX9_count_71 (by decide) ?_
  refine jv_iald C (by decide) (jv_n (by decide) h70) (jv_vi (by decide)) dX9_count_72 ?_
  refine jv_ti (y := 0) (by decide) ?_
  exact jv_iret C B rfl ⟨by decide, by decide⟩ dX9_count_73
set_option maxRecDepth 100000 in
set_option maxHeartbeats 8000000 in
theorem c_X9_count_2 (l : Launch) (D : va_G) (kp : Nat → ClassId) {n : Nat} {E : Nat → jv_E} (h58 : E 58 = cx58) (h65 : E 65 = cx65) (h70 : E 70 = cx70) (h64 : E 64 = cx64) (h59 : E 59 = cx59)  : jv_M l D vwCl kp yX9_count wsX9_count rm1 [] [.ref 58, .int 2] n E 0 0 (fun r n1 E1 => some (.int 0) = r) := by
  refine jv_of (by decide) rfl (Nat.le_of_ble_eq_true rfl) (fun G C B hI hnl => ?_)
  show jv_V l D vwCl kp G 0 0 n E 0 [(0, .ref 58), (1, .int 2)] []
  refine jv_aload_n C dX9_count_0 0 rfl ?_
  refine jv_iconst (v := 0) C dX9_count_1 (by decide) ?_
  refine jv_putf (fk := 0) (ty := .int) (fs2 := [.int 0, .ref 59, .ref 60, .ref 61, .ref 62, .ref 63, .int 0, .int 0, .int 0, .int 0, .int 0, .long 0, .int 0, .int 0, .int 0, .int (-1), .ref 64, .ref 65, .ref 66, .ref 67, .ref 68, .ref 69, .ref 70, .ref 71, .ref 72, .ref 73, .int 0, .ref 74, .ref 75, .ref 76, .int 0, .int 0, .ref 77, .ref 78, .ref 79, .int 0, .int 0, .int 0, .ref 80, .ref 81, .ref 82, .long 0, .ref 83, .int 0, .int 0, .int 0]) C (by decide) h58 rfl in_X9_count_9 tyX9 tyX9_ok nmX9 (by decide) (by decide +kernel) rfl rfl rfl (fun _ => rfl) (fun _ => rfl) (Nat.le_of_ble_eq_true rfl) dX9_count_2 rfl ?_
  refine jv_iconst (v := 0) C dX9_count_5 (by decide) ?_
  refine jv_istore_n (lv2 := [(2, .int 0), (0, .ref 58), (1, .int 2)]) C dX9_count_6 rfl hnl (by decide) rfl ?_
  refine jv_iload_n C dX9_count_7 2 rfl ?_
  refine jv_tabIn (tgt := 74) C dX9_count_8 (by decide) (by decide) rfl (by decide) ?_
  refine jv_iconst (v := 0) C dX9_count_74 (by decide) ?_
  refine jv_istore_n (lv2 := [(3, .int 0), (2, .int 0), (0, .ref 58), (1, .int 2)]) C dX9_count_75 rfl hnl (by decide) rfl ?_
  refine jv_iload_n C dX9_count_76 0 rfl ?_
  refine jv_aload_n C dX9_count_77 2 rfl ?_
  refine jv_getf (fk := 17) C (by decide) (va_up_self _ _ _) rfl in_X9_count_9 (by decide) (by decide +kernel) rfl rfl dX9_count_78 ?_
  refine jv_iconst (v := 0) C dX9_count_81 (by decide) ?_
  refine jv_iald C (by decide) (jv_n (by decide) h65) (jv_vi (by decide)) dX9_count_82 ?_
  refine jv_ti (y := 0) (by decide) ?_
  refine jv_icmp_ge (tgt := 132) C dX9_count_83 (by decide) (fun _ => ?_) (fun h => absurd (by decide) h)
  refine jv_iload_n C dX9_count_132 1 rfl ?_
  exact jv_iret C B rfl ⟨by decide, by decide⟩ dX9_count_133
set_option maxRecDepth 100000 in
set_option maxHeartbeats 8000000 in
theorem c_X9_count_3 (l : Launch) (D : va_G) (kp : Nat → ClassId) {n : Nat} {E : Nat → jv_E} (h58 : E 58 = cx58) (h65 : E 65 = cx65) (h70 : E 70 = cx70) (h64 : E 64 = cx64) (h59 : E 59 = cx59)  : jv_M l D vwCl kp yX9_count wsX9_count rm1 [] [.ref 58, .int 3] n E 0 0 (fun r n1 E1 => some (.int 0) = r) := by
  refine jv_of (by decide) rfl (Nat.le_of_ble_eq_true rfl) (fun G C B hI hnl => ?_)
  show jv_V l D vwCl kp G 0 0 n E 0 [(0, .ref 58), (1, .int 3)] []
  refine jv_aload_n C dX9_count_0 0 rfl ?_
  refine jv_iconst (v := 0) C dX9_count_1 (by decide) ?_
  refine jv_putf (fk := 0) (ty := .int) (fs2 := [.int 0, .ref 59, .ref 60, .ref 61, .ref 62, .ref 63, .int 0, .int 0, .int 0, .int 0, .int 0, .long 0, .int 0, .int 0, .int 0, .int (-1), .ref 64, .ref 65, .ref 66, .ref 67, .ref 68, .ref 69, .ref 70, .ref 71, .ref 72, .ref 73, .int 0, .ref 74, .ref 75, .ref 76, .int 0, .int 0, .ref 77, .ref 78, .ref 79, .int 0, .int 0, .int 0, .ref 80, .ref 81, .ref 82, .long 0, .ref 83, .int 0, .int 0, .int 0]) C (by decide) h58 rfl in_X9_count_9 tyX9 tyX9_ok nmX9 (by decide) (by decide +kernel) rfl rfl rfl (fun _ => rfl) (fun _ => rfl) (Nat.le_of_ble_eq_true rfl) dX9_count_2 rfl ?_
  refine jv_iconst (v := 0) C dX9_count_5 (by decide) ?_
  refine jv_istore_n (lv2 := [(2, .int 0), (0, .ref 58), (1, .int 3)]) C dX9_count_6 rfl hnl (by decide) rfl ?_
  refine jv_iload_n C dX9_count_7 2 rfl ?_
  refine jv_tabIn (tgt := 134) C dX9_count_8 (by decide) (by decide) rfl (by decide) ?_
  refine jv_aload_n C dX9_count_134 1 rfl ?_
  refine jv_getf (fk := 16) C (by decide) (va_up_self _ _ _) rfl in_X9_count_9 (by decide) (by decide +kernel) rfl rfl dX9_count_135 ?_
  refine jv_iconst (v := 0) C dX9_count_138 (by decide) ?_
  refine jv_iald C (by decide) (jv_n (by decide) h64) (jv_vi (by decide)) dX9_count_139 ?_
  refine jv_ti (y := 0) (by decide) ?_
  exact jv_iret C B rfl ⟨by decide, by decide⟩ dX9_count_140
set_option maxRecDepth 100000 in
set_option maxHeartbeats 8000000 in
theorem c_X9_count_4 (l : Launch) (D : va_G) (kp : Nat → ClassId) {n : Nat} {E : Nat → jv_E} (h58 : E 58 = cx58) (h65 : E 65 = cx65) (h70 : E 70 = cx70) (h64 : E 64 = cx64) (h59 : E 59 = cx59)  : jv_M l D vwCl kp yX9_count wsX9_count rm1 [] [.ref 58, .int 4] n E 0 0 (fun r n1 E1 => some (.int 0) = r) := by
  refine jv_of (by decide) rfl (Nat.le_of_ble_eq_true rfl) (fun G C B hI hnl => ?_)
  show jv_V l D vwCl kp G 0 0 n E 0 [(0, .ref 58), (1, .int 4)] []
  refine jv_aload_n C dX9_count_0 0 rfl ?_
  refine jv_iconst (v := 0) C dX9_count_1 (by decide) ?_
  refine jv_putf (fk := 0) (ty := .int) (fs2 := [.int 0, .ref 59, .ref 60, .ref 61, .ref 62, .ref 63, .int 0, .int 0, .int 0, .int 0, .int 0, .long 0, .int 0, .int 0, .int 0, .int (-1), .ref 64, .ref 65, .ref 66, .ref 67, .ref 68, .ref 69, .ref 70, .ref 71, .ref 72, .ref 73, .int 0, .ref 74, .ref 75, .ref 76, .int 0, .int 0, .ref 77, .ref 78, .ref 79, .int 0, .int 0, .int 0, .ref 80, .ref 81, .ref 82, .long 0, .ref 83, .int 0, .int 0, .int 0]) C (by decide) h58 rfl in_X9_count_9 tyX9 tyX9_ok nmX9 (by decide) (by decide +kernel) rfl rfl rfl (fun _ => rfl) (fun _ => rfl) (Nat.le_of_ble_eq_true rfl) dX9_count_2 rfl ?_
  refine jv_iconst (v := 0) C dX9_count_5 (by decide) ?_
  refine jv_istore_n (lv2 := [(2, .int 0), (0, .ref 58), (1, .int 4)]) C dX9_count_6 rfl hnl (by decide) rfl ?_
  refine jv_iload_n C dX9_count_7 2 rfl ?_
  refine jv_tabIn (tgt := 141) C dX9_count_8 (by decide) (by decide) rfl (by decide) ?_
  refine jv_aload_n C dX9_count_141 1 rfl ?_
  refine jv_getf (fk := 6) C (by decide) (va_up_self _ _ _) rfl in_X9_count_9 (by decide) (by decide +kernel) rfl rfl dX9_count_142 ?_
  exact jv_iret C B rfl ⟨by decide, by decide⟩ dX9_count_145
set_option maxRecDepth 100000 in
set_option maxHeartbeats 8000000 in
theorem c_X9_count_5 (l : Launch) (D : va_G) (kp : Nat → ClassId) {n : Nat} {E : Nat → jv_E} (h58 : E 58 = cx58) (h65 : E 65 = cx65) (h70 : E 70 = cx70) (h64 : E 64 = cx64) (h59 : E 59 = cx59)  : jv_M l D vwCl kp yX9_count wsX9_count rm2 [] [.ref 58, .int 5] n E 0 0 (fun r n1 E1 => some (.int 0) = r) := by
  refine jv_of (by decide) rfl (Nat.le_of_ble_eq_true rfl) (fun G C B hI hnl => ?_)
  show jv_V l D vwCl kp G 0 0 n E 0 [(0, .ref 58), (1, .int 5)] []
  refine jv_aload_n C dX9_count_0 0 rfl ?_
  refine jv_iconst (v := 0) C dX9_count_1 (by decide) ?_
  refine jv_putf (fk := 0) (ty := .int) (fs2 := [.int 0, .ref 59, .ref 60, .ref 61, .ref 62, .ref 63, .int 0, .int 0, .int 0, .int 0, .int 0, .long 0, .int 0, .int 0, .int 0, .int (-1), .ref 64, .ref 65, .ref 66, .ref 67, .ref 68, .ref 69, .ref 70, .ref 71, .ref 72, .ref 73, .int 0, .ref 74, .ref 75, .ref 76, .int 0, .int 0, .ref 77, .ref 78, .ref 79, .int 0, .int 0, .int 0, .ref 80, .ref 81, .ref 82, .long 0, .ref 83, .int 0, .int 0, .int 0]) C (by decide) h58 rfl in_X9_count_9 tyX9 tyX9_ok nmX9 (by decide) (by decide +kernel) rfl rfl rfl (fun _ => rfl) (fun _ => rfl) (Nat.le_of_ble_eq_true rfl) dX9_count_2 rfl ?_
  refine jv_iconst (v := 0) C dX9_count_5 (by decide) ?_
  refine jv_istore_n (lv2 := [(2, .int 0), (0, .ref 58), (1, .int 5)]) C dX9_count_6 rfl hnl (by decide) rfl ?_
  refine jv_iload_n C dX9_count_7 2 rfl ?_
  refine jv_tabIn (tgt := 146) C dX9_count_8 (by decide) (by decide) rfl (by decide) ?_
  refine jv_aload_n C dX9_count_146 1 rfl ?_
  refine jv_callV (na := 0) (As := []) (st := []) C (c_X9_isCity l D kp (va_up_self _ _ _) (jv_n (by decide) h65) ) gX9_count_X9_isCity rfl (by decide) (va_up_self _ _ _) rfl rfl rfl q_X9_isCity rfl ⟨by decide, by decide⟩ ⟨by decide, by decide⟩ (fun _ h => absurd h List.not_mem_nil) (Nat.le_of_ble_eq_true rfl) rfl dX9_count_147 (fun r n1 E_1 hp _ => ?_)
  obtain ⟨rfl, rfl, rfl⟩ := hp
  show jv_V l D vwCl kp G 0 0 n (va_up E 58 (.inr (9, [.int 0, .ref 59, .ref 60, .ref 61, .ref 62, .ref 63, .int 0, .int 0, .int 0, .int 0, .int 0, .long 0, .int 0, .int 0, .int 0, .int (-1), .ref 64, .ref 65, .ref 66, .ref 67, .ref 68, .ref 69, .ref 70, .ref 71, .ref 72, .ref 73, .int 0, .ref 74, .ref 75, .ref 76, .int 0, .int 0, .ref 77, .ref 78, .ref 79, .int 0, .int 0, .int 0, .ref 80, .ref 81, .ref 82, .long 0, .ref 83, .int 0, .int 0, .int 0]))) 150 [(2, .int 0), (0, .ref 58), (1, .int 5)] [.int 0]
  refine jv_if_eq (tgt := 162) C dX9_count_150 (by decide) (fun _ => ?_) (fun h => absurd (by decide) h)
  refine jv_iconst (v := 0) C dX9_count_162 (by decide) ?_
  exact jv_iret C B rfl ⟨by decide, by decide⟩ dX9_count_163
set_option maxRecDepth 100000 in
set_option maxHeartbeats 8000000 in
theorem c_X9_count_6 (l : Launch) (D : va_G) (kp : Nat → ClassId) {n : Nat} {E : Nat → jv_E} (h58 : E 58 = cx58) (h65 : E 65 = cx65) (h70 : E 70 = cx70) (h64 : E 64 = cx64) (h59 : E 59 = cx59)  : jv_M l D vwCl kp yX9_count wsX9_count rm2 [] [.ref 58, .int 6] n E 0 0 (fun r n1 E1 => some (.int 0) = r) := by
  refine jv_of (by decide) rfl (Nat.le_of_ble_eq_true rfl) (fun G C B hI hnl => ?_)
  show jv_V l D vwCl kp G 0 0 n E 0 [(0, .ref 58), (1, .int 6)] []
  refine jv_aload_n C dX9_count_0 0 rfl ?_
  refine jv_iconst (v := 0) C dX9_count_1 (by decide) ?_
  refine jv_putf (fk := 0) (ty := .int) (fs2 := [.int 0, .ref 59, .ref 60, .ref 61, .ref 62, .ref 63, .int 0, .int 0, .int 0, .int 0, .int 0, .long 0, .int 0, .int 0, .int 0, .int (-1), .ref 64, .ref 65, .ref 66, .ref 67, .ref 68, .ref 69, .ref 70, .ref 71, .ref 72, .ref 73, .int 0, .ref 74, .ref 75, .ref 76, .int 0, .int 0, .ref 77, .ref 78, .ref 79, .int 0, .int 0, .int 0, .ref 80, .ref 81, .ref 82, .long 0, .ref 83, .int 0, .int 0, .int 0]) C (by decide) h58 rfl in_X9_count_9 tyX9 tyX9_ok nmX9 (by decide) (by decide +kernel) rfl rfl rfl (fun _ => rfl) (fun _ => rfl) (Nat.le_of_ble_eq_true rfl) dX9_count_2 rfl ?_
  refine jv_iconst (v := 0) C dX9_count_5 (by decide) ?_
  refine jv_istore_n (lv2 := [(2, .int 0), (0, .ref 58), (1, .int 6)]) C dX9_count_6 rfl hnl (by decide) rfl ?_
  refine jv_iload_n C dX9_count_7 2 rfl ?_
  refine jv_tabIn (tgt := 164) C dX9_count_8 (by decide) (by decide) rfl (by decide) ?_
  refine jv_aload_n C dX9_count_164 1 rfl ?_
  refine jv_callV (na := 0) (As := []) (st := []) C (c_X9_isCity l D kp (va_up_self _ _ _) (jv_n (by decide) h65) ) gX9_count_X9_isCity rfl (by decide) (va_up_self _ _ _) rfl rfl rfl q_X9_isCity rfl ⟨by decide, by decide⟩ ⟨by decide, by decide⟩ (fun _ h => absurd h List.not_mem_nil) (Nat.le_of_ble_eq_true rfl) rfl dX9_count_165 (fun r n1 E_1 hp _ => ?_)
  obtain ⟨rfl, rfl, rfl⟩ := hp
  show jv_V l D vwCl kp G 0 0 n (va_up E 58 (.inr (9, [.int 0, .ref 59, .ref 60, .ref 61, .ref 62, .ref 63, .int 0, .int 0, .int 0, .int 0, .int 0, .long 0, .int 0, .int 0, .int 0, .int (-1), .ref 64, .ref 65, .ref 66, .ref 67, .ref 68, .ref 69, .ref 70, .ref 71, .ref 72, .ref 73, .int 0, .ref 74, .ref 75, .ref 76, .int 0, .int 0, .ref 77, .ref 78, .ref 79, .int 0, .int 0, .int 0, .ref 80, .ref 81, .ref 82, .long 0, .ref 83, .int 0, .int 0, .int 0]))) 168 [(2, .int 0), (0, .ref 58), (1, .int 6)] [.int 0]
  refine jv_if_eq (tgt := 180) C dX9_count_168 (by decide) (fun _ => ?_) (fun h => absurd (by decide) h)
  refine jv_iconst (v := 0) C dX9_count_180 (by decide) ?_
  exact jv_iret C B rfl ⟨by decide, by decide⟩ dX9_count_181
set_option maxRecDepth 100000 in
set_option maxHeartbeats 8000000 in
theorem c_X9_count_7 (l : Launch) (D : va_G) (kp : Nat → ClassId) {n : Nat} {E : Nat → jv_E} (h58 : E 58 = cx58) (h65 : E 65 = cx65) (h70 : E 70 = cx70) (h64 : E 64 = cx64) (h59 : E 59 = cx59)  : jv_M l D vwCl kp yX9_count wsX9_count rm1 [] [.ref 58, .int 7] n E 0 0 (fun r n1 E1 => some (.int 0) = r) := by
  refine jv_of (by decide) rfl (Nat.le_of_ble_eq_true rfl) (fun G C B hI hnl => ?_)
  show jv_V l D vwCl kp G 0 0 n E 0 [(0, .ref 58), (1, .int 7)] []
  refine jv_aload_n C dX9_count_0 0 rfl ?_
  refine jv_iconst (v := 0) C dX9_count_1 (by decide) ?_
  refine jv_putf (fk := 0) (ty := .int) (fs2 := [.int 0, .ref 59, .ref 60, .ref 61, .ref 62, .ref 63, .int 0, .int 0, .int 0, .int 0, .int 0, .long 0, .int 0, .int 0, .int 0, .int (-1), .ref 64, .ref 65, .ref 66, .ref 67, .ref 68, .ref 69, .ref 70, .ref 71, .ref 72, .ref 73, .int 0, .ref 74, .ref 75, .ref 76, .int 0, .int 0, .ref 77, .ref 78, .ref 79, .int 0, .int 0, .int 0, .ref 80, .ref 81, .ref 82, .long 0, .ref 83, .int 0, .int 0, .int 0]) C (by decide) h58 rfl in_X9_count_9 tyX9 tyX9_ok nmX9 (by decide) (by decide +kernel) rfl rfl rfl (fun _ => rfl) (fun _ => rfl) (Nat.le_of_ble_eq_true rfl) dX9_count_2 rfl ?_
  refine jv_iconst (v := 0) C dX9_count_5 (by decide) ?_
  refine jv_istore_n (lv2 := [(2, .int 0), (0, .ref 58), (1, .int 7)]) C dX9_count_6 rfl hnl (by decide) rfl ?_
  refine jv_iload_n C dX9_count_7 2 rfl ?_
  refine jv_tabIn (tgt := 182) C dX9_count_8 (by decide) (by decide) rfl (by decide) ?_
  refine jv_iconst (v := 0) C dX9_count_182 (by decide) ?_
  refine jv_istore_n (lv2 := [(3, .int 0), (2, .int 0), (0, .ref 58), (1, .int 7)]) C dX9_count_183 rfl hnl (by decide) rfl ?_
  refine jv_iload_n C dX9_count_184 0 rfl ?_
  refine jv_aload_n C dX9_count_185 2 rfl ?_
  refine jv_getf (fk := 17) C (by decide) (va_up_self _ _ _) rfl in_X9_count_9 (by decide) (by decide +kernel) rfl rfl dX9_count_186 ?_
  refine jv_iconst (v := 0) C dX9_count_189 (by decide) ?_
  refine jv_iald C (by decide) (jv_n (by decide) h65) (jv_vi (by decide)) dX9_count_190 ?_
  refine jv_ti (y := 0) (by decide) ?_
  refine jv_icmp_ge (tgt := 218) C dX9_count_191 (by decide) (fun _ => ?_) (fun h => absurd (by decide) h)
  refine jv_iload_n C dX9_count_218 1 rfl ?_
  exact jv_iret C B rfl ⟨by decide, by decide⟩ dX9_count_219
set_option maxRecDepth 100000 in
set_option maxHeartbeats 8000000 in
theorem c_X9_count_8 (l : Launch) (D : va_G) (kp : Nat → ClassId) {n : Nat} {E : Nat → jv_E} (h58 : E 58 = cx58) (h65 : E 65 = cx65) (h70 : E 70 = cx70) (h64 : E 64 = cx64) (h59 : E 59 = cx59)  : jv_M l D vwCl kp yX9_count wsX9_count rm1 [] [.ref 58, .int 8] n E 0 0 (fun r n1 E1 => some (.int 0) = r) := by
  refine jv_of (by decide) rfl (Nat.le_of_ble_eq_true rfl) (fun G C B hI hnl => ?_)
  show jv_V l D vwCl kp G 0 0 n E 0 [(0, .ref 58), (1, .int 8)] []
  refine jv_aload_n C dX9_count_0 0 rfl ?_
  refine jv_iconst (v := 0) C dX9_count_1 (by decide) ?_
  refine jv_putf (fk := 0) (ty := .int) (fs2 := [.int 0, .ref 59, .ref 60, .ref 61, .ref 62, .ref 63, .int 0, .int 0, .int 0, .int 0, .int 0, .long 0, .int 0, .int 0, .int 0, .int (-1), .ref 64, .ref 65, .ref 66, .ref 67, .ref 68, .ref 69, .ref 70, .ref 71, .ref 72, .ref 73, .int 0, .ref 74, .ref 75, .ref 76, .int 0, .int 0, .ref 77, .ref 78, .ref 79, .int 0, .int 0, .int 0, .ref 80, .ref 81, .ref 82, .long 0, .ref 83, .int 0, .int 0, .int 0]) C (by decide) h58 rfl in_X9_count_9 tyX9 tyX9_ok nmX9 (by decide) (by decide +kernel) rfl rfl rfl (fun _ => rfl) (fun _ => rfl) (Nat.le_of_ble_eq_true rfl) dX9_count_2 rfl ?_
  refine jv_iconst (v := 0) C dX9_count_5 (by decide) ?_
  refine jv_istore_n (lv2 := [(2, .int 0), (0, .ref 58), (1, .int 8)]) C dX9_count_6 rfl hnl (by decide) rfl ?_
  refine jv_iload_n C dX9_count_7 2 rfl ?_
  refine jv_tabIn (tgt := 220) C dX9_count_8 (by decide) (by decide) rfl (by decide) ?_
  refine jv_iconst (v := 0) C dX9_count_220 (by decide) ?_
  refine jv_istore_n (lv2 := [(3, .int 0), (2, .int 0), (0, .ref 58), (1, .int 8)]) C dX9_count_221 rfl hnl (by decide) rfl ?_
  refine jv_iload_n C dX9_count_222 0 rfl ?_
  refine jv_iconst (v := 4) C dX9_count_223 (by decide) ?_
  refine jv_icmp_ge (tgt := 251) C dX9_count_224 (by decide) (fun h => absurd h (by decide)) (fun _ => ?_)
  refine jv_iload_n C dX9_count_227 1 rfl ?_
  refine jv_aload_n C dX9_count_228 2 rfl ?_
  refine jv_getf (fk := 1) C (by decide) (va_up_self _ _ _) rfl in_X9_count_9 (by decide) (by decide +kernel) rfl rfl dX9_count_229 ?_
  refine jv_iload_n C dX9_count_232 0 rfl ?_
  refine jv_iald C (by decide) (jv_n (by decide) h59) (jv_vi (by decide)) dX9_count_233 ?_
  refine jv_ti (y := (-1)) (by decide) ?_
  refine jv_iconst (v := (-1)) C dX9_count_234 (by decide) ?_
  refine jv_icmp_ne (tgt := 242) C dX9_count_235 (by decide) (fun h => absurd h (by decide)) (fun _ => ?_)
  refine jv_iconst (v := 0) C dX9_count_238 (by decide) ?_
  refine jv_goto (tgt := 243) C dX9_count_239 (by decide) ?_
  refine jv_iadd C dX9_count_243 ?_
  refine jv_ti (y := 0) (by decide) ?_
  refine jv_istore_n (lv2 := [(2, .int 0), (3, .int 0), (0, .ref 58), (1, .int 8)]) C dX9_count_244 rfl hnl (by decide) rfl ?_
  refine jv_iinc (lv2 := [(3, .int 1), (2, .int 0), (0, .ref 58), (1, .int 8)]) C dX9_count_245 hnl 1 rfl (by decide) (by decide) rfl ?_
  refine jv_goto (tgt := 222) C dX9_count_248 (by decide) ?_
  refine jv_iload_n C dX9_count_222 0 rfl ?_
  refine jv_iconst (v := 4) C dX9_count_223 (by decide) ?_
  refine jv_icmp_ge (tgt := 251) C dX9_count_224 (by decide) (fun h => absurd h (by decide)) (fun _ => ?_)
  refine jv_iload_n C dX9_count_227 1 rfl ?_
  refine jv_aload_n C dX9_count_228 2 rfl ?_
  refine jv_getf (fk := 1) C (by decide) (va_up_self _ _ _) rfl in_X9_count_9 (by decide) (by decide +kernel) rfl rfl dX9_count_229 ?_
  refine jv_iload_n C dX9_count_232 0 rfl ?_
  refine jv_iald C (by decide) (jv_n (by decide) h59) (jv_vi (by decide)) dX9_count_233 ?_
  refine jv_ti (y := (-1)) (by decide) ?_
  refine jv_iconst (v := (-1)) C dX9_count_234 (by decide) ?_
  refine jv_icmp_ne (tgt := 242) C dX9_count_235 (by decide) (fun h => absurd h (by decide)) (fun _ => ?_)
  refine jv_iconst (v := 0) C dX9_count_238 (by decide) ?_
  refine jv_goto (tgt := 243) C dX9_count_239 (by decide) ?_
  refine jv_iadd C dX9_count_243 ?_
  refine jv_ti (y := 0) (by decide) ?_
  refine jv_istore_n (lv2 := [(2, .int 0), (3, .int 1), (0, .ref 58), (1, .int 8)]) C dX9_count_244 rfl hnl (by decide) rfl ?_
  refine jv_iinc (lv2 := [(3, .int 2), (2, .int 0), (0, .ref 58), (1, .int 8)]) C dX9_count_245 hnl 1 rfl (by decide) (by decide) rfl ?_
  refine jv_goto (tgt := 222) C dX9_count_248 (by decide) ?_
  refine jv_iload_n C dX9_count_222 0 rfl ?_
  refine jv_iconst (v := 4) C dX9_count_223 (by decide) ?_
  refine jv_icmp_ge (tgt := 251) C dX9_count_224 (by decide) (fun h => absurd h (by decide)) (fun _ => ?_)
  refine jv_iload_n C dX9_count_227 1 rfl ?_
  refine jv_aload_n C dX9_count_228 2 rfl ?_
  refine jv_getf (fk := 1) C (by decide) (va_up_self _ _ _) rfl in_X9_count_9 (by decide) (by decide +kernel) rfl rfl dX9_count_229 ?_
  refine jv_iload_n C dX9_count_232 0 rfl ?_
  refine jv_iald C (by decide) (jv_n (by decide) h59) (jv_vi (by decide)) dX9_count_233 ?_
  refine jv_ti (y := (-1)) (by decide) ?_
  refine jv_iconst (v := (-1)) C dX9_count_234 (by decide) ?_
  refine jv_icmp_ne (tgt := 242) C dX9_count_235 (by decide) (fun h => absurd h (by decide)) (fun _ => ?_)
  refine jv_iconst (v := 0) C dX9_count_238 (by decide) ?_
  refine jv_goto (tgt := 243) C dX9_count_239 (by decide) ?_
  refine jv_iadd C dX9_count_243 ?_
  refine jv_ti (y := 0) (by decide) ?_
  refine jv_istore_n (lv2 := [(2, .int 0), (3, .int 2), (0, .ref 58), (1, .int 8)]) C dX9_count_244 rfl hnl (by decide) rfl ?_
  refine jv_iinc (lv2 := [(3, .int 3), (2, .int 0), (0, .ref 58), (1, .int 8)]) C dX9_count_245 hnl 1 rfl (by decide) (by decide) rfl ?_
  refine jv_goto (tgt := 222) C dX9_count_248 (by decide) ?_
  refine jv_iload_n C dX9_count_222 0 rfl ?_
  refine jv_iconst (v := 4) C dX9_count_223 (by decide) ?_
  refine jv_icmp_ge (tgt := 251) C dX9_count_224 (by decide) (fun h => absurd h (by decide)) (fun _ => ?_)
  refine jv_iload_n C dX9_count_227 1 rfl ?_
  refine jv_aload_n C dX9_count_228 2 rfl ?_
  refine jv_getf (fk := 1) C (by decide) (va_up_self _ _ _) rfl in_X9_count_9 (by decide) (by decide +kernel) rfl rfl dX9_count_229 ?_
  refine jv_iload_n C dX9_count_232 0 rfl ?_
  refine jv_iald C (by decide) (jv_n (by decide) h59) (jv_vi (by decide)) dX9_count_233 ?_
  refine jv_ti (y := (-1)) (by decide) ?_
  refine jv_iconst (v := (-1)) C dX9_count_234 (by decide) ?_
  refine jv_icmp_ne (tgt := 242) C dX9_count_235 (by decide) (fun h => absurd h (by decide)) (fun _ => ?_)
  refine jv_iconst (v := 0) C dX9_count_238 (by decide) ?_
  refine jv_goto (tgt := 243) C dX9_count_239 (by decide) ?_
  refine jv_iadd C dX9_count_243 ?_
  refine jv_ti (y := 0) (by decide) ?_
  refine jv_istore_n (lv2 := [(2, .int 0), (3, .int 3), (0, .ref 58), (1, .int 8)]) C dX9_count_244 rfl hnl (by decide) rfl ?_
  refine jv_iinc (lv2 := [(3, .int 4), (2, .int 0), (0, .ref 58), (1, .int 8)]) C dX9_count_245 hnl 1 rfl (by decide) (by decide) rfl ?_
  refine jv_goto (tgt := 222) C dX9_count_248 (by decide) ?_
  refine jv_iload_n C dX9_count_222 0 rfl ?_
  refine jv_iconst (v := 4) C dX9_count_223 (by decide) ?_
  refine jv_icmp_ge (tgt := 251) C dX9_count_224 (by decide) (fun _ => ?_) (fun h => absurd (by decide) h)
  refine jv_iload_n C dX9_count_251 1 rfl ?_
  exact jv_iret C B rfl ⟨by decide, by decide⟩ dX9_count_252
set_option maxRecDepth 100000 in
set_option maxHeartbeats 8000000 in
theorem c_X9_count_neg (l : Launch) (D : va_G) (kp : Nat → ClassId) {n : Nat} {E : Nat → jv_E} (h58 : E 58 = cx58) (p1 : Int32) (ho : p1.toInt < 0) : jv_M l D vwCl kp yX9_count wsX9_count rm1 [] [.ref 58, .int p1] n E 0 0 (fun r n1 E1 => some (.int (-1)) = r) := by
  refine jv_of (by decide) rfl (Nat.le_of_ble_eq_true rfl) (fun G C B hI hnl => ?_)
  show jv_V l D vwCl kp G 0 0 n E 0 [(0, .ref 58), (1, .int p1)] []
  refine jv_aload_n C dX9_count_0 0 rfl ?_
  refine jv_iconst (v := 0) C dX9_count_1 (by decide) ?_
  refine jv_putf (fk := 0) (ty := .int) (fs2 := [.int 0, .ref 59, .ref 60, .ref 61, .ref 62, .ref 63, .int 0, .int 0, .int 0, .int 0, .int 0, .long 0, .int 0, .int 0, .int 0, .int (-1), .ref 64, .ref 65, .ref 66, .ref 67, .ref 68, .ref 69, .ref 70, .ref 71, .ref 72, .ref 73, .int 0, .ref 74, .ref 75, .ref 76, .int 0, .int 0, .ref 77, .ref 78, .ref 79, .int 0, .int 0, .int 0, .ref 80, .ref 81, .ref 82, .long 0, .ref 83, .int 0, .int 0, .int 0]) C (by decide) h58 rfl in_X9_count_9 tyX9 tyX9_ok nmX9 (by decide) (by decide +kernel) rfl rfl rfl (fun _ => rfl) (fun _ => rfl) (Nat.le_of_ble_eq_true rfl) dX9_count_2 rfl ?_
  refine jv_iconst (v := 0) C dX9_count_5 (by decide) ?_
  refine jv_istore_n (lv2 := [(2, .int 0), (0, .ref 58), (1, .int p1)]) C dX9_count_6 rfl hnl (by decide) rfl ?_
  refine jv_iload_n C dX9_count_7 2 rfl ?_
  refine jv_tabOut (tgt := 253) C dX9_count_8 (by have a0 := ho; omega) (by decide) ?_
  refine jv_iconst (v := (-1)) C dX9_count_253 (by decide) ?_
  exact jv_iret C B rfl ⟨by decide, by decide⟩ dX9_count_254
set_option maxRecDepth 100000 in
set_option maxHeartbeats 8000000 in
theorem c_X9_count_big (l : Launch) (D : va_G) (kp : Nat → ClassId) {n : Nat} {E : Nat → jv_E} (h58 : E 58 = cx58) (p1 : Int32) (ho : 8 < p1.toInt) : jv_M l D vwCl kp yX9_count wsX9_count rm1 [] [.ref 58, .int p1] n E 0 0 (fun r n1 E1 => some (.int (-1)) = r) := by
  refine jv_of (by decide) rfl (Nat.le_of_ble_eq_true rfl) (fun G C B hI hnl => ?_)
  show jv_V l D vwCl kp G 0 0 n E 0 [(0, .ref 58), (1, .int p1)] []
  refine jv_aload_n C dX9_count_0 0 rfl ?_
  refine jv_iconst (v := 0) C dX9_count_1 (by decide) ?_
  refine jv_putf (fk := 0) (ty := .int) (fs2 := [.int 0, .ref 59, .ref 60, .ref 61, .ref 62, .ref 63, .int 0, .int 0, .int 0, .int 0, .int 0, .long 0, .int 0, .int 0, .int 0, .int (-1), .ref 64, .ref 65, .ref 66, .ref 67, .ref 68, .ref 69, .ref 70, .ref 71, .ref 72, .ref 73, .int 0, .ref 74, .ref 75, .ref 76, .int 0, .int 0, .ref 77, .ref 78, .ref 79, .int 0, .int 0, .int 0, .ref 80, .ref 81, .ref 82, .long 0, .ref 83, .int 0, .int 0, .int 0]) C (by decide) h58 rfl in_X9_count_9 tyX9 tyX9_ok nmX9 (by decide) (by decide +kernel) rfl rfl rfl (fun _ => rfl) (fun _ => rfl) (Nat.le_of_ble_eq_true rfl) dX9_count_2 rfl ?_
  refine jv_iconst (v := 0) C dX9_count_5 (by decide) ?_
  refine jv_istore_n (lv2 := [(2, .int 0), (0, .ref 58), (1, .int p1)]) C dX9_count_6 rfl hnl (by decide) rfl ?_
  refine jv_iload_n C dX9_count_7 2 rfl ?_
  refine jv_tabOut (tgt := 253) C dX9_count_8 (by have a0 := ho; omega) (by decide) ?_
  refine jv_iconst (v := (-1)) C dX9_count_253 (by decide) ?_
  exact jv_iret C B rfl ⟨by decide, by decide⟩ dX9_count_254
