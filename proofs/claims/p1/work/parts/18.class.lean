def jr_end (p : Int32) : Int32 := if p.toInt = 0 then 0 else -1
def jr_row (s w n : Int32) : Int32 := if s.toInt < 0 ∨ 3 < s.toInt ∨ w.toInt < 0 ∨ 3 < w.toInt ∨ 60 < n.toInt then -2 else if n.toInt < 0 then -3 else 0
def jr_slot (s : Int32) : Int32 := if s.toInt < 0 ∨ 3 < s.toInt then -2 else -6
def jr_paste (s t : Int32) : Int32 := if s.toInt < 0 ∨ 3 < s.toInt ∨ t.toInt < 0 ∨ 3 < t.toInt then -2 else -6
set_option maxRecDepth 100000 in
set_option maxHeartbeats 4000000 in
theorem c_X8_isWithin (l : Launch) (D : va_G) (kp : Nat → ClassId) {n : Nat} {E : Nat → jv_E}  (p1 : Int32) (p2 : Int32) : jv_M l D vwCl kp yX8_isWithin wsX8_isWithin rm1 [] [.int p1, .int p2] n E 0 0 (fun r n1 E1 => ((some (.int 1) = r ∧ 0 ≤ p1.toInt ∧ p1.toInt ≤ p2.toInt) ∨ (some (.int 0) = r ∧ (p1.toInt < 0 ∨ p2.toInt < p1.toInt))) ∧ n = n1 ∧ E = E1) := by
  refine jv_of (by decide) rfl (Nat.le_of_ble_eq_true rfl) (fun G C B hI hnl => ?_)
  show jv_V l D vwCl kp G 0 0 n E 0 [(0, .int p1), (1, .int p2)] []
  refine jv_iload_n C dX8_isWithin_0 0 rfl ?_
  refine jv_if_lt (tgt := 13) C dX8_isWithin_1 (by decide) (fun c1 => ?_) (fun c1 => ?_)
  · refine jv_iconst (v := 0) C dX8_isWithin_13 (by decide) ?_
    exact jv_zret C B (by decide) ⟨Or.inr ⟨rfl, by have a0 := jv_i_lt c1; have z0 : (0 : Int32).toInt = 0 := (by decide); omega⟩, rfl, rfl⟩ ⟨by decide, by decide⟩ dX8_isWithin_14
  · refine jv_iload_n C dX8_isWithin_4 0 rfl ?_
    refine jv_iload_n C dX8_isWithin_5 1 rfl ?_
    refine jv_icmp_gt (tgt := 13) C dX8_isWithin_6 (by decide) (fun c2 => ?_) (fun c2 => ?_)
    · refine jv_iconst (v := 0) C dX8_isWithin_13 (by decide) ?_
      exact jv_zret C B (by decide) ⟨Or.inr ⟨rfl, by have a0 := jv_i_nlt c1; have a1 := jv_i_lt c2; have z0 : (0 : Int32).toInt = 0 := (by decide); omega⟩, rfl, rfl⟩ ⟨by decide, by decide⟩ dX8_isWithin_14
    · refine jv_iconst (v := 1) C dX8_isWithin_9 (by decide) ?_
      refine jv_goto (tgt := 14) C dX8_isWithin_10 (by decide) ?_
      exact jv_zret C B (by decide) ⟨Or.inl ⟨rfl, by have a0 := jv_i_nlt c1; have a1 := jv_i_nlt c2; have z0 : (0 : Int32).toInt = 0 := (by decide); omega⟩, rfl, rfl⟩ ⟨by decide, by decide⟩ dX8_isWithin_14
theorem in_X3_hasRoom_3 : ∀ w ∈ u_ws RX3 TX3 12, w ∈ wsX3_hasRoom := by decide +kernel
set_option maxRecDepth 100000 in
set_option maxHeartbeats 8000000 in
theorem c_X3_hasRoom_f (l : Launch) (D : va_G) (kp : Nat → ClassId) {n : Nat} {E : Nat → jv_E} (h17 : E 17 = .inr (3, [.ref 18, .int 0, .int 0, .int (-1), .ref 8, .int 0, .int 0, .int 0, .int 0, .int 0, .int 0, .int 0]))  : jv_M l D vwCl kp yX3_hasRoom wsX3_hasRoom rm1 [] [.ref 17, .int 20] n E 0 0 (fun r n1 E1 => some (.int 1) = r ∧ n = n1 ∧ E = E1) := by
  refine jv_of (by decide) rfl (Nat.le_of_ble_eq_true rfl) (fun G C B hI hnl => ?_)
  show jv_V l D vwCl kp G 0 0 n E 0 [(0, .ref 17), (1, .int 20)] []
  refine jv_aload_n C dX3_hasRoom_0 0 rfl ?_
  refine jv_getf (fk := 1) C (by decide) h17 rfl in_X3_hasRoom_3 (by decide) (by decide +kernel) rfl rfl dX3_hasRoom_1 ?_
  refine jv_iload_n C dX3_hasRoom_4 1 rfl ?_
  refine jv_iadd C dX3_hasRoom_5 ?_
  refine jv_ti (y := 20) (by decide) ?_
  refine jv_sipush (v := 1600) C dX3_hasRoom_6 (by decide) ?_
  refine jv_icmp_gt (tgt := 16) C dX3_hasRoom_9 (by decide) (fun h => absurd h (by decide)) (fun _ => ?_)
  refine jv_iconst (v := 1) C dX3_hasRoom_12 (by decide) ?_
  refine jv_goto (tgt := 17) C dX3_hasRoom_13 (by decide) ?_
  exact jv_zret C B (by decide) ⟨rfl, rfl, rfl⟩ ⟨by decide, by decide⟩ dX3_hasRoom_17
set_option maxRecDepth 100000 in
set_option maxHeartbeats 8000000 in
theorem c_X3_hasRoom_0 (l : Launch) (D : va_G) (kp : Nat → ClassId) {n : Nat} {E : Nat → jv_E} (h17 : E 17 = .inr (3, [.ref 18, .int 0, .int 0, .int (-1), .ref 8, .int 0, .int 0, .int 0, .int 0, .int 0, .int 0, .int 0]))  : jv_M l D vwCl kp yX3_hasRoom wsX3_hasRoom rm1 [] [.ref 17, .int 1] n E 0 0 (fun r n1 E1 => some (.int 1) = r ∧ n = n1 ∧ E = E1) := by
  refine jv_of (by decide) rfl (Nat.le_of_ble_eq_true rfl) (fun G C B hI hnl => ?_)
  show jv_V l D vwCl kp G 0 0 n E 0 [(0, .ref 17), (1, .int 1)] []
  refine jv_aload_n C dX3_hasRoom_0 0 rfl ?_
  refine jv_getf (fk := 1) C (by decide) h17 rfl in_X3_hasRoom_3 (by decide) (by decide +kernel) rfl rfl dX3_hasRoom_1 ?_
  refine jv_iload_n C dX3_hasRoom_4 1 rfl ?_
  refine jv_iadd C dX3_hasRoom_5 ?_
  refine jv_ti (y := 1) (by decide) ?_
  refine jv_sipush (v := 1600) C dX3_hasRoom_6 (by decide) ?_
  refine jv_icmp_gt (tgt := 16) C dX3_hasRoom_9 (by decide) (fun h => absurd h (by decide)) (fun _ => ?_)
  refine jv_iconst (v := 1) C dX3_hasRoom_12 (by decide) ?_
  refine jv_goto (tgt := 17) C dX3_hasRoom_13 (by decide) ?_
  exact jv_zret C B (by decide) ⟨rfl, rfl, rfl⟩ ⟨by decide, by decide⟩ dX3_hasRoom_17
set_option maxRecDepth 100000 in
set_option maxHeartbeats 8000000 in
theorem c_X3_hasRoom_1 (l : Launch) (D : va_G) (kp : Nat → ClassId) {n : Nat} {E : Nat → jv_E} (h17 : E 17 = .inr (3, [.ref 18, .int 1, .int 0, .int (-1), .ref 8, .int 0, .int 0, .int 0, .int 0, .int 0, .int 0, .int 0]))  : jv_M l D vwCl kp yX3_hasRoom wsX3_hasRoom rm1 [] [.ref 17, .int 1] n E 0 0 (fun r n1 E1 => some (.int 1) = r ∧ n = n1 ∧ E = E1) := by
  refine jv_of (by decide) rfl (Nat.le_of_ble_eq_true rfl) (fun G C B hI hnl => ?_)
  show jv_V l D vwCl kp G 0 0 n E 0 [(0, .ref 17), (1, .int 1)] []
  refine jv_aload_n C dX3_hasRoom_0 0 rfl ?_
  refine jv_getf (fk := 1) C (by decide) h17 rfl in_X3_hasRoom_3 (by decide) (by decide +kernel) rfl rfl dX3_hasRoom_1 ?_
  refine jv_iload_n C dX3_hasRoom_4 1 rfl ?_
  refine jv_iadd C dX3_hasRoom_5 ?_
  refine jv_ti (y := 2) (by decide) ?_
  refine jv_sipush (v := 1600) C dX3_hasRoom_6 (by decide) ?_
  refine jv_icmp_gt (tgt := 16) C dX3_hasRoom_9 (by decide) (fun h => absurd h (by decide)) (fun _ => ?_)
  refine jv_iconst (v := 1) C dX3_hasRoom_12 (by decide) ?_
  refine jv_goto (tgt := 17) C dX3_hasRoom_13 (by decide) ?_
  exact jv_zret C B (by decide) ⟨rfl, rfl, rfl⟩ ⟨by decide, by decide⟩ dX3_hasRoom_17
set_option maxRecDepth 100000 in
set_option maxHeartbeats 8000000 in
theorem c_X3_hasRoom_2 (l : Launch) (D : va_G) (kp : Nat → ClassId) {n : Nat} {E : Nat → jv_E} (h17 : E 17 = .inr (3, [.ref 18, .int 2, .int 0, .int (-1), .ref 8, .int 0, .int 0, .int 0, .int 0, .int 0, .int 0, .int 0]))  : jv_M l D vwCl kp yX3_hasRoom wsX3_hasRoom rm1 [] [.ref 17, .int 1] n E 0 0 (fun r n1 E1 => some (.int 1) = r ∧ n = n1 ∧ E = E1) := by
  refine jv_of (by decide) rfl (Nat.le_of_ble_eq_true rfl) (fun G C B hI hnl => ?_)
  show jv_V l D vwCl kp G 0 0 n E 0 [(0, .ref 17), (1, .int 1)] []
  refine jv_aload_n C dX3_hasRoom_0 0 rfl ?_
  refine jv_getf (fk := 1) C (by decide) h17 rfl in_X3_hasRoom_3 (by decide) (by decide +kernel) rfl rfl dX3_hasRoom_1 ?_
  refine jv_iload_n C dX3_hasRoom_4 1 rfl ?_
  refine jv_iadd C dX3_hasRoom_5 ?_
  refine jv_ti (y := 3) (by decide) ?_
  refine jv_sipush (v := 1600) C dX3_hasRoom_6 (by decide) ?_
  refine jv_icmp_gt (tgt := 16) C dX3_hasRoom_9 (by decide) (fun h => absurd h (by decide)) (fun _ => ?_)
  refine jv_iconst (v := 1) C dX3_hasRoom_12 (by decide) ?_
  refine jv_goto (tgt := 17) C dX3_hasRoom_13 (by decide) ?_
  exact jv_zret C B (by decide) ⟨rfl, rfl, rfl⟩ ⟨by decide, by decide⟩ dX3_hasRoom_17
set_option maxRecDepth 100000 in
set_option maxHeartbeats 8000000 in
theorem c_X3_hasRoom_3 (l : Launch) (D : va_G) (kp : Nat → ClassId) {n : Nat} {E : Nat → jv_E} (h17 : E 17 = .inr (3, [.ref 18, .int 3, .int 0, .int (-1), .ref 8, .int 0, .int 0, .int 0, .int 0, .int 0, .int 0, .int 0]))  : jv_M l D vwCl kp yX3_hasRoom wsX3_hasRoom rm1 [] [.ref 17, .int 1] n E 0 0 (fun r n1 E1 => some (.int 1) = r ∧ n = n1 ∧ E = E1) := by
  refine jv_of (by decide) rfl (Nat.le_of_ble_eq_true rfl) (fun G C B hI hnl => ?_)
  show jv_V l D vwCl kp G 0 0 n E 0 [(0, .ref 17), (1, .int 1)] []
  refine jv_aload_n C dX3_hasRoom_0 0 rfl ?_
  refine jv_getf (fk := 1) C (by decide) h17 rfl in_X3_hasRoom_3 (by decide) (by decide +kernel) rfl rfl dX3_hasRoom_1 ?_
  refine jv_iload_n C dX3_hasRoom_4 1 rfl ?_
  refine jv_iadd C dX3_hasRoom_5 ?_
  refine jv_ti (y := 4) (by decide) ?_
  refine jv_sipush (v := 1600) C dX3_hasRoom_6 (by decide) ?_
  refine jv_icmp_gt (tgt := 16) C dX3_hasRoom_9 (by decide) (fun h => absurd h (by decide)) (fun _ => ?_)
  refine jv_iconst (v := 1) C dX3_hasRoom_12 (by decide) ?_
  refine jv_goto (tgt := 17) C dX3_hasRoom_13 (by decide) ?_
  exact jv_zret C B (by decide) ⟨rfl, rfl, rfl⟩ ⟨by decide, by decide⟩ dX3_hasRoom_17
set_option maxRecDepth 100000 in
set_option maxHeartbeats 8000000 in
theorem c_X3_hasRoom_4 (l : Launch) (D : va_G) (kp : Nat → ClassId) {n : Nat} {E : Nat → jv_E} (h17 : E 17 = .inr (3, [.ref 18, .int 4, .int 0, .int (-1), .ref 8, .int 0, .int 0, .int 0, .int 0, .int 0, .int 0, .int 0]))  : jv_M l D vwCl kp yX3_hasRoom wsX3_hasRoom rm1 [] [.ref 17, .int 1] n E 0 0 (fun r n1 E1 => some (.int 1) = r ∧ n = n1 ∧ E = E1) := by
  refine jv_of (by decide) rfl (Nat.le_of_ble_eq_true rfl) (fun G C B hI hnl => ?_)
  show jv_V l D vwCl kp G 0 0 n E 0 [(0, .ref 17), (1, .int 1)] []
  refine jv_aload_n C dX3_hasRoom_0 0 rfl ?_
  refine jv_getf (fk := 1) C (by decide) h17 rfl in_X3_hasRoom_3 (by decide) (by decide +kernel) rfl rfl dX3_hasRoom_1 ?_
  refine jv_iload_n C dX3_hasRoom_4 1 rfl ?_
  refine jv_iadd C dX3_hasRoom_5 ?_
  refine jv_ti (y := 5) (by decide) ?_
  refine jv_sipush (v := 1600) C dX3_hasRoom_6 (by decide) ?_
  refine jv_icmp_gt (tgt := 16) C dX3_hasRoom_9 (by decide) (fun h => absurd h (by decide)) (fun _ => ?_)
  refine jv_iconst (v := 1) C dX3_hasRoom_12 (by decide) ?_
  refine jv_goto (tgt := 17) C dX3_hasRoom_13 (by decide) ?_
  exact jv_zret C B (by decide) ⟨rfl, rfl, rfl⟩ ⟨by decide, by decide⟩ dX3_hasRoom_17
set_option maxRecDepth 100000 in
set_option maxHeartbeats 8000000 in
theorem c_X3_hasRoom_5 (l : Launch) (D : va_G) (kp : Nat → ClassId) {n : Nat} {E : Nat → jv_E} (h17 : E 17 = .inr (3, [.ref 18, .int 5, .int 0, .int (-1), .ref 8, .int 0, .int 0, .int 0, .int 0, .int 0, .int 0, .int 0]))  : jv_M l D vwCl kp yX3_hasRoom wsX3_hasRoom rm1 [] [.ref 17, .int 1] n E 0 0 (fun r n1 E1 => some (.int 1) = r ∧ n = n1 ∧ E = E1) := by
  refine jv_of (by decide) rfl (Nat.le_of_ble_eq_true rfl) (fun G C B hI hnl => ?_)
  show jv_V l D vwCl kp G 0 0 n E 0 [(0, .ref 17), (1, .int 1)] []
  refine jv_aload_n C dX3_hasRoom_0 0 rfl ?_
  refine jv_getf (fk := 1) C (by decide) h17 rfl in_X3_hasRoom_3 (by decide) (by decide +kernel) rfl rfl dX3_hasRoom_1 ?_
  refine jv_iload_n C dX3_hasRoom_4 1 rfl ?_
  refine jv_iadd C dX3_hasRoom_5 ?_
  refine jv_ti (y := 6) (by decide) ?_
  refine jv_sipush (v := 1600) C dX3_hasRoom_6 (by decide) ?_
  refine jv_icmp_gt (tgt := 16) C dX3_hasRoom_9 (by decide) (fun h => absurd h (by decide)) (fun _ => ?_)
  refine jv_iconst (v := 1) C dX3_hasRoom_12 (by decide) ?_
  refine jv_goto (tgt := 17) C dX3_hasRoom_13 (by decide) ?_
  exact jv_zret C B (by decide) ⟨rfl, rfl, rfl⟩ ⟨by decide, by decide⟩ dX3_hasRoom_17
set_option maxRecDepth 100000 in
set_option maxHeartbeats 8000000 in
theorem c_X3_hasRoom_6 (l : Launch) (D : va_G) (kp : Nat → ClassId) {n : Nat} {E : Nat → jv_E} (h17 : E 17 = .inr (3, [.ref 18, .int 6, .int 0, .int (-1), .ref 8, .int 0, .int 0, .int 0, .int 0, .int 0, .int 0, .int 0]))  : jv_M l D vwCl kp yX3_hasRoom wsX3_hasRoom rm1 [] [.ref 17, .int 1] n E 0 0 (fun r n1 E1 => some (.int 1) = r ∧ n = n1 ∧ E = E1) := by
  refine jv_of (by decide) rfl (Nat.le_of_ble_eq_true rfl) (fun G C B hI hnl => ?_)
  show jv_V l D vwCl kp G 0 0 n E 0 [(0, .ref 17), (1, .int 1)] []
  refine jv_aload_n C dX3_hasRoom_0 0 rfl ?_
  refine jv_getf (fk := 1) C (by decide) h17 rfl in_X3_hasRoom_3 (by decide) (by decide +kernel) rfl rfl dX3_hasRoom_1 ?_
  refine jv_iload_n C dX3_hasRoom_4 1 rfl ?_
  refine jv_iadd C dX3_hasRoom_5 ?_
  refine jv_ti (y := 7) (by decide) ?_
  refine jv_sipush (v := 1600) C dX3_hasRoom_6 (by decide) ?_
  refine jv_icmp_gt (tgt := 16) C dX3_hasRoom_9 (by decide) (fun h => absurd h (by decide)) (fun _ => ?_)
  refine jv_iconst (v := 1) C dX3_hasRoom_12 (by decide) ?_
  refine jv_goto (tgt := 17) C dX3_hasRoom_13 (by decide) ?_
  exact jv_zret C B (by decide) ⟨rfl, rfl, rfl⟩ ⟨by decide, by decide⟩ dX3_hasRoom_17
set_option maxRecDepth 100000 in
set_option maxHeartbeats 8000000 in
theorem c_X3_hasRoom_7 (l : Launch) (D : va_G) (kp : Nat → ClassId) {n : Nat} {E : Nat → jv_E} (h17 : E 17 = .inr (3, [.ref 18, .int 7, .int 0, .int (-1), .ref 8, .int 0, .int 0, .int 0, .int 0, .int 0, .int 0, .int 0]))  : jv_M l D vwCl kp yX3_hasRoom wsX3_hasRoom rm1 [] [.ref 17, .int 1] n E 0 0 (fun r n1 E1 => some (.int 1) = r ∧ n = n1 ∧ E = E1) := by
  refine jv_of (by decide) rfl (Nat.le_of_ble_eq_true rfl) (fun G C B hI hnl => ?_)
  show jv_V l D vwCl kp G 0 0 n E 0 [(0, .ref 17), (1, .int 1)] []
  refine jv_aload_n C dX3_hasRoom_0 0 rfl ?_
  refine jv_getf (fk := 1) C (by decide) h17 rfl in_X3_hasRoom_3 (by decide) (by decide +kernel) rfl rfl dX3_hasRoom_1 ?_
  refine jv_iload_n C dX3_hasRoom_4 1 rfl ?_
  refine jv_iadd C dX3_hasRoom_5 ?_
  refine jv_ti (y := 8) (by decide) ?_
  refine jv_sipush (v := 1600) C dX3_hasRoom_6 (by decide) ?_
  refine jv_icmp_gt (tgt := 16) C dX3_hasRoom_9 (by decide) (fun h => absurd h (by decide)) (fun _ => ?_)
  refine jv_iconst (v := 1) C dX3_hasRoom_12 (by decide) ?_
  refine jv_goto (tgt := 17) C dX3_hasRoom_13 (by decide) ?_
  exact jv_zret C B (by decide) ⟨rfl, rfl, rfl⟩ ⟨by decide, by decide⟩ dX3_hasRoom_17
set_option maxRecDepth 100000 in
set_option maxHeartbeats 8000000 in
theorem c_X3_hasRoom_8 (l : Launch) (D : va_G) (kp : Nat → ClassId) {n : Nat} {E : Nat → jv_E} (h17 : E 17 = .inr (3, [.ref 18, .int 8, .int 0, .int (-1), .ref 8, .int 0, .int 0, .int 0, .int 0, .int 0, .int 0, .int 0]))  : jv_M l D vwCl kp yX3_hasRoom wsX3_hasRoom rm1 [] [.ref 17, .int 1] n E 0 0 (fun r n1 E1 => some (.int 1) = r ∧ n = n1 ∧ E = E1) := by
  refine jv_of (by decide) rfl (Nat.le_of_ble_eq_true rfl) (fun G C B hI hnl => ?_)
  show jv_V l D vwCl kp G 0 0 n E 0 [(0, .ref 17), (1, .int 1)] []
  refine jv_aload_n C dX3_hasRoom_0 0 rfl ?_
  refine jv_getf (fk := 1) C (by decide) h17 rfl in_X3_hasRoom_3 (by decide) (by decide +kernel) rfl rfl dX3_hasRoom_1 ?_
  refine jv_iload_n C dX3_hasRoom_4 1 rfl ?_
  refine jv_iadd C dX3_hasRoom_5 ?_
  refine jv_ti (y := 9) (by decide) ?_
  refine jv_sipush (v := 1600) C dX3_hasRoom_6 (by decide) ?_
  refine jv_icmp_gt (tgt := 16) C dX3_hasRoom_9 (by decide) (fun h => absurd h (by decide)) (fun _ => ?_)
  refine jv_iconst (v := 1) C dX3_hasRoom_12 (by decide) ?_
  refine jv_goto (tgt := 17) C dX3_hasRoom_13 (by decide) ?_
  exact jv_zret C B (by decide) ⟨rfl, rfl, rfl⟩ ⟨by decide, by decide⟩ dX3_hasRoom_17
set_option maxRecDepth 100000 in
set_option maxHeartbeats 8000000 in
theorem c_X3_hasRoom_9 (l : Launch) (D : va_G) (kp : Nat → ClassId) {n : Nat} {E : Nat → jv_E} (h17 : E 17 = .inr (3, [.ref 18, .int 9, .int 0, .int (-1), .ref 8, .int 0, .int 0, .int 0, .int 0, .int 0, .int 0, .int 0]))  : jv_M l D vwCl kp yX3_hasRoom wsX3_hasRoom rm1 [] [.ref 17, .int 1] n E 0 0 (fun r n1 E1 => some (.int 1) = r ∧ n = n1 ∧ E = E1) := by
  refine jv_of (by decide) rfl (Nat.le_of_ble_eq_true rfl) (fun G C B hI hnl => ?_)
  show jv_V l D vwCl kp G 0 0 n E 0 [(0, .ref 17), (1, .int 1)] []
  refine jv_aload_n C dX3_hasRoom_0 0 rfl ?_
  refine jv_getf (fk := 1) C (by decide) h17 rfl in_X3_hasRoom_3 (by decide) (by decide +kernel) rfl rfl dX3_hasRoom_1 ?_
  refine jv_iload_n C dX3_hasRoom_4 1 rfl ?_
  refine jv_iadd C dX3_hasRoom_5 ?_
  refine jv_ti (y := 10) (by decide) ?_
  refine jv_sipush (v := 1600) C dX3_hasRoom_6 (by decide) ?_
  refine jv_icmp_gt (tgt := 16) C dX3_hasRoom_9 (by decide) (fun h => absurd h (by decide)) (fun _ => ?_)
  refine jv_iconst (v := 1) C dX3_hasRoom_12 (by decide) ?_
  refine jv_goto (tgt := 17) C dX3_hasRoom_13 (by decide) ?_
  exact jv_zret C B (by decide) ⟨rfl, rfl, rfl⟩ ⟨by decide, by decide⟩ dX3_hasRoom_17
set_option maxRecDepth 100000 in
set_option maxHeartbeats 8000000 in
theorem c_X3_hasRoom_10 (l : Launch) (D : va_G) (kp : Nat → ClassId) {n : Nat} {E : Nat → jv_E} (h17 : E 17 = .inr (3, [.ref 18, .int 10, .int 0, .int (-1), .ref 8, .int 0, .int 0, .int 0, .int 0, .int 0, .int 0, .int 0]))  : jv_M l D vwCl kp yX3_hasRoom wsX3_hasRoom rm1 [] [.ref 17, .int 1] n E 0 0 (fun r n1 E1 => some (.int 1) = r ∧ n = n1 ∧ E = E1) := by
  refine jv_of (by decide) rfl (Nat.le_of_ble_eq_true rfl) (fun G C B hI hnl => ?_)
  show jv_V l D vwCl kp G 0 0 n E 0 [(0, .ref 17), (1, .int 1)] []
  refine jv_aload_n C dX3_hasRoom_0 0 rfl ?_
  refine jv_getf (fk := 1) C (by decide) h17 rfl in_X3_hasRoom_3 (by decide) (by decide +kernel) rfl rfl dX3_hasRoom_1 ?_
  refine jv_iload_n C dX3_hasRoom_4 1 rfl ?_
  refine jv_iadd C dX3_hasRoom_5 ?_
  refine jv_ti (y := 11) (by decide) ?_
  refine jv_sipush (v := 1600) C dX3_hasRoom_6 (by decide) ?_
  refine jv_icmp_gt (tgt := 16) C dX3_hasRoom_9 (by decide) (fun h => absurd h (by decide)) (fun _ => ?_)
  refine jv_iconst (v := 1) C dX3_hasRoom_12 (by decide) ?_
  refine jv_goto (tgt := 17) C dX3_hasRoom_13 (by decide) ?_
  exact jv_zret C B (by decide) ⟨rfl, rfl, rfl⟩ ⟨by decide, by decide⟩ dX3_hasRoom_17
set_option maxRecDepth 100000 in
set_option maxHeartbeats 8000000 in
theorem c_X3_hasRoom_11 (l : Launch) (D : va_G) (kp : Nat → ClassId) {n : Nat} {E : Nat → jv_E} (h17 : E 17 = .inr (3, [.ref 18, .int 11, .int 0, .int (-1), .ref 8, .int 0, .int 0, .int 0, .int 0, .int 0, .int 0, .int 0]))  : jv_M l D vwCl kp yX3_hasRoom wsX3_hasRoom rm1 [] [.ref 17, .int 1] n E 0 0 (fun r n1 E1 => some (.int 1) = r ∧ n = n1 ∧ E = E1) := by
  refine jv_of (by decide) rfl (Nat.le_of_ble_eq_true rfl) (fun G C B hI hnl => ?_)
  show jv_V l D vwCl kp G 0 0 n E 0 [(0, .ref 17), (1, .int 1)] []
  refine jv_aload_n C dX3_hasRoom_0 0 rfl ?_
  refine jv_getf (fk := 1) C (by decide) h17 rfl in_X3_hasRoom_3 (by decide) (by decide +kernel) rfl rfl dX3_hasRoom_1 ?_
  refine jv_iload_n C dX3_hasRoom_4 1 rfl ?_
  refine jv_iadd C dX3_hasRoom_5 ?_
  refine jv_ti (y := 12) (by decide) ?_
  refine jv_sipush (v := 1600) C dX3_hasRoom_6 (by decide) ?_
  refine jv_icmp_gt (tgt := 16) C dX3_hasRoom_9 (by decide) (fun h => absurd h (by decide)) (fun _ => ?_)
  refine jv_iconst (v := 1) C dX3_hasRoom_12 (by decide) ?_
  refine jv_goto (tgt := 17) C dX3_hasRoom_13 (by decide) ?_
  exact jv_zret C B (by decide) ⟨rfl, rfl, rfl⟩ ⟨by decide, by decide⟩ dX3_hasRoom_17
set_option maxRecDepth 100000 in
set_option maxHeartbeats 8000000 in
theorem c_X3_hasRoom_12 (l : Launch) (D : va_G) (kp : Nat → ClassId) {n : Nat} {E : Nat → jv_E} (h17 : E 17 = .inr (3, [.ref 18, .int 12, .int 0, .int (-1), .ref 8, .int 0, .int 0, .int 0, .int 0, .int 0, .int 0, .int 0]))  : jv_M l D vwCl kp yX3_hasRoom wsX3_hasRoom rm1 [] [.ref 17, .int 1] n E 0 0 (fun r n1 E1 => some (.int 1) = r ∧ n = n1 ∧ E = E1) := by
  refine jv_of (by decide) rfl (Nat.le_of_ble_eq_true rfl) (fun G C B hI hnl => ?_)
  show jv_V l D vwCl kp G 0 0 n E 0 [(0, .ref 17), (1, .int 1)] []
  refine jv_aload_n C dX3_hasRoom_0 0 rfl ?_
  refine jv_getf (fk := 1) C (by decide) h17 rfl in_X3_hasRoom_3 (by decide) (by decide +kernel) rfl rfl dX3_hasRoom_1 ?_
  refine jv_iload_n C dX3_hasRoom_4 1 rfl ?_
  refine jv_iadd C dX3_hasRoom_5 ?_
  refine jv_ti (y := 13) (by decide) ?_
  refine jv_sipush (v := 1600) C dX3_hasRoom_6 (by decide) ?_
  refine jv_icmp_gt (tgt := 16) C dX3_hasRoom_9 (by decide) (fun h => absurd h (by decide)) (fun _ => ?_)
  refine jv_iconst (v := 1) C dX3_hasRoom_12 (by decide) ?_
  refine jv_goto (tgt := 17) C dX3_hasRoom_13 (by decide) ?_
  exact jv_zret C B (by decide) ⟨rfl, rfl, rfl⟩ ⟨by decide, by decide⟩ dX3_hasRoom_17
set_option maxRecDepth 100000 in
set_option maxHeartbeats 8000000 in
theorem c_X3_hasRoom_13 (l : Launch) (D : va_G) (kp : Nat → ClassId) {n : Nat} {E : Nat → jv_E} (h17 : E 17 = .inr (3, [.ref 18, .int 13, .int 0, .int (-1), .ref 8, .int 0, .int 0, .int 0, .int 0, .int 0, .int 0, .int 0]))  : jv_M l D vwCl kp yX3_hasRoom wsX3_hasRoom rm1 [] [.ref 17, .int 1] n E 0 0 (fun r n1 E1 => some (.int 1) = r ∧ n = n1 ∧ E = E1) := by
  refine jv_of (by decide) rfl (Nat.le_of_ble_eq_true rfl) (fun G C B hI hnl => ?_)
  show jv_V l D vwCl kp G 0 0 n E 0 [(0, .ref 17), (1, .int 1)] []
  refine jv_aload_n C dX3_hasRoom_0 0 rfl ?_
  refine jv_getf (fk := 1) C (by decide) h17 rfl in_X3_hasRoom_3 (by decide) (by decide +kernel) rfl rfl dX3_hasRoom_1 ?_
  refine jv_iload_n C dX3_hasRoom_4 1 rfl ?_
  refine jv_iadd C dX3_hasRoom_5 ?_
  refine jv_ti (y := 14) (by decide) ?_
  refine jv_sipush (v := 1600) C dX3_hasRoom_6 (by decide) ?_
  refine jv_icmp_gt (tgt := 16) C dX3_hasRoom_9 (by decide) (fun h => absurd h (by decide)) (fun _ => ?_)
  refine jv_iconst (v := 1) C dX3_hasRoom_12 (by decide) ?_
  refine jv_goto (tgt := 17) C dX3_hasRoom_13 (by decide) ?_
  exact jv_zret C B (by decide) ⟨rfl, rfl, rfl⟩ ⟨by decide, by decide⟩ dX3_hasRoom_17
set_option maxRecDepth 100000 in
set_option maxHeartbeats 8000000 in
theorem c_X3_hasRoom_14 (l : Launch) (D : va_G) (kp : Nat → ClassId) {n : Nat} {E : Nat → jv_E} (h17 : E 17 = .inr (3, [.ref 18, .int 14, .int 0, .int (-1), .ref 8, .int 0, .int 0, .int 0, .int 0, .int 0, .int 0, .int 0]))  : jv_M l D vwCl kp yX3_hasRoom wsX3_hasRoom rm1 [] [.ref 17, .int 1] n E 0 0 (fun r n1 E1 => some (.int 1) = r ∧ n = n1 ∧ E = E1) := by
  refine jv_of (by decide) rfl (Nat.le_of_ble_eq_true rfl) (fun G C B hI hnl => ?_)
  show jv_V l D vwCl kp G 0 0 n E 0 [(0, .ref 17), (1, .int 1)] []
  refine jv_aload_n C dX3_hasRoom_0 0 rfl ?_
  refine jv_getf (fk := 1) C (by decide) h17 rfl in_X3_hasRoom_3 (by decide) (by decide +kernel) rfl rfl dX3_hasRoom_1 ?_
  refine jv_iload_n C dX3_hasRoom_4 1 rfl ?_
  refine jv_iadd C dX3_hasRoom_5 ?_
  refine jv_ti (y := 15) (by decide) ?_
  refine jv_sipush (v := 1600) C dX3_hasRoom_6 (by decide) ?_
  refine jv_icmp_gt (tgt := 16) C dX3_hasRoom_9 (by decide) (fun h => absurd h (by decide)) (fun _ => ?_)
  refine jv_iconst (v := 1) C dX3_hasRoom_12 (by decide) ?_
  refine jv_goto (tgt := 17) C dX3_hasRoom_13 (by decide) ?_
  exact jv_zret C B (by decide) ⟨rfl, rfl, rfl⟩ ⟨by decide, by decide⟩ dX3_hasRoom_17
set_option maxRecDepth 100000 in
set_option maxHeartbeats 8000000 in
theorem c_X3_hasRoom_15 (l : Launch) (D : va_G) (kp : Nat → ClassId) {n : Nat} {E : Nat → jv_E} (h17 : E 17 = .inr (3, [.ref 18, .int 15, .int 0, .int (-1), .ref 8, .int 0, .int 0, .int 0, .int 0, .int 0, .int 0, .int 0]))  : jv_M l D vwCl kp yX3_hasRoom wsX3_hasRoom rm1 [] [.ref 17, .int 1] n E 0 0 (fun r n1 E1 => some (.int 1) = r ∧ n = n1 ∧ E = E1) := by
  refine jv_of (by decide) rfl (Nat.le_of_ble_eq_true rfl) (fun G C B hI hnl => ?_)
  show jv_V l D vwCl kp G 0 0 n E 0 [(0, .ref 17), (1, .int 1)] []
  refine jv_aload_n C dX3_hasRoom_0 0 rfl ?_
  refine jv_getf (fk := 1) C (by decide) h17 rfl in_X3_hasRoom_3 (by decide) (by decide +kernel) rfl rfl dX3_hasRoom_1 ?_
  refine jv_iload_n C dX3_hasRoom_4 1 rfl ?_
  refine jv_iadd C dX3_hasRoom_5 ?_
  refine jv_ti (y := 16) (by decide) ?_
  refine jv_sipush (v := 1600) C dX3_hasRoom_6 (by decide) ?_
  refine jv_icmp_gt (tgt := 16) C dX3_hasRoom_9 (by decide) (fun h => absurd h (by decide)) (fun _ => ?_)
  refine jv_iconst (v := 1) C dX3_hasRoom_12 (by decide) ?_
  refine jv_goto (tgt := 17) C dX3_hasRoom_13 (by decide) ?_
  exact jv_zret C B (by decide) ⟨rfl, rfl, rfl⟩ ⟨by decide, by decide⟩ dX3_hasRoom_17
set_option maxRecDepth 100000 in
set_option maxHeartbeats 8000000 in
theorem c_X3_hasRoom_16 (l : Launch) (D : va_G) (kp : Nat → ClassId) {n : Nat} {E : Nat → jv_E} (h17 : E 17 = .inr (3, [.ref 18, .int 16, .int 0, .int (-1), .ref 8, .int 0, .int 0, .int 0, .int 0, .int 0, .int 0, .int 0]))  : jv_M l D vwCl kp yX3_hasRoom wsX3_hasRoom rm1 [] [.ref 17, .int 1] n E 0 0 (fun r n1 E1 => some (.int 1) = r ∧ n = n1 ∧ E = E1) := by
  refine jv_of (by decide) rfl (Nat.le_of_ble_eq_true rfl) (fun G C B hI hnl => ?_)
  show jv_V l D vwCl kp G 0 0 n E 0 [(0, .ref 17), (1, .int 1)] []
  refine jv_aload_n C dX3_hasRoom_0 0 rfl ?_
  refine jv_getf (fk := 1) C (by decide) h17 rfl in_X3_hasRoom_3 (by decide) (by decide +kernel) rfl rfl dX3_hasRoom_1 ?_
  refine jv_iload_n C dX3_hasRoom_4 1 rfl ?_
  refine jv_iadd C dX3_hasRoom_5 ?_
  refine jv_ti (y := 17) (by decide) ?_
  refine jv_sipush (v := 1600) C dX3_hasRoom_6 (by decide) ?_
  refine jv_icmp_gt (tgt := 16) C dX3_hasRoom_9 (by decide) (fun h => absurd h (by decide)) (fun _ => ?_)
  refine jv_iconst (v := 1) C dX3_hasRoom_12 (by decide) ?_
  refine jv_goto (tgt := 17) C dX3_hasRoom_13 (by decide) ?_
  exact jv_zret C B (by decide) ⟨rfl, rfl, rfl⟩ ⟨by decide, by decide⟩ dX3_hasRoom_17
set_option maxRecDepth 100000 in
set_option maxHeartbeats 8000000 in
theorem c_X3_hasRoom_17 (l : Launch) (D : va_G) (kp : Nat → ClassId) {n : Nat} {E : Nat → jv_E} (h17 : E 17 = .inr (3, [.ref 18, .int 17, .int 0, .int (-1), .ref 8, .int 0, .int 0, .int 0, .int 0, .int 0, .int 0, .int 0]))  : jv_M l D vwCl kp yX3_hasRoom wsX3_hasRoom rm1 [] [.ref 17, .int 1] n E 0 0 (fun r n1 E1 => some (.int 1) = r ∧ n = n1 ∧ E = E1) := by
  refine jv_of (by decide) rfl (Nat.le_of_ble_eq_true rfl) (fun G C B hI hnl => ?_)
  show jv_V l D vwCl kp G 0 0 n E 0 [(0, .ref 17), (1, .int 1)] []
  refine jv_aload_n C dX3_hasRoom_0 0 rfl ?_
  refine jv_getf (fk := 1) C (by decide) h17 rfl in_X3_hasRoom_3 (by decide) (by decide +kernel) rfl rfl dX3_hasRoom_1 ?_
  refine jv_iload_n C dX3_hasRoom_4 1 rfl ?_
  refine jv_iadd C dX3_hasRoom_5 ?_
  refine jv_ti (y := 18) (by decide) ?_
  refine jv_sipush (v := 1600) C dX3_hasRoom_6 (by decide) ?_
  refine jv_icmp_gt (tgt := 16) C dX3_hasRoom_9 (by decide) (fun h => absurd h (by decide)) (fun _ => ?_)
  refine jv_iconst (v := 1) C dX3_hasRoom_12 (by decide) ?_
  refine jv_goto (tgt := 17) C dX3_hasRoom_13 (by decide) ?_
  exact jv_zret C B (by decide) ⟨rfl, rfl, rfl⟩ ⟨by decide, by decide⟩ dX3_hasRoom_17
set_option maxRecDepth 100000 in
set_option maxHeartbeats 8000000 in
theorem c_X3_hasRoom_18 (l : Launch) (D : va_G) (kp : Nat → ClassId) {n : Nat} {E : Nat → jv_E} (h17 : E 17 = .inr (3, [.ref 18, .int 18, .int 0, .int (-1), .ref 8, .int 0, .int 0, .int 0, .int 0, .int 0, .int 0, .int 0]))  : jv_M l D vwCl kp yX3_hasRoom wsX3_hasRoom rm1 [] [.ref 17, .int 1] n E 0 0 (fun r n1 E1 => some (.int 1) = r ∧ n = n1 ∧ E = E1) := by
  refine jv_of (by decide) rfl (Nat.le_of_ble_eq_true rfl) (fun G C B hI hnl => ?_)
  show jv_V l D vwCl kp G 0 0 n E 0 [(0, .ref 17), (1, .int 1)] []
  refine jv_aload_n C dX3_hasRoom_0 0 rfl ?_
  refine jv_getf (fk := 1) C (by decide) h17 rfl in_X3_hasRoom_3 (by decide) (by decide +kernel) rfl rfl dX3_hasRoom_1 ?_
  refine jv_iload_n C dX3_hasRoom_4 1 rfl ?_
  refine jv_iadd C dX3_hasRoom_5 ?_
  refine jv_ti (y := 19) (by decide) ?_
  refine jv_sipush (v := 1600) C dX3_hasRoom_6 (by decide) ?_
  refine jv_icmp_gt (tgt := 16) C dX3_hasRoom_9 (by decide) (fun h => absurd h (by decide)) (fun _ => ?_)
  refine jv_iconst (v := 1) C dX3_hasRoom_12 (by decide) ?_
  refine jv_goto (tgt := 17) C dX3_hasRoom_13 (by decide) ?_
  exact jv_zret C B (by decide) ⟨rfl, rfl, rfl⟩ ⟨by decide, by decide⟩ dX3_hasRoom_17
set_option maxRecDepth 100000 in
set_option maxHeartbeats 8000000 in
theorem c_X3_hasRoom_19 (l : Launch) (D : va_G) (kp : Nat → ClassId) {n : Nat} {E : Nat → jv_E} (h17 : E 17 = .inr (3, [.ref 18, .int 19, .int 0, .int (-1), .ref 8, .int 0, .int 0, .int 0, .int 0, .int 0, .int 0, .int 0]))  : jv_M l D vwCl kp yX3_hasRoom wsX3_hasRoom rm1 [] [.ref 17, .int 1] n E 0 0 (fun r n1 E1 => some (.int 1) = r ∧ n = n1 ∧ E = E1) := by
  refine jv_of (by decide) rfl (Nat.le_of_ble_eq_true rfl) (fun G C B hI hnl => ?_)
  show jv_V l D vwCl kp G 0 0 n E 0 [(0, .ref 17), (1, .int 1)] []
  refine jv_aload_n C dX3_hasRoom_0 0 rfl ?_
  refine jv_getf (fk := 1) C (by decide) h17 rfl in_X3_hasRoom_3 (by decide) (by decide +kernel) rfl rfl dX3_hasRoom_1 ?_
  refine jv_iload_n C dX3_hasRoom_4 1 rfl ?_
  refine jv_iadd C dX3_hasRoom_5 ?_
  refine jv_ti (y := 20) (by decide) ?_
  refine jv_sipush (v := 1600) C dX3_hasRoom_6 (by decide) ?_
  refine jv_icmp_gt (tgt := 16) C dX3_hasRoom_9 (by decide) (fun h => absurd h (by decide)) (fun _ => ?_)
  refine jv_iconst (v := 1) C dX3_hasRoom_12 (by decide) ?_
  refine jv_goto (tgt := 17) C dX3_hasRoom_13 (by decide) ?_
  exact jv_zret C B (by decide) ⟨rfl, rfl, rfl⟩ ⟨by decide, by decide⟩ dX3_hasRoom_17
theorem q_X3_hasRoom : yX3_hasRoom.cls ≠ "java/lang/invoke/MethodHandle" ∧ yX3_hasRoom.cls ≠ "java/lang/invoke/VarHandle" ∧ (parseMethodDescriptor yX3_hasRoom.desc).map (fun d => d.parameters.length) = some 1 := by decide +kernel
theorem in_X3_append_3 : ∀ w ∈ u_ws RX3 TX3 12, w ∈ wsX3_append := by decide +kernel
set_option maxRecDepth 100000 in
set_option maxHeartbeats 8000000 in
theorem c_X3_append_0 (l : Launch) (D : va_G) (kp : Nat → ClassId) {n : Nat} {E : Nat → jv_E} {g0 : Nat → Int32} (h17 : E 17 = .inr (3, [.ref 18, .int 0, .int 0, .int (-1), .ref 8, .int 0, .int 0, .int 0, .int 0, .int 0, .int 0, .int 0])) (h18 : E 18 = .inl (1, 1600, .inl g0)) (p1 : Int32) : jv_M l D vwCl kp yX3_append wsX3_append rm2 [] [.ref 17, .int p1] n E 0 0 (fun r n1 E1 => none = r ∧ n = n1 ∧ (∀ j, j ≠ 17 → j ≠ 18 → E1 j = E j) ∧ E1 17 = .inr (3, [.ref 18, .int 4, .int 0, .int (-1), .ref 8, .int 0, .int 0, .int 0, .int 0, .int 0, .int 0, .int 0]) ∧ (∃ g, E1 18 = .inl (1, 1600, .inl g))) := by
  refine jv_of (by decide) rfl (Nat.le_of_ble_eq_true rfl) (fun G C B hI hnl => ?_)
  show jv_V l D vwCl kp G 0 0 n E 0 [(0, .ref 17), (1, .int p1)] []
  refine jv_bipush (v := 24) C dX3_append_0 (by decide) ?_
  refine jv_istore_n (lv2 := [(2, .int 24), (0, .ref 17), (1, .int p1)]) C dX3_append_2 rfl hnl (by decide) rfl ?_
  refine jv_iload_n C dX3_append_3 0 rfl ?_
  refine jv_if_lt (tgt := 44) C dX3_append_4 (by decide) (fun h => absurd h (by decide)) (fun _ => ?_)
  refine jv_aload_n C dX3_append_7 1 rfl ?_
  refine jv_iconst (v := 1) C dX3_append_8 (by decide) ?_
  refine jv_callV (na := 1) (As := [.int 1]) (st := []) C (c_X3_hasRoom_0 l D kp h17  ) gX3_append_X3_hasRoom rfl (by decide) h17 rfl rfl rfl q_X3_hasRoom rfl ⟨by decide, by decide⟩ ⟨by decide, by decide⟩ (fun _ h => absurd h List.not_mem_nil) (Nat.le_of_ble_eq_true rfl) rfl dX3_append_9 (fun r n1 E_1 hp _ => ?_)
  obtain ⟨rfl, rfl, rfl⟩ := hp
  show jv_V l D vwCl kp G 0 0 n E 12 [(2, .int 24), (0, .ref 17), (1, .int p1)] [.int 1]
  refine jv_if_eq (tgt := 44) C dX3_append_12 (by decide) (fun h => absurd h (by decide)) (fun _ => ?_)
  refine jv_aload_n C dX3_append_15 1 rfl ?_
  refine jv_getf (fk := 0) C (by decide) h17 rfl in_X3_append_3 (by decide) (by decide +kernel) rfl rfl dX3_append_16 ?_
  refine jv_aload_n C dX3_append_19 1 rfl ?_
  refine jv_getf (fk := 1) C (by decide) h17 rfl in_X3_append_3 (by decide) (by decide +kernel) rfl rfl dX3_append_20 ?_
  refine jv_iload_n C dX3_append_23 2 rfl ?_
  refine jv_iload_n C dX3_append_24 0 rfl ?_
  refine jv_ishr C dX3_append_25 ?_
  refine jv_i2b C dX3_append_26 ?_
  refine jv_bast C (by decide) h18 (jv_vi (by decide)) dX3_append_27 ?_
  refine jv_aload_n C dX3_append_28 1 rfl ?_
  refine jv_dup C dX3_append_29 rfl ?_
  refine jv_getf (fk := 1) C (by decide) (jv_n (by decide) h17) rfl in_X3_append_3 (by decide) (by decide +kernel) rfl rfl dX3_append_30 ?_
  refine jv_iconst (v := 1) C dX3_append_33 (by decide) ?_
  refine jv_iadd C dX3_append_34 ?_
  refine jv_ti (y := 1) (by decide) ?_
  refine jv_putf (fk := 1) (ty := .int) (fs2 := [.ref 18, .int 1, .int 0, .int (-1), .ref 8, .int 0, .int 0, .int 0, .int 0, .int 0, .int 0, .int 0]) C (by decide) (jv_n (by decide) h17) rfl in_X3_append_3 tyX3 tyX3_ok nmX3 (by decide) (by decide +kernel) rfl rfl rfl (fun _ => rfl) (fun _ => rfl) (Nat.le_of_ble_eq_true rfl) dX3_append_35 rfl ?_
  refine jv_iinc (lv2 := [(2, .int 16), (0, .ref 17), (1, .int p1)]) C dX3_append_38 hnl 0 rfl (by decide) (by decide) rfl ?_
  refine jv_goto (tgt := 3) C dX3_append_41 (by decide) ?_
  refine jv_iload_n C dX3_append_3 0 rfl ?_
  refine jv_if_lt (tgt := 44) C dX3_append_4 (by decide) (fun h => absurd h (by decide)) (fun _ => ?_)
  refine jv_aload_n C dX3_append_7 1 rfl ?_
  refine jv_iconst (v := 1) C dX3_append_8 (by decide) ?_
  refine jv_callV (na := 1) (As := [.int 1]) (st := []) C (c_X3_hasRoom_1 l D kp (va_up_self _ _ _)  ) gX3_append_X3_hasRoom rfl (by decide) (va_up_self _ _ _) rfl rfl rfl q_X3_hasRoom rfl ⟨by decide, by decide⟩ ⟨by decide, by decide⟩ (fun _ h => absurd h List.not_mem_nil) (Nat.le_of_ble_eq_true rfl) rfl dX3_append_9 (fun r n1 E_2 hp _ => ?_)
  obtain ⟨rfl, rfl, rfl⟩ := hp
  show jv_V l D vwCl kp G 0 0 n (va_up (va_up E 18 (.inl (1, 1600, .inl (upd g0 (0 : Int32).toNatClampNeg (vp_nar .byte ((p1 >>> (24 &&& 31)).toInt8.toInt32)))))) 17 (.inr (3, [.ref 18, .int 1, .int 0, .int (-1), .ref 8, .int 0, .int 0, .int 0, .int 0, .int 0, .int 0, .int 0]))) 12 [(2, .int 16), (0, .ref 17), (1, .int p1)] [.int 1]
  refine jv_if_eq (tgt := 44) C dX3_append_12 (by decide) (fun h => absurd h (by decide)) (fun _ => ?_)
  refine jv_aload_n C dX3_append_15 1 rfl ?_
  refine jv_getf (fk := 0) C (by decide) (va_up_self _ _ _) rfl in_X3_append_3 (by decide) (by decide +kernel) rfl rfl dX3_append_16 ?_
  refine jv_aload_n C dX3_append_19 1 rfl ?_
  refine jv_getf (fk := 1) C (by decide) (va_up_self _ _ _) rfl in_X3_append_3 (by decide) (by decide +kernel) rfl rfl dX3_append_20 ?_
  refine jv_iload_n C dX3_append_23 2 rfl ?_
  refine jv_iload_n C dX3_append_24 0 rfl ?_
  refine jv_ishr C dX3_append_25 ?_
  refine jv_i2b C dX3_append_26 ?_
  refine jv_bast C (by decide) (jv_n (by decide) (va_up_self _ _ _)) (jv_vi (by decide)) dX3_append_27 ?_
  refine jv_aload_n C dX3_append_28 1 rfl ?_
  refine jv_dup C dX3_append_29 rfl ?_
  refine jv_getf (fk := 1) C (by decide) (jv_n (by decide) (va_up_self _ _ _)) rfl in_X3_append_3 (by decide) (by decide +kernel) rfl rfl dX3_append_30 ?_
  refine jv_iconst (v := 1) C dX3_append_33 (by decide) ?_
  refine jv_iadd C dX3_append_34 ?_
  refine jv_ti (y := 2) (by decide) ?_
  refine jv_putf (fk := 1) (ty := .int) (fs2 := [.ref 18, .int 2, .int 0, .int (-1), .ref 8, .int 0, .int 0, .int 0, .int 0, .int 0, .int 0, .int 0]) C (by decide) (jv_n (by decide) (va_up_self _ _ _)) rfl in_X3_append_3 tyX3 tyX3_ok nmX3 (by decide) (by decide +kernel) rfl rfl rfl (fun _ => rfl) (fun _ => rfl) (Nat.le_of_ble_eq_true rfl) dX3_append_35 rfl ?_
  refine jv_iinc (lv2 := [(2, .int 8), (0, .ref 17), (1, .int p1)]) C dX3_append_38 hnl 0 rfl (by decide) (by decide) rfl ?_
  refine jv_goto (tgt := 3) C dX3_append_41 (by decide) ?_
  refine jv_iload_n C dX3_append_3 0 rfl ?_
  refine jv_if_lt (tgt := 44) C dX3_append_4 (by decide) (fun h => absurd h (by decide)) (fun _ => ?_)
  refine jv_aload_n C dX3_append_7 1 rfl ?_
  refine jv_iconst (v := 1) C dX3_append_8 (by decide) ?_
  refine jv_callV (na := 1) (As := [.int 1]) (st := []) C (c_X3_hasRoom_2 l D kp (va_up_self _ _ _)  ) gX3_append_X3_hasRoom rfl (by decide) (va_up_self _ _ _) rfl rfl rfl q_X3_hasRoom rfl ⟨by decide, by decide⟩ ⟨by decide, by decide⟩ (fun _ h => absurd h List.not_mem_nil) (Nat.le_of_ble_eq_true rfl) rfl dX3_append_9 (fun r n1 E_3 hp _ => ?_)
  obtain ⟨rfl, rfl, rfl⟩ := hp
  show jv_V l D vwCl kp G 0 0 n (va_up (va_up (va_up (va_up E 18 (.inl (1, 1600, .inl (upd g0 (0 : Int32).toNatClampNeg (vp_nar .byte ((p1 >>> (24 &&& 31)).toInt8.toInt32)))))) 17 (.inr (3, [.ref 18, .int 1, .int 0, .int (-1), .ref 8, .int 0, .int 0, .int 0, .int 0, .int 0, .int 0, .int 0]))) 18 (.inl (1, 1600, .inl (upd (upd g0 (0 : Int32).toNatClampNeg (vp_nar .byte ((p1 >>> (24 &&& 31)).toInt8.toInt32))) (1 : Int32).toNatClampNeg (vp_nar .byte ((p1 >>> (16 &&& 31)).toInt8.toInt32)))))) 17 (.inr (3, [.ref 18, .int 2, .int 0, .int (-1), .ref 8, .int 0, .int 0, .int 0, .int 0, .int 0, .int 0, .int 0]))) 12 [(2, .int 8), (0, .ref 17), (1, .int p1)] [.int 1]
  refine jv_if_eq (tgt := 44) C dX3_append_12 (by decide) (fun h => absurd h (by decide)) (fun _ => ?_)
  refine jv_aload_n C dX3_append_15 1 rfl ?_
  refine jv_getf (fk := 0) C (by decide) (va_up_self _ _ _) rfl in_X3_append_3 (by decide) (by decide +kernel) rfl rfl dX3_append_16 ?_
  refine jv_aload_n C dX3_append_19 1 rfl ?_
  refine jv_getf (fk := 1) C (by decide) (va_up_self _ _ _) rfl in_X3_append_3 (by decide) (by decide +kernel) rfl rfl dX3_append_20 ?_
  refine jv_iload_n C dX3_append_23 2 rfl ?_
  refine jv_iload_n C dX3_append_24 0 rfl ?_
  refine jv_ishr C dX3_append_25 ?_
  refine jv_i2b C dX3_append_26 ?_
  refine jv_bast C (by decide) (jv_n (by decide) (va_up_self _ _ _)) (jv_vi (by decide)) dX3_append_27 ?_
  refine jv_aload_n C dX3_append_28 1 rfl ?_
  refine jv_dup C dX3_append_29 rfl ?_
  refine jv_getf (fk := 1) C (by decide) (jv_n (by decide) (va_up_self _ _ _)) rfl in_X3_append_3 (by decide) (by decide +kernel) rfl rfl dX3_append_30 ?_
  refine jv_iconst (v := 1) C dX3_append_33 (by decide) ?_
  refine jv_iadd C dX3_append_34 ?_
  refine jv_ti (y := 3) (by decide) ?_
  refine jv_putf (fk := 1) (ty := .int) (fs2 := [.ref 18, .int 3, .int 0, .int (-1), .ref 8, .int 0, .int 0, .int 0, .int 0, .int 0, .int 0, .int 0]) C (by decide) (jv_n (by decide) (va_up_self _ _ _)) rfl in_X3_append_3 tyX3 tyX3_ok nmX3 (by decide) (by decide +kernel) rfl rfl rfl (fun _ => rfl) (fun _ => rfl) (Nat.le_of_ble_eq_true rfl) dX3_append_35 rfl ?_
  refine jv_iinc (lv2 := [(2, .int 0), (0, .ref 17), (1, .int p1)]) C dX3_append_38 hnl 0 rfl (by decide) (by decide) rfl ?_
  refine jv_goto (tgt := 3) C dX3_append_41 (by decide) ?_
  refine jv_iload_n C dX3_append_3 0 rfl ?_
  refine jv_if_lt (tgt := 44) C dX3_append_4 (by decide) (fun h => absurd h (by decide)) (fun _ => ?_)
  refine jv_aload_n C dX3_append_7 1 rfl ?_
  refine jv_iconst (v := 1) C dX3_append_8 (by decide) ?_
  refine jv_callV (na := 1) (As := [.int 1]) (st := []) C (c_X3_hasRoom_3 l D kp (va_up_self _ _ _)  ) gX3_append_X3_hasRoom rfl (by decide) (va_up_self _ _ _) rfl rfl rfl q_X3_hasRoom rfl ⟨by decide, by decide⟩ ⟨by decide, by decide⟩ (fun _ h => absurd h List.not_mem_nil) (Nat.le_of_ble_eq_true rfl) rfl dX3_append_9 (fun r n1 E_4 hp _ => ?_)
  obtain ⟨rfl, rfl, rfl⟩ := hp
  show jv_V l D vwCl kp G 0 0 n (va_up (va_up (va_up (va_up (va_up (va_up E 18 (.inl (1, 1600, .inl (upd g0 (0 : Int32).toNatClampNeg (vp_nar .byte ((p1 >>> (24 &&& 31)).toInt8.toInt32)))))) 17 (.inr (3, [.ref 18, .int 1, .int 0, .int (-1), .ref 8, .int 0, .int 0, .int 0, .int 0, .int 0, .int 0, .int 0]))) 18 (.inl (1, 1600, .inl (upd (upd g0 (0 : Int32).toNatClampNeg (vp_nar .byte ((p1 >>> (24 &&& 31)).toInt8.toInt32))) (1 : Int32).toNatClampNeg (vp_nar .byte ((p1 >>> (16 &&& 31)).toInt8.toInt32)))))) 17 (.inr (3, [.ref 18, .int 2, .int 0, .int (-1), .ref 8, .int 0, .int 0, .int 0, .int 0, .int 0, .int 0, .int 0]))) 18 (.inl (1, 1600, .inl (upd (upd (upd g0 (0 : Int32).toNatClampNeg (vp_nar .byte ((p1 >>> (24 &&& 31)).toInt8.toInt32))) (1 : Int32).toNatClampNeg (vp_nar .byte ((p1 >>> (16 &&& 31)).toInt8.toInt32))) (2 : Int32).toNatClampNeg (vp_nar .byte ((p1 >>> (8 &&& 31)).toInt8.toInt32)))))) 17 (.inr (3, [.ref 18, .int 3, .int 0, .int (-1), .ref 8, .int 0, .int 0, .int 0, .int 0, .int 0, .int 0, .int 0]))) 12 [(2, .int 0), (0, .ref 17), (1, .int p1)] [.int 1]
  refine jv_if_eq (tgt := 44) C dX3_append_12 (by decide) (fun h => absurd h (by decide)) (fun _ => ?_)
  refine jv_aload_n C dX3_append_15 1 rfl ?_
  refine jv_getf (fk := 0) C (by decide) (va_up_self _ _ _) rfl in_X3_append_3 (by decide) (by decide +kernel) rfl rfl dX3_append_16 ?_
  refine jv_aload_n C dX3_append_19 1 rfl ?_
  refine jv_getf (fk := 1) C (by decide) (va_up_self _ _ _) rfl in_X3_append_3 (by decide) (by decide +kernel) rfl rfl dX3_append_20 ?_
  refine jv_iload_n C dX3_append_23 2 rfl ?_
  refine jv_iload_n C dX3_append_24 0 rfl ?_
  refine jv_ishr C dX3_append_25 ?_
  refine jv_i2b C dX3_append_26 ?_
  refine jv_bast C (by decide) (jv_n (by decide) (va_up_self _ _ _)) (jv_vi (by decide)) dX3_append_27 ?_
  refine jv_aload_n C dX3_append_28 1 rfl ?_
  refine jv_dup C dX3_append_29 rfl ?_
  refine jv_getf (fk := 1) C (by decide) (jv_n (by decide) (va_up_self _ _ _)) rfl in_X3_append_3 (by decide) (by decide +kernel) rfl rfl dX3_append_30 ?_
  refine jv_iconst (v := 1) C dX3_append_33 (by decide) ?_
  refine jv_iadd C dX3_append_34 ?_
  refine jv_ti (y := 4) (by decide) ?_
  refine jv_putf (fk := 1) (ty := .int) (fs2 := [.ref 18, .int 4, .int 0, .int (-1), .ref 8, .int 0, .int 0, .int 0, .int 0, .int 0, .int 0, .int 0]) C (by decide) (jv_n (by decide) (va_up_self _ _ _)) rfl in_X3_append_3 tyX3 tyX3_ok nmX3 (by decide) (by decide +kernel) rfl rfl rfl (fun _ => rfl) (fun _ => rfl) (Nat.le_of_ble_eq_true rfl) dX3_append_35 rfl ?_
  refine jv_iinc (lv2 := [(2, .int (-8)), (0, .ref 17), (1, .int p1)]) C dX3_append_38 hnl 0 rfl (by decide) (by decide) rfl ?_
  refine jv_goto (tgt := 3) C dX3_append_41 (by decide) ?_
  refine jv_iload_n C dX3_append_3 0 rfl ?_
  refine jv_if_lt (tgt := 44) C dX3_append_4 (by decide) (fun _ => ?_) (fun h => absurd (by decide) h)
  exact jv_vret C B ⟨rfl, rfl, fun j g0 g1 => ((va_up_ne _ _ g0).trans ((va_up_ne _ _ g1).trans ((va_up_ne _ _ g0).trans ((va_up_ne _ _ g1).trans ((va_up_ne _ _ g0).trans ((va_up_ne _ _ g1).trans ((va_up_ne _ _ g0).trans (va_up_ne _ _ g1)))))))), (va_up_self _ _ _), ⟨_, (jv_n (by decide) (va_up_self _ _ _))⟩⟩ ⟨by decide, by decide⟩ dX3_append_44
set_option maxRecDepth 100000 in
set_option maxHeartbeats 8000000 in
theorem c_X3_append_4 (l : Launch) (D : va_G) (kp : Nat → ClassId) {n : Nat} {E : Nat → jv_E} {g0 : Nat → Int32} (h17 : E 17 = .inr (3, [.ref 18, .int 4, .int 0, .int (-1), .ref 8, .int 0, .int 0, .int 0, .int 0, .int 0, .int 0, .int 0])) (h18 : E 18 = .inl (1, 1600, .inl g0)) (p1 : Int32) : jv_M l D vwCl kp yX3_append wsX3_append rm2 [] [.ref 17, .int p1] n E 0 0 (fun r n1 E1 => none = r ∧ n = n1 ∧ (∀ j, j ≠ 17 → j ≠ 18 → E1 j = E j) ∧ E1 17 = .inr (3, [.ref 18, .int 8, .int 0, .int (-1), .ref 8, .int 0, .int 0, .int 0, .int 0, .int 0, .int 0, .int 0]) ∧ (∃ g, E1 18 = .inl (1, 1600, .inl g))) := by
  refine jv_of (by decide) rfl (Nat.le_of_ble_eq_true rfl) (fun G C B hI hnl => ?_)
  show jv_V l D vwCl kp G 0 0 n E 0 [(0, .ref 17), (1, .int p1)] []
  refine jv_bipush (v := 24) C dX3_append_0 (by decide) ?_
  refine jv_istore_n (lv2 := [(2, .int 24), (0, .ref 17), (1, .int p1)]) C dX3_append_2 rfl hnl (by decide) rfl ?_
  refine jv_iload_n C dX3_append_3 0 rfl ?_
  refine jv_if_lt (tgt := 44) C dX3_append_4 (by decide) (fun h => absurd h (by decide)) (fun _ => ?_)
  refine jv_aload_n C dX3_append_7 1 rfl ?_
  refine jv_iconst (v := 1) C dX3_append_8 (by decide) ?_
  refine jv_callV (na := 1) (As := [.int 1]) (st := []) C (c_X3_hasRoom_4 l D kp h17  ) gX3_append_X3_hasRoom rfl (by decide) h17 rfl rfl rfl q_X3_hasRoom rfl ⟨by decide, by decide⟩ ⟨by decide, by decide⟩ (fun _ h => absurd h List.not_mem_nil) (Nat.le_of_ble_eq_true rfl) rfl dX3_append_9 (fun r n1 E_1 hp _ => ?_)
  obtain ⟨rfl, rfl, rfl⟩ := hp
  show jv_V l D vwCl kp G 0 0 n E 12 [(2, .int 24), (0, .ref 17), (1, .int p1)] [.int 1]
  refine jv_if_eq (tgt := 44) C dX3_append_12 (by decide) (fun h => absurd h (by decide)) (fun _ => ?_)
  refine jv_aload_n C dX3_append_15 1 rfl ?_
  refine jv_getf (fk := 0) C (by decide) h17 rfl in_X3_append_3 (by decide) (by decide +kernel) rfl rfl dX3_append_16 ?_
  refine jv_aload_n C dX3_append_19 1 rfl ?_
  refine jv_getf (fk := 1) C (by decide) h17 rfl in_X3_append_3 (by decide) (by decide +kernel) rfl rfl dX3_append_20 ?_
  refine jv_iload_n C dX3_append_23 2 rfl ?_
  refine jv_iload_n C dX3_append_24 0 rfl ?_
  refine jv_ishr C dX3_append_25 ?_
  refine jv_i2b C dX3_append_26 ?_
  refine jv_bast C (by decide) h18 (jv_vi (by decide)) dX3_append_27 ?_
  refine jv_aload_n C dX3_append_28 1 rfl ?_
  refine jv_dup C dX3_append_29 rfl ?_
  refine jv_getf (fk := 1) C (by decide) (jv_n (by decide) h17) rfl in_X3_append_3 (by decide) (by decide +kernel) rfl rfl dX3_append_30 ?_
  refine jv_iconst (v := 1) C dX3_append_33 (by decide) ?_
  refine jv_iadd C dX3_append_34 ?_
  refine jv_ti (y := 5) (by decide) ?_
  refine jv_putf (fk := 1) (ty := .int) (fs2 := [.ref 18, .int 5, .int 0, .int (-1), .ref 8, .int 0, .int 0, .int 0, .int 0, .int 0, .int 0, .int 0]) C (by decide) (jv_n (by decide) h17) rfl in_X3_append_3 tyX3 tyX3_ok nmX3 (by decide) (by decide +kernel) rfl rfl rfl (fun _ => rfl) (fun _ => rfl) (Nat.le_of_ble_eq_true rfl) dX3_append_35 rfl ?_
  refine jv_iinc (lv2 := [(2, .int 16), (0, .ref 17), (1, .int p1)]) C dX3_append_38 hnl 0 rfl (by decide) (by decide) rfl ?_
  refine jv_goto (tgt := 3) C dX3_append_41 (by decide) ?_
  refine jv_iload_n C dX3_append_3 0 rfl ?_
  refine jv_if_lt (tgt := 44) C dX3_append_4 (by decide) (fun h => absurd h (by decide)) (fun _ => ?_)
  refine jv_aload_n C dX3_append_7 1 rfl ?_
  refine jv_iconst (v := 1) C dX3_append_8 (by decide) ?_
  refine jv_callV (na := 1) (As := [.int 1]) (st := []) C (c_X3_hasRoom_5 l D kp (va_up_self _ _ _)  ) gX3_append_X3_hasRoom rfl (by decide) (va_up_self _ _ _) rfl rfl rfl q_X3_hasRoom rfl ⟨by decide, by decide⟩ ⟨by decide, by decide⟩ (fun _ h => absurd h List.not_mem_nil) (Nat.le_of_ble_eq_true rfl) rfl dX3_append_9 (fun r n1 E_2 hp _ => ?_)
  obtain ⟨rfl, rfl, rfl⟩ := hp
  show jv_V l D vwCl kp G 0 0 n (va_up (va_up E 18 (.inl (1, 1600, .inl (upd g0 (4 : Int32).toNatClampNeg (vp_nar .byte ((p1 >>> (24 &&& 31)).toInt8.toInt32)))))) 17 (.inr (3, [.ref 18, .int 5, .int 0, .int (-1), .ref 8, .int 0, .int 0, .int 0, .int 0, .int 0, .int 0, .int 0]))) 12 [(2, .int 16), (0, .ref 17), (1, .int p1)] [.int 1]
  refine jv_if_eq (tgt := 44) C dX3_append_12 (by decide) (fun h => absurd h (by decide)) (fun _ => ?_)
  refine jv_aload_n C dX3_append_15 1 rfl ?_
  refine jv_getf (fk := 0) C (by decide) (va_up_self _ _ _) rfl in_X3_append_3 (by decide) (by decide +kernel) rfl rfl dX3_append_16 ?_
  refine jv_aload_n C dX3_append_19 1 rfl ?_
  refine jv_getf (fk := 1) C (by decide) (va_up_self _ _ _) rfl in_X3_append_3 (by decide) (by decide +kernel) rfl rfl dX3_append_20 ?_
  refine jv_iload_n C dX3_append_23 2 rfl ?_
  refine jv_iload_n C dX3_append_24 0 rfl ?_
  refine jv_ishr C dX3_append_25 ?_
  refine jv_i2b C dX3_append_26 ?_
  refine jv_bast C (by decide) (jv_n (by decide) (va_up_self _ _ _)) (jv_vi (by decide)) dX3_append_27 ?_
  refine jv_aload_n C dX3_append_28 1 rfl ?_
  refine jv_dup C dX3_append_29 rfl ?_
  refine jv_getf (fk := 1) C (by decide) (jv_n (by decide) (va_up_self _ _ _)) rfl in_X3_append_3 (by decide) (by decide +kernel) rfl rfl dX3_append_30 ?_
  refine jv_iconst (v := 1) C dX3_append_33 (by decide) ?_
  refine jv_iadd C dX3_append_34 ?_
  refine jv_ti (y := 6) (by decide) ?_
  refine jv_putf (fk := 1) (ty := .int) (fs2 := [.ref 18, .int 6, .int 0, .int (-1), .ref 8, .int 0, .int 0, .int 0, .int 0, .int 0, .int 0, .int 0]) C (by decide) (jv_n (by decide) (va_up_self _ _ _)) rfl in_X3_append_3 tyX3 tyX3_ok nmX3 (by decide) (by decide +kernel) rfl rfl rfl (fun _ => rfl) (fun _ => rfl) (Nat.le_of_ble_eq_true rfl) dX3_append_35 rfl ?_
  refine jv_iinc (lv2 := [(2, .int 8), (0, .ref 17), (1, .int p1)]) C dX3_append_38 hnl 0 rfl (by decide) (by decide) rfl ?_
  refine jv_goto (tgt := 3) C dX3_append_41 (by decide) ?_
  refine jv_iload_n C dX3_append_3 0 rfl ?_
  refine jv_if_lt (tgt := 44) C dX3_append_4 (by decide) (fun h => absurd h (by decide)) (fun _ => ?_)
  refine jv_aload_n C dX3_append_7 1 rfl ?_
  refine jv_iconst (v := 1) C dX3_append_8 (by decide) ?_
  refine jv_callV (na := 1) (As := [.int 1]) (st := []) C (c_X3_hasRoom_6 l D kp (va_up_self _ _ _)  ) gX3_append_X3_hasRoom rfl (by decide) (va_up_self _ _ _) rfl rfl rfl q_X3_hasRoom rfl ⟨by decide, by decide⟩ ⟨by decide, by decide⟩ (fun _ h => absurd h List.not_mem_nil) (Nat.le_of_ble_eq_true rfl) rfl dX3_append_9 (fun r n1 E_3 hp _ => ?_)
  obtain ⟨rfl, rfl, rfl⟩ := hp
  show jv_V l D vwCl kp G 0 0 n (va_up (va_up (va_up (va_up E 18 (.inl (1, 1600, .inl (upd g0 (4 : Int32).toNatClampNeg (vp_nar .byte ((p1 >>> (24 &&& 31)).toInt8.toInt32)))))) 17 (.inr (3, [.ref 18, .int 5, .int 0, .int (-1), .ref 8, .int 0, .int 0, .int 0, .int 0, .int 0, .int 0, .int 0]))) 18 (.inl (1, 1600, .inl (upd (upd g0 (4 : Int32).toNatClampNeg (vp_nar .byte ((p1 >>> (24 &&& 31)).toInt8.toInt32))) (5 : Int32).toNatClampNeg (vp_nar .byte ((p1 >>> (16 &&& 31)).toInt8.toInt32)))))) 17 (.inr (3, [.ref 18, .int 6, .int 0, .int (-1), .ref 8, .int 0, .int 0, .int 0, .int 0, .int 0, .int 0, .int 0]))) 12 [(2, .int 8), (0, .ref 17), (1, .int p1)] [.int 1]
  refine jv_if_eq (tgt := 44) C dX3_append_12 (by decide) (fun h => absurd h (by decide)) (fun _ => ?_)
  refine jv_aload_n C dX3_append_15 1 rfl ?_
  refine jv_getf (fk := 0) C (by decide) (va_up_self _ _ _) rfl in_X3_append_3 (by decide) (by decide +kernel) rfl rfl dX3_append_16 ?_
  refine jv_aload_n C dX3_append_19 1 rfl ?_
  refine jv_getf (fk := 1) C (by decide) (va_up_self _ _ _) rfl in_X3_append_3 (by decide) (by decide +kernel) rfl rfl dX3_append_20 ?_
  refine jv_iload_n C dX3_append_23 2 rfl ?_
  refine jv_iload_n C dX3_append_24 0 rfl ?_
  refine jv_ishr C dX3_append_25 ?_
  refine jv_i2b C dX3_append_26 ?_
  refine jv_bast C (by decide) (jv_n (by decide) (va_up_self _ _ _)) (jv_vi (by decide)) dX3_append_27 ?_
  refine jv_aload_n C dX3_append_28 1 rfl ?_
  refine jv_dup C dX3_append_29 rfl ?_
  refine jv_getf (fk := 1) C (by decide) (jv_n (by decide) (va_up_self _ _ _)) rfl in_X3_append_3 (by decide) (by decide +kernel) rfl rfl dX3_append_30 ?_
  refine jv_iconst (v := 1) C dX3_append_33 (by decide) ?_
  refine jv_iadd C dX3_append_34 ?_
  refine jv_ti (y := 7) (by decide) ?_
  refine jv_putf (fk := 1) (ty := .int) (fs2 := [.ref 18, .int 7, .int 0, .int (-1), .ref 8, .int 0, .int 0, .int 0, .int 0, .int 0, .int 0, .int 0]) C (by decide) (jv_n (by decide) (va_up_self _ _ _)) rfl in_X3_append_3 tyX3 tyX3_ok nmX3 (by decide) (by decide +kernel) rfl rfl rfl (fun _ => rfl) (fun _ => rfl) (Nat.le_of_ble_eq_true rfl) dX3_append_35 rfl ?_
  refine jv_iinc (lv2 := [(2, .int 0), (0, .ref 17), (1, .int p1)]) C dX3_append_38 hnl 0 rfl (by decide) (by decide) rfl ?_
  refine jv_goto (tgt := 3) C dX3_append_41 (by decide) ?_
  refine jv_iload_n C dX3_append_3 0 rfl ?_
  refine jv_if_lt (tgt := 44) C dX3_append_4 (by decide) (fun h => absurd h (by decide)) (fun _ => ?_)
  refine jv_aload_n C dX3_append_7 1 rfl ?_
  refine jv_iconst (v := 1) C dX3_append_8 (by decide) ?_
  refine jv_callV (na := 1) (As := [.int 1]) (st := []) C (c_X3_hasRoom_7 l D kp (va_up_self _ _ _)  ) gX3_append_X3_hasRoom rfl (by decide) (va_up_self _ _ _) rfl rfl rfl q_X3_hasRoom rfl ⟨by decide, by decide⟩ ⟨by decide, by decide⟩ (fun _ h => absurd h List.not_mem_nil) (Nat.le_of_ble_eq_true rfl) rfl dX3_append_9 (fun r n1 E_4 hp _ => ?_)
  obtain ⟨rfl, rfl, rfl⟩ := hp
  show jv_V l D vwCl kp G 0 0 n (va_up (va_up (va_up (va_up (va_up (va_up E 18 (.inl (1, 1600, .inl (upd g0 (4 : Int32).toNatClampNeg (vp_nar .byte ((p1 >>> (24 &&& 31)).toInt8.toInt32)))))) 17 (.inr (3, [.ref 18, .int 5, .int 0, .int (-1), .ref 8, .int 0, .int 0, .int 0, .int 0, .int 0, .int 0, .int 0]))) 18 (.inl (1, 1600, .inl (upd (upd g0 (4 : Int32).toNatClampNeg (vp_nar .byte ((p1 >>> (24 &&& 31)).toInt8.toInt32))) (5 : Int32).toNatClampNeg (vp_nar .byte ((p1 >>> (16 &&& 31)).toInt8.toInt32)))))) 17 (.inr (3, [.ref 18, .int 6, .int 0, .int (-1), .ref 8, .int 0, .int 0, .int 0, .int 0, .int 0, .int 0, .int 0]))) 18 (.inl (1, 1600, .inl (upd (upd (upd g0 (4 : Int32).toNatClampNeg (vp_nar .byte ((p1 >>> (24 &&& 31)).toInt8.toInt32))) (5 : Int32).toNatClampNeg (vp_nar .byte ((p1 >>> (16 &&& 31)).toInt8.toInt32))) (6 : Int32).toNatClampNeg (vp_nar .byte ((p1 >>> (8 &&& 31)).toInt8.toInt32)))))) 17 (.inr (3, [.ref 18, .int 7, .int 0, .int (-1), .ref 8, .int 0, .int 0, .int 0, .int 0, .int 0, .int 0, .int 0]))) 12 [(2, .int 0), (0, .ref 17), (1, .int p1)] [.int 1]
  refine jv_if_eq (tgt := 44) C dX3_append_12 (by decide) (fun h => absurd h (by decide)) (fun _ => ?_)
  refine jv_aload_n C dX3_append_15 1 rfl ?_
  refine jv_getf (fk := 0) C (by decide) (va_up_self _ _ _) rfl in_X3_append_3 (by decide) (by decide +kernel) rfl rfl dX3_append_16 ?_
  refine jv_aload_n C dX3_append_19 1 rfl ?_
  refine jv_getf (fk := 1) C (by decide) (va_up_self _ _ _) rfl in_X3_append_3 (by decide) (by decide +kernel) rfl rfl dX3_append_20 ?_
  refine jv_iload_n C dX3_append_23 2 rfl ?_
  refine jv_iload_n C dX3_append_24 0 rfl ?_
  refine jv_ishr C dX3_append_25 ?_
  refine jv_i2b C dX3_append_26 ?_
  refine jv_bast C (by decide) (jv_n (by decide) (va_up_self _ _ _)) (jv_vi (by decide)) dX3_append_27 ?_
  refine jv_aload_n C dX3_append_28 1 rfl ?_
  refine jv_dup C dX3_append_29 rfl ?_
  refine jv_getf (fk := 1) C (by decide) (jv_n (by decide) (va_up_self _ _ _)) rfl in_X3_append_3 (by decide) (by decide +kernel) rfl rfl dX3_append_30 ?_
  refine jv_iconst (v := 1) C dX3_append_33 (by decide) ?_
  refine jv_iadd C dX3_append_34 ?_
  refine jv_ti (y := 8) (by decide) ?_
  refine jv_putf (fk := 1) (ty := .int) (fs2 := [.ref 18, .int 8, .int 0, .int (-1), .ref 8, .int 0, .int 0, .int 0, .int 0, .int 0, .int 0, .int 0]) C (by decide) (jv_n (by decide) (va_up_self _ _ _)) rfl in_X3_append_3 tyX3 tyX3_ok nmX3 (by decide) (by decide +kernel) rfl rfl rfl (fun _ => rfl) (fun _ => rfl) (Nat.le_of_ble_eq_true rfl) dX3_append_35 rfl ?_
  refine jv_iinc (lv2 := [(2, .int (-8)), (0, .ref 17), (1, .int p1)]) C dX3_append_38 hnl 0 rfl (by decide) (by decide) rfl ?_
  refine jv_goto (tgt := 3) C dX3_append_41 (by decide) ?_
  refine jv_iload_n C dX3_append_3 0 rfl ?_
  refine jv_if_lt (tgt := 44) C dX3_append_4 (by decide) (fun _ => ?_) (fun h => absurd (by decide) h)
  exact jv_vret C B ⟨rfl, rfl, fun j g0 g1 => ((va_up_ne _ _ g0).trans ((va_up_ne _ _ g1).trans ((va_up_ne _ _ g0).trans ((va_up_ne _ _ g1).trans ((va_up_ne _ _ g0).trans ((va_up_ne _ _ g1).trans ((va_up_ne _ _ g0).trans (va_up_ne _ _ g1)))))))), (va_up_self _ _ _), ⟨_, (jv_n (by decide) (va_up_self _ _ _))⟩⟩ ⟨by decide, by decide⟩ dX3_append_44
set_option maxRecDepth 100000 in
set_option maxHeartbeats 8000000 in
theorem c_X3_append_8 (l : Launch) (D : va_G) (kp : Nat → ClassId) {n : Nat} {E : Nat → jv_E} {g0 : Nat → Int32} (h17 : E 17 = .inr (3, [.ref 18, .int 8, .int 0, .int (-1), .ref 8, .int 0, .int 0, .int 0, .int 0, .int 0, .int 0, .int 0])) (h18 : E 18 = .inl (1, 1600, .inl g0)) (p1 : Int32) : jv_M l D vwCl kp yX3_append wsX3_append rm2 [] [.ref 17, .int p1] n E 0 0 (fun r n1 E1 => none = r ∧ n = n1 ∧ (∀ j, j ≠ 17 → j ≠ 18 → E1 j = E j) ∧ E1 17 = .inr (3, [.ref 18, .int 12, .int 0, .int (-1), .ref 8, .int 0, .int 0, .int 0, .int 0, .int 0, .int 0, .int 0]) ∧ (∃ g, E1 18 = .inl (1, 1600, .inl g))) := by
  refine jv_of (by decide) rfl (Nat.le_of_ble_eq_true rfl) (fun G C B hI hnl => ?_)
  show jv_V l D vwCl kp G 0 0 n E 0 [(0, .ref 17), (1, .int p1)] []
  refine jv_bipush (v := 24) C dX3_append_0 (by decide) ?_
  refine jv_istore_n (lv2 := [(2, .int 24), (0, .ref 17), (1, .int p1)]) C dX3_append_2 rfl hnl (by decide) rfl ?_
  refine jv_iload_n C dX3_append_3 0 rfl ?_
  refine jv_if_lt (tgt := 44) C dX3_append_4 (by decide) (fun h => absurd h (by decide)) (fun _ => ?_)
  refine jv_aload_n C dX3_append_7 1 rfl ?_
  refine jv_iconst (v := 1) C dX3_append_8 (by decide) ?_
  refine jv_callV (na := 1) (As := [.int 1]) (st := []) C (c_X3_hasRoom_8 l D kp h17  ) gX3_append_X3_hasRoom rfl (by decide) h17 rfl rfl rfl q_X3_hasRoom rfl ⟨by decide, by decide⟩ ⟨by decide, by decide⟩ (fun _ h => absurd h List.not_mem_nil) (Nat.le_of_ble_eq_true rfl) rfl dX3_append_9 (fun r n1 E_1 hp _ => ?_)
  obtain ⟨rfl, rfl, rfl⟩ := hp
  show jv_V l D vwCl kp G 0 0 n E 12 [(2, .int 24), (0, .ref 17), (1, .int p1)] [.int 1]
  refine jv_if_eq (tgt := 44) C dX3_append_12 (by decide) (fun h => absurd h (by decide)) (fun _ => ?_)
  refine jv_aload_n C dX3_append_15 1 rfl ?_
  refine jv_getf (fk := 0) C (by decide) h17 rfl in_X3_append_3 (by decide) (by decide +kernel) rfl rfl dX3_append_16 ?_
  refine jv_aload_n C dX3_append_19 1 rfl ?_
  refine jv_getf (fk := 1) C (by decide) h17 rfl in_X3_append_3 (by decide) (by decide +kernel) rfl rfl dX3_append_20 ?_
  refine jv_iload_n C dX3_append_23 2 rfl ?_
  refine jv_iload_n C dX3_append_24 0 rfl ?_
  refine jv_ishr C dX3_append_25 ?_
  refine jv_i2b C dX3_append_26 ?_
  refine jv_bast C (by decide) h18 (jv_vi (by decide)) dX3_append_27 ?_
  refine jv_aload_n C dX3_append_28 1 rfl ?_
  refine jv_dup C dX3_append_29 rfl ?_
  refine jv_getf (fk := 1) C (by decide) (jv_n (by decide) h17) rfl in_X3_append_3 (by decide) (by decide +kernel) rfl rfl dX3_append_30 ?_
  refine jv_iconst (v := 1) C dX3_append_33 (by decide) ?_
  refine jv_iadd C dX3_append_34 ?_
  refine jv_ti (y := 9) (by decide) ?_
  refine jv_putf (fk := 1) (ty := .int) (fs2 := [.ref 18, .int 9, .int 0, .int (-1), .ref 8, .int 0, .int 0, .int 0, .int 0, .int 0, .int 0, .int 0]) C (by decide) (jv_n (by decide) h17) rfl in_X3_append_3 tyX3 tyX3_ok nmX3 (by decide) (by decide +kernel) rfl rfl rfl (fun _ => rfl) (fun _ => rfl) (Nat.le_of_ble_eq_true rfl) dX3_append_35 rfl ?_
  refine jv_iinc (lv2 := [(2, .int 16), (0, .ref 17), (1, .int p1)]) C dX3_append_38 hnl 0 rfl (by decide) (by decide) rfl ?_
  refine jv_goto (tgt := 3) C dX3_append_41 (by decide) ?_
  refine jv_iload_n C dX3_append_3 0 rfl ?_
  refine jv_if_lt (tgt := 44) C dX3_append_4 (by decide) (fun h => absurd h (by decide)) (fun _ => ?_)
  refine jv_aload_n C dX3_append_7 1 rfl ?_
  refine jv_iconst (v := 1) C dX3_append_8 (by decide) ?_
  refine jv_callV (na := 1) (As := [.int 1]) (st := []) C (c_X3_hasRoom_9 l D kp (va_up_self _ _ _)  ) gX3_append_X3_hasRoom rfl (by decide) (va_up_self _ _ _) rfl rfl rfl q_X3_hasRoom rfl ⟨by decide, by decide⟩ ⟨by decide, by decide⟩ (fun _ h => absurd h List.not_mem_nil) (Nat.le_of_ble_eq_true rfl) rfl dX3_append_9 (fun r n1 E_2 hp _ => ?_)
  obtain ⟨rfl, rfl, rfl⟩ := hp
  show jv_V l D vwCl kp G 0 0 n (va_up (va_up E 18 (.inl (1, 1600, .inl (upd g0 (8 : Int32).toNatClampNeg (vp_nar .byte ((p1 >>> (24 &&& 31)).toInt8.toInt32)))))) 17 (.inr (3, [.ref 18, .int 9, .int 0, .int (-1), .ref 8, .int 0, .int 0, .int 0, .int 0, .int 0, .int 0, .int 0]))) 12 [(2, .int 16), (0, .ref 17), (1, .int p1)] [.int 1]
  refine jv_if_eq (tgt := 44) C dX3_append_12 (by decide) (fun h => absurd h (by decide)) (fun _ => ?_)
  refine jv_aload_n C dX3_append_15 1 rfl ?_
  refine jv_getf (fk := 0) C (by decide) (va_up_self _ _ _) rfl in_X3_append_3 (by decide) (by decide +kernel) rfl rfl dX3_append_16 ?_
  refine jv_aload_n C dX3_append_19 1 rfl ?_
  refine jv_getf (fk := 1) C (by decide) (va_up_self _ _ _) rfl in_X3_append_3 (by decide) (by decide +kernel) rfl rfl dX3_append_20 ?_
  refine jv_iload_n C dX3_append_23 2 rfl ?_
  refine jv_iload_n C dX3_append_24 0 rfl ?_
  refine jv_ishr C dX3_append_25 ?_
  refine jv_i2b C dX3_append_26 ?_
  refine jv_bast C (by decide) (jv_n (by decide) (va_up_self _ _ _)) (jv_vi (by decide)) dX3_append_27 ?_
  refine jv_aload_n C dX3_append_28 1 rfl ?_
  refine jv_dup C dX3_append_29 rfl ?_
  refine jv_getf (fk := 1) C (by decide) (jv_n (by decide) (va_up_self _ _ _)) rfl in_X3_append_3 (by decide) (by decide +kernel) rfl rfl dX3_append_30 ?_
  refine jv_iconst (v := 1) C dX3_append_33 (by decide) ?_
  refine jv_iadd C dX3_append_34 ?_
  refine jv_ti (y := 10) (by decide) ?_
  refine jv_putf (fk := 1) (ty := .int) (fs2 := [.ref 18, .int 10, .int 0, .int (-1), .ref 8, .int 0, .int 0, .int 0, .int 0, .int 0, .int 0, .int 0]) C (by decide) (jv_n (by decide) (va_up_self _ _ _)) rfl in_X3_append_3 tyX3 tyX3_ok nmX3 (by decide) (by decide +kernel) rfl rfl rfl (fun _ => rfl) (fun _ => rfl) (Nat.le_of_ble_eq_true rfl) dX3_append_35 rfl ?_
  refine jv_iinc (lv2 := [(2, .int 8), (0, .ref 17), (1, .int p1)]) C dX3_append_38 hnl 0 rfl (by decide) (by decide) rfl ?_
  refine jv_goto (tgt := 3) C dX3_append_41 (by decide) ?_
  refine jv_iload_n C dX3_append_3 0 rfl ?_
  refine jv_if_lt (tgt := 44) C dX3_append_4 (by decide) (fun h => absurd h (by decide)) (fun _ => ?_)
  refine jv_aload_n C dX3_append_7 1 rfl ?_
  refine jv_iconst (v := 1) C dX3_append_8 (by decide) ?_
  refine jv_callV (na := 1) (As := [.int 1]) (st := []) C (c_X3_hasRoom_10 l D kp (va_up_self _ _ _)  ) gX3_append_X3_hasRoom rfl (by decide) (va_up_self _ _ _) rfl rfl rfl q_X3_hasRoom rfl ⟨by decide, by decide⟩ ⟨by decide, by decide⟩ (fun _ h => absurd h List.not_mem_nil) (Nat.le_of_ble_eq_true rfl) rfl dX3_append_9 (fun r n1 E_3 hp _ => ?_)
  obtain ⟨rfl, rfl, rfl⟩ := hp
  show jv_V l D vwCl kp G 0 0 n (va_up (va_up (va_up (va_up E 18 (.inl (1, 1600, .inl (upd g0 (8 : Int32).toNatClampNeg (vp_nar .byte ((p1 >>> (24 &&& 31)).toInt8.toInt32)))))) 17 (.inr (3, [.ref 18, .int 9, .int 0, .int (-1), .ref 8, .int 0, .int 0, .int 0, .int 0, .int 0, .int 0, .int 0]))) 18 (.inl (1, 1600, .inl (upd (upd g0 (8 : Int32).toNatClampNeg (vp_nar .byte ((p1 >>> (24 &&& 31)).toInt8.toInt32))) (9 : Int32).toNatClampNeg (vp_nar .byte ((p1 >>> (16 &&& 31)).toInt8.toInt32)))))) 17 (.inr (3, [.ref 18, .int 10, .int 0, .int (-1), .ref 8, .int 0, .int 0, .int 0, .int 0, .int 0, .int 0, .int 0]))) 12 [(2, .int 8), (0, .ref 17), (1, .int p1)] [.int 1]
  refine jv_if_eq (tgt := 44) C dX3_append_12 (by decide) (fun h => absurd h (by decide)) (fun _ => ?_)
  refine jv_aload_n C dX3_append_15 1 rfl ?_
  refine jv_getf (fk := 0) C (by decide) (va_up_self _ _ _) rfl in_X3_append_3 (by decide) (by decide +kernel) rfl rfl dX3_append_16 ?_
  refine jv_aload_n C dX3_append_19 1 rfl ?_
  refine jv_getf (fk := 1) C (by decide) (va_up_self _ _ _) rfl in_X3_append_3 (by decide) (by decide +kernel) rfl rfl dX3_append_20 ?_
  refine jv_iload_n C dX3_append_23 2 rfl ?_
  refine jv_iload_n C dX3_append_24 0 rfl ?_
  refine jv_ishr C dX3_append_25 ?_
  refine jv_i2b C dX3_append_26 ?_
  refine jv_bast C (by decide) (jv_n (by decide) (va_up_self _ _ _)) (jv_vi (by decide)) dX3_append_27 ?_
  refine jv_aload_n C dX3_append_28 1 rfl ?_
  refine jv_dup C dX3_append_29 rfl ?_
  refine jv_getf (fk := 1) C (by decide) (jv_n (by decide) (va_up_self _ _ _)) rfl in_X3_append_3 (by decide) (by decide +kernel) rfl rfl dX3_append_30 ?_
  refine jv_iconst (v := 1) C dX3_append_33 (by decide) ?_
  refine jv_iadd C dX3_append_34 ?_
  refine jv_ti (y := 11) (by decide) ?_
  refine jv_putf (fk := 1) (ty := .int) (fs2 := [.ref 18, .int 11, .int 0, .int (-1), .ref 8, .int 0, .int 0, .int 0, .int 0, .int 0, .int 0, .int 0]) C (by decide) (jv_n (by decide) (va_up_self _ _ _)) rfl in_X3_append_3 tyX3 tyX3_ok nmX3 (by decide) (by decide +kernel) rfl rfl rfl (fun _ => rfl) (fun _ => rfl) (Nat.le_of_ble_eq_true rfl) dX3_append_35 rfl ?_
  refine jv_iinc (lv2 := [(2, .int 0), (0, .ref 17), (1, .int p1)]) C dX3_append_38 hnl 0 rfl (by decide) (by decide) rfl ?_
  refine jv_goto (tgt := 3) C dX3_append_41 (by decide) ?_
  refine jv_iload_n C dX3_append_3 0 rfl ?_
  refine jv_if_lt (tgt := 44) C dX3_append_4 (by decide) (fun h => absurd h (by decide)) (fun _ => ?_)
  refine jv_aload_n C dX3_append_7 1 rfl ?_
  refine jv_iconst (v := 1) C dX3_append_8 (by decide) ?_
  refine jv_callV (na := 1) (As := [.int 1]) (st := []) C (c_X3_hasRoom_11 l D kp (va_up_self _ _ _)  ) gX3_append_X3_hasRoom rfl (by decide) (va_up_self _ _ _) rfl rfl rfl q_X3_hasRoom rfl ⟨by decide, by decide⟩ ⟨by decide, by decide⟩ (fun _ h => absurd h List.not_mem_nil) (Nat.le_of_ble_eq_true rfl) rfl dX3_append_9 (fun r n1 E_4 hp _ => ?_)
  obtain ⟨rfl, rfl, rfl⟩ := hp
  show jv_V l D vwCl kp G 0 0 n (va_up (va_up (va_up (va_up (va_up (va_up E 18 (.inl (1, 1600, .inl (upd g0 (8 : Int32).toNatClampNeg (vp_nar .byte ((p1 >>> (24 &&& 31)).toInt8.toInt32)))))) 17 (.inr (3, [.ref 18, .int 9, .int 0, .int (-1), .ref 8, .int 0, .int 0, .int 0, .int 0, .int 0, .int 0, .int 0]))) 18 (.inl (1, 1600, .inl (upd (upd g0 (8 : Int32).toNatClampNeg (vp_nar .byte ((p1 >>> (24 &&& 31)).toInt8.toInt32))) (9 : Int32).toNatClampNeg (vp_nar .byte ((p1 >>> (16 &&& 31)).toInt8.toInt32)))))) 17 (.inr (3, [.ref 18, .int 10, .int 0, .int (-1), .ref 8, .int 0, .int 0, .int 0, .int 0, .int 0, .int 0, .int 0]))) 18 (.inl (1, 1600, .inl (upd (upd (upd g0 (8 : Int32).toNatClampNeg (vp_nar .byte ((p1 >>> (24 &&& 31)).toInt8.toInt32))) (9 : Int32).toNatClampNeg (vp_nar .byte ((p1 >>> (16 &&& 31)).toInt8.toInt32))) (10 : Int32).toNatClampNeg (vp_nar .byte ((p1 >>> (8 &&& 31)).toInt8.toInt32)))))) 17 (.inr (3, [.ref 18, .int 11, .int 0, .int (-1), .ref 8, .int 0, .int 0, .int 0, .int 0, .int 0, .int 0, .int 0]))) 12 [(2, .int 0), (0, .ref 17), (1, .int p1)] [.int 1]
  refine jv_if_eq (tgt := 44) C dX3_append_12 (by decide) (fun h => absurd h (by decide)) (fun _ => ?_)
  refine jv_aload_n C dX3_append_15 1 rfl ?_
  refine jv_getf (fk := 0) C (by decide) (va_up_self _ _ _) rfl in_X3_append_3 (by decide) (by decide +kernel) rfl rfl dX3_append_16 ?_
  refine jv_aload_n C dX3_append_19 1 rfl ?_
  refine jv_getf (fk := 1) C (by decide) (va_up_self _ _ _) rfl in_X3_append_3 (by decide) (by decide +kernel) rfl rfl dX3_append_20 ?_
  refine jv_iload_n C dX3_append_23 2 rfl ?_
  refine jv_iload_n C dX3_append_24 0 rfl ?_
  refine jv_ishr C dX3_append_25 ?_
  refine jv_i2b C dX3_append_26 ?_
  refine jv_bast C (by decide) (jv_n (by decide) (va_up_self _ _ _)) (jv_vi (by decide)) dX3_append_27 ?_
  refine jv_aload_n C dX3_append_28 1 rfl ?_
  refine jv_dup C dX3_append_29 rfl ?_
  refine jv_getf (fk := 1) C (by decide) (jv_n (by decide) (va_up_self _ _ _)) rfl in_X3_append_3 (by decide) (by decide +kernel) rfl rfl dX3_append_30 ?_
  refine jv_iconst (v := 1) C dX3_append_33 (by decide) ?_
  refine jv_iadd C dX3_append_34 ?_
  refine jv_ti (y := 12) (by decide) ?_
  refine jv_putf (fk := 1) (ty := .int) (fs2 := [.ref 18, .int 12, .int 0, .int (-1), .ref 8, .int 0, .int 0, .int 0, .int 0, .int 0, .int 0, .int 0]) C (by decide) (jv_n (by decide) (va_up_self _ _ _)) rfl in_X3_append_3 tyX3 tyX3_ok nmX3 (by decide) (by decide +kernel) rfl rfl rfl (fun _ => rfl) (fun _ => rfl) (Nat.le_of_ble_eq_true rfl) dX3_append_35 rfl ?_
  refine jv_iinc (lv2 := [(2, .int (-8)), (0, .ref 17), (1, .int p1)]) C dX3_append_38 hnl 0 rfl (by decide) (by decide) rfl ?_
  refine jv_goto (tgt := 3) C dX3_append_41 (by decide) ?_
  refine jv_iload_n C dX3_append_3 0 rfl ?_
  refine jv_if_lt (tgt := 44) C dX3_append_4 (by decide) (fun _ => ?_) (fun h => absurd (by decide) h)
  exact jv_vret C B ⟨rfl, rfl, fun j g0 g1 => ((va_up_ne _ _ g0).trans ((va_up_ne _ _ g1).trans ((va_up_ne _ _ g0).trans ((va_up_ne _ _ g1).trans ((va_up_ne _ _ g0).trans ((va_up_ne _ _ g1).trans ((va_up_ne _ _ g0).trans (va_up_ne _ _ g1)))))))), (va_up_self _ _ _), ⟨_, (jv_n (by decide) (va_up_self _ _ _))⟩⟩ ⟨by decide, by decide⟩ dX3_append_44
set_option maxRecDepth 100000 in
set_option maxHeartbeats 8000000 in
theorem c_X3_append_12 (l : Launch) (D : va_G) (kp : Nat → ClassId) {n : Nat} {E : Nat → jv_E} {g0 : Nat → Int32} (h17 : E 17 = .inr (3, [.ref 18, .int 12, .int 0, .int (-1), .ref 8, .int 0, .int 0, .int 0, .int 0, .int 0, .int 0, .int 0])) (h18 : E 18 = .inl (1, 1600, .inl g0)) (p1 : Int32) : jv_M l D vwCl kp yX3_append wsX3_append rm2 [] [.ref 17, .int p1] n E 0 0 (fun r n1 E1 => none = r ∧ n = n1 ∧ (∀ j, j ≠ 17 → j ≠ 18 → E1 j = E j) ∧ E1 17 = .inr (3, [.ref 18, .int 16, .int 0, .int (-1), .ref 8, .int 0, .int 0, .int 0, .int 0, .int 0, .int 0, .int 0]) ∧ (∃ g, E1 18 = .inl (1, 1600, .inl g))) := by
  refine jv_of (by decide) rfl (Nat.le_of_ble_eq_true rfl) (fun G C B hI hnl => ?_)
  show jv_V l D vwCl kp G 0 0 n E 0 [(0, .ref 17), (1, .int p1)] []
  refine jv_bipush (v := 24) C dX3_append_0 (by decide) ?_
  refine jv_istore_n (lv2 := [(2, .int 24), (0, .ref 17), (1, .int p1)]) C dX3_append_2 rfl hnl (by decide) rfl ?_
  refine jv_iload_n C dX3_append_3 0 rfl ?_
  refine jv_if_lt (tgt := 44) C dX3_append_4 (by decide) (fun h => absurd h (by decide)) (fun _ => ?_)
  refine jv_aload_n C dX3_append_7 1 rfl ?_
  refine jv_iconst (v := 1) C dX3_append_8 (by decide) ?_
  refine jv_callV (na := 1) (As := [.int 1]) (st := []) C (c_X3_hasRoom_12 l D kp h17  ) gX3_append_X3_hasRoom rfl (by decide) h17 rfl rfl rfl q_X3_hasRoom rfl ⟨by decide, by decide⟩ ⟨by decide, by decide⟩ (fun _ h => absurd h List.not_mem_nil) (Nat.le_of_ble_eq_true rfl) rfl dX3_append_9 (fun r n1 E_1 hp _ => ?_)
  obtain ⟨rfl, rfl, rfl⟩ := hp
  show jv_V l D vwCl kp G 0 0 n E 12 [(2, .int 24), (0, .ref 17), (1, .int p1)] [.int 1]
  refine jv_if_eq (tgt := 44) C dX3_append_12 (by decide) (fun h => absurd h (by decide)) (fun _ => ?_)
  refine jv_aload_n C dX3_append_15 1 rfl ?_
  refine jv_getf (fk := 0) C (by decide) h17 rfl in_X3_append_3 (by decide) (by decide +kernel) rfl rfl dX3_append_16 ?_
  refine jv_aload_n C dX3_append_19 1 rfl ?_
  refine jv_getf (fk := 1) C (by decide) h17 rfl in_X3_append_3 (by decide) (by decide +kernel) rfl rfl dX3_append_20 ?_
  refine jv_iload_n C dX3_append_23 2 rfl ?_
  refine jv_iload_n C dX3_append_24 0 rfl ?_
  refine jv_ishr C dX3_append_25 ?_
  refine jv_i2b C dX3_append_26 ?_
  refine jv_bast C (by decide) h18 (jv_vi (by decide)) dX3_append_27 ?_
  refine jv_aload_n C dX3_append_28 1 rfl ?_
  refine jv_dup C dX3_append_29 rfl ?_
  refine jv_getf (fk := 1) C (by decide) (jv_n (by decide) h17) rfl in_X3_append_3 (by decide) (by decide +kernel) rfl rfl dX3_append_30 ?_
  refine jv_iconst (v := 1) C dX3_append_33 (by decide) ?_
  refine jv_iadd C dX3_append_34 ?_
  refine jv_ti (y := 13) (by decide) ?_
  refine jv_putf (fk := 1) (ty := .int) (fs2 := [.ref 18, .int 13, .int 0, .int (-1), .ref 8, .int 0, .int 0, .int 0, .int 0, .int 0, .int 0, .int 0]) C (by decide) (jv_n (by decide) h17) rfl in_X3_append_3 tyX3 tyX3_ok nmX3 (by decide) (by decide +kernel) rfl rfl rfl (fun _ => rfl) (fun _ => rfl) (Nat.le_of_ble_eq_true rfl) dX3_append_35 rfl ?_
  refine jv_iinc (lv2 := [(2, .int 16), (0, .ref 17), (1, .int p1)]) C dX3_append_38 hnl 0 rfl (by decide) (by decide) rfl ?_
  refine jv_goto (tgt := 3) C dX3_append_41 (by decide) ?_
  refine jv_iload_n C dX3_append_3 0 rfl ?_
  refine jv_if_lt (tgt := 44) C dX3_append_4 (by decide) (fun h => absurd h (by decide)) (fun _ => ?_)
  refine jv_aload_n C dX3_append_7 1 rfl ?_
  refine jv_iconst (v := 1) C dX3_append_8 (by decide) ?_
  refine jv_callV (na := 1) (As := [.int 1]) (st := []) C (c_X3_hasRoom_13 l D kp (va_up_self _ _ _)  ) gX3_append_X3_hasRoom rfl (by decide) (va_up_self _ _ _) rfl rfl rfl q_X3_hasRoom rfl ⟨by decide, by decide⟩ ⟨by decide, by decide⟩ (fun _ h => absurd h List.not_mem_nil) (Nat.le_of_ble_eq_true rfl) rfl dX3_append_9 (fun r n1 E_2 hp _ => ?_)
  obtain ⟨rfl, rfl, rfl⟩ := hp
  show jv_V l D vwCl kp G 0 0 n (va_up (va_up E 18 (.inl (1, 1600, .inl (upd g0 (12 : Int32).toNatClampNeg (vp_nar .byte ((p1 >>> (24 &&& 31)).toInt8.toInt32)))))) 17 (.inr (3, [.ref 18, .int 13, .int 0, .int (-1), .ref 8, .int 0, .int 0, .int 0, .int 0, .int 0, .int 0, .int 0]))) 12 [(2, .int 16), (0, .ref 17), (1, .int p1)] [.int 1]
  refine jv_if_eq (tgt := 44) C dX3_append_12 (by decide) (fun h => absurd h (by decide)) (fun _ => ?_)
  refine jv_aload_n C dX3_append_15 1 rfl ?_
  refine jv_getf (fk := 0) C (by decide) (va_up_self _ _ _) rfl in_X3_append_3 (by decide) (by decide +kernel) rfl rfl dX3_append_16 ?_
  refine jv_aload_n C dX3_append_19 1 rfl ?_
  refine jv_getf (fk := 1) C (by decide) (va_up_self _ _ _) rfl in_X3_append_3 (by decide) (by decide +kernel) rfl rfl dX3_append_20 ?_
  refine jv_iload_n C dX3_append_23 2 rfl ?_
  refine jv_iload_n C dX3_append_24 0 rfl ?_
  refine jv_ishr C dX3_append_25 ?_
  refine jv_i2b C dX3_append_26 ?_
  refine jv_bast C (by decide) (jv_n (by decide) (va_up_self _ _ _)) (jv_vi (by decide)) dX3_append_27 ?_
  refine jv_aload_n C dX3_append_28 1 rfl ?_
  refine jv_dup C dX3_append_29 rfl ?_
  refine jv_getf (fk := 1) C (by decide) (jv_n (by decide) (va_up_self _ _ _)) rfl in_X3_append_3 (by decide) (by decide +kernel) rfl rfl dX3_append_30 ?_
  refine jv_iconst (v := 1) C dX3_append_33 (by decide) ?_
  refine jv_iadd C dX3_append_34 ?_
  refine jv_ti (y := 14) (by decide) ?_
  refine jv_putf (fk := 1) (ty := .int) (fs2 := [.ref 18, .int 14, .int 0, .int (-1), .ref 8, .int 0, .int 0, .int 0, .int 0, .int 0, .int 0, .int 0]) C (by decide) (jv_n (by decide) (va_up_self _ _ _)) rfl in_X3_append_3 tyX3 tyX3_ok nmX3 (by decide) (by decide +kernel) rfl rfl rfl (fun _ => rfl) (fun _ => rfl) (Nat.le_of_ble_eq_true rfl) dX3_append_35 rfl ?_
  refine jv_iinc (lv2 := [(2, .int 8), (0, .ref 17), (1, .int p1)]) C dX3_append_38 hnl 0 rfl (by decide) (by decide) rfl ?_
  refine jv_goto (tgt := 3) C dX3_append_41 (by decide) ?_
  refine jv_iload_n C dX3_append_3 0 rfl ?_
  refine jv_if_lt (tgt := 44) C dX3_append_4 (by decide) (fun h => absurd h (by decide)) (fun _ => ?_)
  refine jv_aload_n C dX3_append_7 1 rfl ?_
  refine jv_iconst (v := 1) C dX3_append_8 (by decide) ?_
  refine jv_callV (na := 1) (As := [.int 1]) (st := []) C (c_X3_hasRoom_14 l D kp (va_up_self _ _ _)  ) gX3_append_X3_hasRoom rfl (by decide) (va_up_self _ _ _) rfl rfl rfl q_X3_hasRoom rfl ⟨by decide, by decide⟩ ⟨by decide, by decide⟩ (fun _ h => absurd h List.not_mem_nil) (Nat.le_of_ble_eq_true rfl) rfl dX3_append_9 (fun r n1 E_3 hp _ => ?_)
  obtain ⟨rfl, rfl, rfl⟩ := hp
  show jv_V l D vwCl kp G 0 0 n (va_up (va_up (va_up (va_up E 18 (.inl (1, 1600, .inl (upd g0 (12 : Int32).toNatClampNeg (vp_nar .byte ((p1 >>> (24 &&& 31)).toInt8.toInt32)))))) 17 (.inr (3, [.ref 18, .int 13, .int 0, .int (-1), .ref 8, .int 0, .int 0, .int 0, .int 0, .int 0, .int 0, .int 0]))) 18 (.inl (1, 1600, .inl (upd (upd g0 (12 : Int32).toNatClampNeg (vp_nar .byte ((p1 >>> (24 &&& 31)).toInt8.toInt32))) (13 : Int32).toNatClampNeg (vp_nar .byte ((p1 >>> (16 &&& 31)).toInt8.toInt32)))))) 17 (.inr (3, [.ref 18, .int 14, .int 0, .int (-1), .ref 8, .int 0, .int 0, .int 0, .int 0, .int 0, .int 0, .int 0]))) 12 [(2, .int 8), (0, .ref 17), (1, .int p1)] [.int 1]
  refine jv_if_eq (tgt := 44) C dX3_append_12 (by decide) (fun h => absurd h (by decide)) (fun _ => ?_)
  refine jv_aload_n C dX3_append_15 1 rfl ?_
  refine jv_getf (fk := 0) C (by decide) (va_up_self _ _ _) rfl in_X3_append_3 (by decide) (by decide +kernel) rfl rfl dX3_append_16 ?_
  refine jv_aload_n C dX3_append_19 1 rfl ?_
  refine jv_getf (fk := 1) C (by decide) (va_up_self _ _ _) rfl in_X3_append_3 (by decide) (by decide +kernel) rfl rfl dX3_append_20 ?_
  refine jv_iload_n C dX3_append_23 2 rfl ?_
  refine jv_iload_n C dX3_append_24 0 rfl ?_
  refine jv_ishr C dX3_append_25 ?_
  refine jv_i2b C dX3_append_26 ?_
  refine jv_bast C (by decide) (jv_n (by decide) (va_up_self _ _ _)) (jv_vi (by decide)) dX3_append_27 ?_
  refine jv_aload_n C dX3_append_28 1 rfl ?_
  refine jv_dup C dX3_append_29 rfl ?_
  refine jv_getf (fk := 1) C (by decide) (jv_n (by decide) (va_up_self _ _ _)) rfl in_X3_append_3 (by decide) (by decide +kernel) rfl rfl dX3_append_30 ?_
  refine jv_iconst (v := 1) C dX3_append_33 (by decide) ?_
  refine jv_iadd C dX3_append_34 ?_
  refine jv_ti (y := 15) (by decide) ?_
  refine jv_putf (fk := 1) (ty := .int) (fs2 := [.ref 18, .int 15, .int 0, .int (-1), .ref 8, .int 0, .int 0, .int 0, .int 0, .int 0, .int 0, .int 0]) C (by decide) (jv_n (by decide) (va_up_self _ _ _)) rfl in_X3_append_3 tyX3 tyX3_ok nmX3 (by decide) (by decide +kernel) rfl rfl rfl (fun _ => rfl) (fun _ => rfl) (Nat.le_of_ble_eq_true rfl) dX3_append_35 rfl ?_
  refine jv_iinc (lv2 := [(2, .int 0), (0, .ref 17), (1, .int p1)]) C dX3_append_38 hnl 0 rfl (by decide) (by decide) rfl ?_
  refine jv_goto (tgt := 3) C dX3_append_41 (by decide) ?_
  refine jv_iload_n C dX3_append_3 0 rfl ?_
  refine jv_if_lt (tgt := 44) C dX3_append_4 (by decide) (fun h => absurd h (by decide)) (fun _ => ?_)
  refine jv_aload_n C dX3_append_7 1 rfl ?_
  refine jv_iconst (v := 1) C dX3_append_8 (by decide) ?_
  refine jv_callV (na := 1) (As := [.int 1]) (st := []) C (c_X3_hasRoom_15 l D kp (va_up_self _ _ _)  ) gX3_append_X3_hasRoom rfl (by decide) (va_up_self _ _ _) rfl rfl rfl q_X3_hasRoom rfl ⟨by decide, by decide⟩ ⟨by decide, by decide⟩ (fun _ h => absurd h List.not_mem_nil) (Nat.le_of_ble_eq_true rfl) rfl dX3_append_9 (fun r n1 E_4 hp _ => ?_)
  obtain ⟨rfl, rfl, rfl⟩ := hp
  show jv_V l D vwCl kp G 0 0 n (va_up (va_up (va_up (va_up (va_up (va_up E 18 (.inl (1, 1600, .inl (upd g0 (12 : Int32).toNatClampNeg (vp_nar .byte ((p1 >>> (24 &&& 31)).toInt8.toInt32)))))) 17 (.inr (3, [.ref 18, .int 13, .int 0, .int (-1), .ref 8, .int 0, .int 0, .int 0, .int 0, .int 0, .int 0, .int 0]))) 18 (.inl (1, 1600, .inl (upd (upd g0 (12 : Int32).toNatClampNeg (vp_nar .byte ((p1 >>> (24 &&& 31)).toInt8.toInt32))) (13 : Int32).toNatClampNeg (vp_nar .byte ((p1 >>> (16 &&& 31)).toInt8.toInt32)))))) 17 (.inr (3, [.ref 18, .int 14, .int 0, .int (-1), .ref 8, .int 0, .int 0, .int 0, .int 0, .int 0, .int 0, .int 0]))) 18 (.inl (1, 1600, .inl (upd (upd (upd g0 (12 : Int32).toNatClampNeg (vp_nar .byte ((p1 >>> (24 &&& 31)).toInt8.toInt32))) (13 : Int32).toNatClampNeg (vp_nar .byte ((p1 >>> (16 &&& 31)).toInt8.toInt32))) (14 : Int32).toNatClampNeg (vp_nar .byte ((p1 >>> (8 &&& 31)).toInt8.toInt32)))))) 17 (.inr (3, [.ref 18, .int 15, .int 0, .int (-1), .ref 8, .int 0, .int 0, .int 0, .int 0, .int 0, .int 0, .int 0]))) 12 [(2, .int 0), (0, .ref 17), (1, .int p1)] [.int 1]
  refine jv_if_eq (tgt := 44) C dX3_append_12 (by decide) (fun h => absurd h (by decide)) (fun _ => ?_)
  refine jv_aload_n C dX3_append_15 1 rfl ?_
  refine jv_getf (fk := 0) C (by decide) (va_up_self _ _ _) rfl in_X3_append_3 (by decide) (by decide +kernel) rfl rfl dX3_append_16 ?_
  refine jv_aload_n C dX3_append_19 1 rfl ?_
  refine jv_getf (fk := 1) C (by decide) (va_up_self _ _ _) rfl in_X3_append_3 (by decide) (by decide +kernel) rfl rfl dX3_append_20 ?_
  refine jv_iload_n C dX3_append_23 2 rfl ?_
  refine jv_iload_n C dX3_append_24 0 rfl ?_
  refine jv_ishr C dX3_append_25 ?_
  refine jv_i2b C dX3_append_26 ?_
  refine jv_bast C (by decide) (jv_n (by decide) (va_up_self _ _ _)) (jv_vi (by decide)) dX3_append_27 ?_
  refine jv_aload_n C dX3_append_28 1 rfl ?_
  refine jv_dup C dX3_append_29 rfl ?_
  refine jv_getf (fk := 1) C (by decide) (jv_n (by decide) (va_up_self _ _ _)) rfl in_X3_append_3 (by decide) (by decide +kernel) rfl rfl dX3_append_30 ?_
  refine jv_iconst (v := 1) C dX3_append_33 (by decide) ?_
  refine jv_iadd C dX3_append_34 ?_
  refine jv_ti (y := 16) (by decide) ?_
  refine jv_putf (fk := 1) (ty := .int) (fs2 := [.ref 18, .int 16, .int 0, .int (-1), .ref 8, .int 0, .int 0, .int 0, .int 0, .int 0, .int 0, .int 0]) C (by decide) (jv_n (by decide) (va_up_self _ _ _)) rfl in_X3_append_3 tyX3 tyX3_ok nmX3 (by decide) (by decide +kernel) rfl rfl rfl (fun _ => rfl) (fun _ => rfl) (Nat.le_of_ble_eq_true rfl) dX3_append_35 rfl ?_
  refine jv_iinc (lv2 := [(2, .int (-8)), (0, .ref 17), (1, .int p1)]) C dX3_append_38 hnl 0 rfl (by decide) (by decide) rfl ?_
  refine jv_goto (tgt := 3) C dX3_append_41 (by decide) ?_
  refine jv_iload_n C dX3_append_3 0 rfl ?_
  refine jv_if_lt (tgt := 44) C dX3_append_4 (by decide) (fun _ => ?_) (fun h => absurd (by decide) h)
  exact jv_vret C B ⟨rfl, rfl, fun j g0 g1 => ((va_up_ne _ _ g0).trans ((va_up_ne _ _ g1).trans ((va_up_ne _ _ g0).trans ((va_up_ne _ _ g1).trans ((va_up_ne _ _ g0).trans ((va_up_ne _ _ g1).trans ((va_up_ne _ _ g0).trans (va_up_ne _ _ g1)))))))), (va_up_self _ _ _), ⟨_, (jv_n (by decide) (va_up_self _ _ _))⟩⟩ ⟨by decide, by decide⟩ dX3_append_44
set_option maxRecDepth 100000 in
set_option maxHeartbeats 8000000 in
theorem c_X3_append_16 (l : Launch) (D : va_G) (kp : Nat → ClassId) {n : Nat} {E : Nat → jv_E} {g0 : Nat → Int32} (h17 : E 17 = .inr (3, [.ref 18, .int 16, .int 0, .int (-1), .ref 8, .int 0, .int 0, .int 0, .int 0, .int 0, .int 0, .int 0])) (h18 : E 18 = .inl (1, 1600, .inl g0)) (p1 : Int32) : jv_M l D vwCl kp yX3_append wsX3_append rm2 [] [.ref 17, .int p1] n E 0 0 (fun r n1 E1 => none = r ∧ n = n1 ∧ (∀ j, j ≠ 17 → j ≠ 18 → E1 j = E j) ∧ E1 17 = .inr (3, [.ref 18, .int 20, .int 0, .int (-1), .ref 8, .int 0, .int 0, .int 0, .int 0, .int 0, .int 0, .int 0]) ∧ (∃ g, E1 18 = .inl (1, 1600, .inl g))) := by
  refine jv_of (by decide) rfl (Nat.le_of_ble_eq_true rfl) (fun G C B hI hnl => ?_)
  show jv_V l D vwCl kp G 0 0 n E 0 [(0, .ref 17), (1, .int p1)] []
  refine jv_bipush (v := 24) C dX3_append_0 (by decide) ?_
  refine jv_istore_n (lv2 := [(2, .int 24), (0, .ref 17), (1, .int p1)]) C dX3_append_2 rfl hnl (by decide) rfl ?_
  refine jv_iload_n C dX3_append_3 0 rfl ?_
  refine jv_if_lt (tgt := 44) C dX3_append_4 (by decide) (fun h => absurd h (by decide)) (fun _ => ?_)
  refine jv_aload_n C dX3_append_7 1 rfl ?_
  refine jv_iconst (v := 1) C dX3_append_8 (by decide) ?_
  refine jv_callV (na := 1) (As := [.int 1]) (st := []) C (c_X3_hasRoom_16 l D kp h17  ) gX3_append_X3_hasRoom rfl (by decide) h17 rfl rfl rfl q_X3_hasRoom rfl ⟨by decide, by decide⟩ ⟨by decide, by decide⟩ (fun _ h => absurd h List.not_mem_nil) (Nat.le_of_ble_eq_true rfl) rfl dX3_append_9 (fun r n1 E_1 hp _ => ?_)
  obtain ⟨rfl, rfl, rfl⟩ := hp
  show jv_V l D vwCl kp G 0 0 n E 12 [(2, .int 24), (0, .ref 17), (1, .int p1)] [.int 1]
  refine jv_if_eq (tgt := 44) C dX3_append_12 (by decide) (fun h => absurd h (by decide)) (fun _ => ?_)
  refine jv_aload_n C dX3_append_15 1 rfl ?_
  refine jv_getf (fk := 0) C (by decide) h17 rfl in_X3_append_3 (by decide) (by decide +kernel) rfl rfl dX3_append_16 ?_
  refine jv_aload_n C dX3_append_19 1 rfl ?_
  refine jv_getf (fk := 1) C (by decide) h17 rfl in_X3_append_3 (by decide) (by decide +kernel) rfl rfl dX3_append_20 ?_
  refine jv_iload_n C dX3_append_23 2 rfl ?_
  refine jv_iload_n C dX3_append_24 0 rfl ?_
  refine jv_ishr C dX3_append_25 ?_
  refine jv_i2b C dX3_append_26 ?_
  refine jv_bast C (by decide) h18 (jv_vi (by decide)) dX3_append_27 ?_
  refine jv_aload_n C dX3_append_28 1 rfl ?_
  refine jv_dup C dX3_append_29 rfl ?_
  refine jv_getf (fk := 1) C (by decide) (jv_n (by decide) h17) rfl in_X3_append_3 (by decide) (by decide +kernel) rfl rfl dX3_append_30 ?_
  refine jv_iconst (v := 1) C dX3_append_33 (by decide) ?_
  refine jv_iadd C dX3_append_34 ?_
  refine jv_ti (y := 17) (by decide) ?_
  refine jv_putf (fk := 1) (ty := .int) (fs2 := [.ref 18, .int 17, .int 0, .int (-1), .ref 8, .int 0, .int 0, .int 0, .int 0, .int 0, .int 0, .int 0]) C (by decide) (jv_n (by decide) h17) rfl in_X3_append_3 tyX3 tyX3_ok nmX3 (by decide) (by decide +kernel) rfl rfl rfl (fun _ => rfl) (fun _ => rfl) (Nat.le_of_ble_eq_true rfl) dX3_append_35 rfl ?_
  refine jv_iinc (lv2 := [(2, .int 16), (0, .ref 17), (1, .int p1)]) C dX3_append_38 hnl 0 rfl (by decide) (by decide) rfl ?_
  refine jv_goto (tgt := 3) C dX3_append_41 (by decide) ?_
  refine jv_iload_n C dX3_append_3 0 rfl ?_
  refine jv_if_lt (tgt := 44) C dX3_append_4 (by decide) (fun h => absurd h (by decide)) (fun _ => ?_)
  refine jv_aload_n C dX3_append_7 1 rfl ?_
  refine jv_iconst (v := 1) C dX3_append_8 (by decide) ?_
  refine jv_callV (na := 1) (As := [.int 1]) (st := []) C (c_X3_hasRoom_17 l D kp (va_up_self _ _ _)  ) gX3_append_X3_hasRoom rfl (by decide) (va_up_self _ _ _) rfl rfl rfl q_X3_hasRoom rfl ⟨by decide, by decide⟩ ⟨by decide, by decide⟩ (fun _ h => absurd h List.not_mem_nil) (Nat.le_of_ble_eq_true rfl) rfl dX3_append_9 (fun r n1 E_2 hp _ => ?_)
  obtain ⟨rfl, rfl, rfl⟩ := hp
  show jv_V l D vwCl kp G 0 0 n (va_up (va_up E 18 (.inl (1, 1600, .inl (upd g0 (16 : Int32).toNatClampNeg (vp_nar .byte ((p1 >>> (24 &&& 31)).toInt8.toInt32)))))) 17 (.inr (3, [.ref 18, .int 17, .int 0, .int (-1), .ref 8, .int 0, .int 0, .int 0, .int 0, .int 0, .int 0, .int 0]))) 12 [(2, .int 16), (0, .ref 17), (1, .int p1)] [.int 1]
  refine jv_if_eq (tgt := 44) C dX3_append_12 (by decide) (fun h => absurd h (by decide)) (fun _ => ?_)
  refine jv_aload_n C dX3_append_15 1 rfl ?_
  refine jv_getf (fk := 0) C (by decide) (va_up_self _ _ _) rfl in_X3_append_3 (by decide) (by decide +kernel) rfl rfl dX3_append_16 ?_
  refine jv_aload_n C dX3_append_19 1 rfl ?_
  refine jv_getf (fk := 1) C (by decide) (va_up_self _ _ _) rfl in_X3_append_3 (by decide) (by decide +kernel) rfl rfl dX3_append_20 ?_
  refine jv_iload_n C dX3_append_23 2 rfl ?_
  refine jv_iload_n C dX3_append_24 0 rfl ?_
  refine jv_ishr C dX3_append_25 ?_
  refine jv_i2b C dX3_append_26 ?_
  refine jv_bast C (by decide) (jv_n (by decide) (va_up_self _ _ _)) (jv_vi (by decide)) dX3_append_27 ?_
  refine jv_aload_n C dX3_append_28 1 rfl ?_
  refine jv_dup C dX3_append_29 rfl ?_
  refine jv_getf (fk := 1) C (by decide) (jv_n (by decide) (va_up_self _ _ _)) rfl in_X3_append_3 (by decide) (by decide +kernel) rfl rfl dX3_append_30 ?_
  refine jv_iconst (v := 1) C dX3_append_33 (by decide) ?_
  refine jv_iadd C dX3_append_34 ?_
  refine jv_ti (y := 18) (by decide) ?_
  refine jv_putf (fk := 1) (ty := .int) (fs2 := [.ref 18, .int 18, .int 0, .int (-1), .ref 8, .int 0, .int 0, .int 0, .int 0, .int 0, .int 0, .int 0]) C (by decide) (jv_n (by decide) (va_up_self _ _ _)) rfl in_X3_append_3 tyX3 tyX3_ok nmX3 (by decide) (by decide +kernel) rfl rfl rfl (fun _ => rfl) (fun _ => rfl) (Nat.le_of_ble_eq_true rfl) dX3_append_35 rfl ?_
  refine jv_iinc (lv2 := [(2, .int 8), (0, .ref 17), (1, .int p1)]) C dX3_append_38 hnl 0 rfl (by decide) (by decide) rfl ?_
  refine jv_goto (tgt := 3) C dX3_append_41 (by decide) ?_
  refine jv_iload_n C dX3_append_3 0 rfl ?_
  refine jv_if_lt (tgt := 44) C dX3_append_4 (by decide) (fun h => absurd h (by decide)) (fun _ => ?_)
  refine jv_aload_n C dX3_append_7 1 rfl ?_
  refine jv_iconst (v := 1) C dX3_append_8 (by decide) ?_
  refine jv_callV (na := 1) (As := [.int 1]) (st := []) C (c_X3_hasRoom_18 l D kp (va_up_self _ _ _)  ) gX3_append_X3_hasRoom rfl (by decide) (va_up_self _ _ _) rfl rfl rfl q_X3_hasRoom rfl ⟨by decide, by decide⟩ ⟨by decide, by decide⟩ (fun _ h => absurd h List.not_mem_nil) (Nat.le_of_ble_eq_true rfl) rfl dX3_append_9 (fun r n1 E_3 hp _ => ?_)
  obtain ⟨rfl, rfl, rfl⟩ := hp
  show jv_V l D vwCl kp G 0 0 n (va_up (va_up (va_up (va_up E 18 (.inl (1, 1600, .inl (upd g0 (16 : Int32).toNatClampNeg (vp_nar .byte ((p1 >>> (24 &&& 31)).toInt8.toInt32)))))) 17 (.inr (3, [.ref 18, .int 17, .int 0, .int (-1), .ref 8, .int 0, .int 0, .int 0, .int 0, .int 0, .int 0, .int 0]))) 18 (.inl (1, 1600, .inl (upd (upd g0 (16 : Int32).toNatClampNeg (vp_nar .byte ((p1 >>> (24 &&& 31)).toInt8.toInt32))) (17 : Int32).toNatClampNeg (vp_nar .byte ((p1 >>> (16 &&& 31)).toInt8.toInt32)))))) 17 (.inr (3, [.ref 18, .int 18, .int 0, .int (-1), .ref 8, .int 0, .int 0, .int 0, .int 0, .int 0, .int 0, .int 0]))) 12 [(2, .int 8), (0, .ref 17), (1, .int p1)] [.int 1]
  refine jv_if_eq (tgt := 44) C dX3_append_12 (by decide) (fun h => absurd h (by decide)) (fun _ => ?_)
  refine jv_aload_n C dX3_append_15 1 rfl ?_
  refine jv_getf (fk := 0) C (by decide) (va_up_self _ _ _) rfl in_X3_append_3 (by decide) (by decide +kernel) rfl rfl dX3_append_16 ?_
  refine jv_aload_n C dX3_append_19 1 rfl ?_
  refine jv_getf (fk := 1) C (by decide) (va_up_self _ _ _) rfl in_X3_append_3 (by decide) (by decide +kernel) rfl rfl dX3_append_20 ?_
  refine jv_iload_n C dX3_append_23 2 rfl ?_
  refine jv_iload_n C dX3_append_24 0 rfl ?_
  refine jv_ishr C dX3_append_25 ?_
  refine jv_i2b C dX3_append_26 ?_
  refine jv_bast C (by decide) (jv_n (by decide) (va_up_self _ _ _)) (jv_vi (by decide)) dX3_append_27 ?_
  refine jv_aload_n C dX3_append_28 1 rfl ?_
  refine jv_dup C dX3_append_29 rfl ?_
  refine jv_getf (fk := 1) C (by decide) (jv_n (by decide) (va_up_self _ _ _)) rfl in_X3_append_3 (by decide) (by decide +kernel) rfl rfl dX3_append_30 ?_
  refine jv_iconst (v := 1) C dX3_append_33 (by decide) ?_
  refine jv_iadd C dX3_append_34 ?_
  refine jv_ti (y := 19) (by decide) ?_
  refine jv_putf (fk := 1) (ty := .int) (fs2 := [.ref 18, .int 19, .int 0, .int (-1), .ref 8, .int 0, .int 0, .int 0, .int 0, .int 0, .int 0, .int 0]) C (by decide) (jv_n (by decide) (va_up_self _ _ _)) rfl in_X3_append_3 tyX3 tyX3_ok nmX3 (by decide) (by decide +kernel) rfl rfl rfl (fun _ => rfl) (fun _ => rfl) (Nat.le_of_ble_eq_true rfl) dX3_append_35 rfl ?_
  refine jv_iinc (lv2 := [(2, .int 0), (0, .ref 17), (1, .int p1)]) C dX3_append_38 hnl 0 rfl (by decide) (by decide) rfl ?_
  refine jv_goto (tgt := 3) C dX3_append_41 (by decide) ?_
  refine jv_iload_n C dX3_append_3 0 rfl ?_
  refine jv_if_lt (tgt := 44) C dX3_append_4 (by decide) (fun h => absurd h (by decide)) (fun _ => ?_)
  refine jv_aload_n C dX3_append_7 1 rfl ?_
  refine jv_iconst (v := 1) C dX3_append_8 (by decide) ?_
  refine jv_callV (na := 1) (As := [.int 1]) (st := []) C (c_X3_hasRoom_19 l D kp (va_up_self _ _ _)  ) gX3_append_X3_hasRoom rfl (by decide) (va_up_self _ _ _) rfl rfl rfl q_X3_hasRoom rfl ⟨by decide, by decide⟩ ⟨by decide, by decide⟩ (fun _ h => absurd h List.not_mem_nil) (Nat.le_of_ble_eq_true rfl) rfl dX3_append_9 (fun r n1 E_4 hp _ => ?_)
  obtain ⟨rfl, rfl, rfl⟩ := hp
  show jv_V l D vwCl kp G 0 0 n (va_up (va_up (va_up (va_up (va_up (va_up E 18 (.inl (1, 1600, .inl (upd g0 (16 : Int32).toNatClampNeg (vp_nar .byte ((p1 >>> (24 &&& 31)).toInt8.toInt32)))))) 17 (.inr (3, [.ref 18, .int 17, .int 0, .int (-1), .ref 8, .int 0, .int 0, .int 0, .int 0, .int 0, .int 0, .int 0]))) 18 (.inl (1, 1600, .inl (upd (upd g0 (16 : Int32).toNatClampNeg (vp_nar .byte ((p1 >>> (24 &&& 31)).toInt8.toInt32))) (17 : Int32).toNatClampNeg (vp_nar .byte ((p1 >>> (16 &&& 31)).toInt8.toInt32)))))) 17 (.inr (3, [.ref 18, .int 18, .int 0, .int (-1), .ref 8, .int 0, .int 0, .int 0, .int 0, .int 0, .int 0, .int 0]))) 18 (.inl (1, 1600, .inl (upd (upd (upd g0 (16 : Int32).toNatClampNeg (vp_nar .byte ((p1 >>> (24 &&& 31)).toInt8.toInt32))) (17 : Int32).toNatClampNeg (vp_nar .byte ((p1 >>> (16 &&& 31)).toInt8.toInt32))) (18 : Int32).toNatClampNeg (vp_nar .byte ((p1 >>> (8 &&& 31)).toInt8.toInt32)))))) 17 (.inr (3, [.ref 18, .int 19, .int 0, .int (-1), .ref 8, .int 0, .int 0, .int 0, .int 0, .int 0, .int 0, .int 0]))) 12 [(2, .int 0), (0, .ref 17), (1, .int p1)] [.int 1]
  refine jv_if_eq (tgt := 44) C dX3_append_12 (by decide) (fun h => absurd h (by decide)) (fun _ => ?_)
  refine jv_aload_n C dX3_append_15 1 rfl ?_
  refine jv_getf (fk := 0) C (by decide) (va_up_self _ _ _) rfl in_X3_append_3 (by decide) (by decide +kernel) rfl rfl dX3_append_16 ?_
  refine jv_aload_n C dX3_append_19 1 rfl ?_
  refine jv_getf (fk := 1) C (by decide) (va_up_self _ _ _) rfl in_X3_append_3 (by decide) (by decide +kernel) rfl rfl dX3_append_20 ?_
  refine jv_iload_n C dX3_append_23 2 rfl ?_
  refine jv_iload_n C dX3_append_24 0 rfl ?_
  refine jv_ishr C dX3_append_25 ?_
  refine jv_i2b C dX3_append_26 ?_
  refine jv_bast C (by decide) (jv_n (by decide) (va_up_self _ _ _)) (jv_vi (by decide)) dX3_append_27 ?_
  refine jv_aload_n C dX3_append_28 1 rfl ?_
  refine jv_dup C dX3_append_29 rfl ?_
  refine jv_getf (fk := 1) C (by decide) (jv_n (by decide) (va_up_self _ _ _)) rfl in_X3_append_3 (by decide) (by decide +kernel) rfl rfl dX3_append_30 ?_
  refine jv_iconst (v := 1) C dX3_append_33 (by decide) ?_
  refine jv_iadd C dX3_append_34 ?_
  refine jv_ti (y := 20) (by decide) ?_
  refine jv_putf (fk := 1) (ty := .int) (fs2 := [.ref 18, .int 20, .int 0, .int (-1), .ref 8, .int 0, .int 0, .int 0, .int 0, .int 0, .int 0, .int 0]) C (by decide) (jv_n (by decide) (va_up_self _ _ _)) rfl in_X3_append_3 tyX3 tyX3_ok nmX3 (by decide) (by decide +kernel) rfl rfl rfl (fun _ => rfl) (fun _ => rfl) (Nat.le_of_ble_eq_true rfl) dX3_append_35 rfl ?_
  refine jv_iinc (lv2 := [(2, .int (-8)), (0, .ref 17), (1, .int p1)]) C dX3_append_38 hnl 0 rfl (by decide) (by decide) rfl ?_
  refine jv_goto (tgt := 3) C dX3_append_41 (by decide) ?_
  refine jv_iload_n C dX3_append_3 0 rfl ?_
  refine jv_if_lt (tgt := 44) C dX3_append_4 (by decide) (fun _ => ?_) (fun h => absurd (by decide) h)
  exact jv_vret C B ⟨rfl, rfl, fun j g0 g1 => ((va_up_ne _ _ g0).trans ((va_up_ne _ _ g1).trans ((va_up_ne _ _ g0).trans ((va_up_ne _ _ g1).trans ((va_up_ne _ _ g0).trans ((va_up_ne _ _ g1).trans ((va_up_ne _ _ g0).trans (va_up_ne _ _ g1)))))))), (va_up_self _ _ _), ⟨_, (jv_n (by decide) (va_up_self _ _ _))⟩⟩ ⟨by decide, by decide⟩ dX3_append_44
theorem q_X3_append : yX3_append.cls ≠ "java/lang/invoke/MethodHandle" ∧ yX3_append.cls ≠ "java/lang/invoke/VarHandle" ∧ (parseMethodDescriptor yX3_append.desc).map (fun d => d.parameters.length) = some 1 := by decide +kernel
theorem in_X8_feed_3 : ∀ w ∈ u_ws RX3 TX3 12, w ∈ wsX8_feed := by decide +kernel
theorem in_X8_feed_8 : ∀ w ∈ u_ws RX8 TX8 11, w ∈ wsX8_feed := by decide +kernel
set_option maxRecDepth 100000 in
set_option maxHeartbeats 8000000 in
theorem c_X8_feed (l : Launch) (D : va_G) (kp : Nat → ClassId) {n : Nat} {E : Nat → jv_E} (h0 : E 0 = cx0) (h17 : E 17 = cx17) (h18 : E 18 = cx18) (p1 : Int32) (p2 : Int32) (p3 : Int32) (p4 : Int32) (p5 : Int32) : jv_M l D vwCl kp yX8_feed wsX8_feed rm3 [] [.ref 0, .int p1, .int p2, .int p3, .int p4, .int p5] n E 0 0 (fun r n1 E1 => some (.int 20) = r ∧ ∀ j, 58 ≤ j → E1 j = E j) := by
  refine jv_of (by decide) rfl (Nat.le_of_ble_eq_true rfl) (fun G C B hI hnl => ?_)
  show jv_V l D vwCl kp G 0 0 n E 0 [(0, .ref 0), (1, .int p1), (2, .int p2), (3, .int p3), (4, .int p4), (5, .int p5)] []
  refine jv_aload_n C dX8_feed_0 0 rfl ?_
  refine jv_getf (fk := 4) C (by decide) h0 rfl in_X8_feed_8 (by decide) (by decide +kernel) rfl rfl dX8_feed_1 ?_
  refine jv_bipush (v := 20) C dX8_feed_4 (by decide) ?_
  refine jv_callV (na := 1) (As := [.int 20]) (st := []) C (c_X3_hasRoom_f l D kp h17  ) gX8_feed_X3_hasRoom rfl (by decide) h17 rfl rfl rfl q_X3_hasRoom rfl ⟨by decide, by decide⟩ ⟨by decide, by decide⟩ (fun _ h => absurd h List.not_mem_nil) (Nat.le_of_ble_eq_true rfl) rfl dX8_feed_6 (fun r n1 E_1 hp _ => ?_)
  obtain ⟨rfl, rfl, rfl⟩ := hp
  show jv_V l D vwCl kp G 0 0 n E 9 [(0, .ref 0), (1, .int p1), (2, .int p2), (3, .int p3), (4, .int p4), (5, .int p5)] [.int 1]
  refine jv_if_ne (tgt := 14) C dX8_feed_9 (by decide) (fun _ => ?_) (fun h => absurd h (by decide))
  refine jv_aload_n C dX8_feed_14 0 rfl ?_
  refine jv_getf (fk := 4) C (by decide) h0 rfl in_X8_feed_8 (by decide) (by decide +kernel) rfl rfl dX8_feed_15 ?_
  refine jv_iload_n C dX8_feed_18 1 rfl ?_
  refine jv_callV (na := 1) (As := [.int p1]) (st := []) C (c_X3_append_0 l D kp h17 h18 p1 ) gX8_feed_X3_append rfl (by decide) h17 rfl rfl rfl q_X3_append rfl ⟨by decide, by decide⟩ ⟨by decide, by decide⟩ (fun _ h => absurd h List.not_mem_nil) (Nat.le_of_ble_eq_true rfl) rfl dX8_feed_19 (fun r n1 E_2 hp _ => ?_)
  obtain ⟨rfl, rfl, hf3, e4, ⟨g_6, e5⟩⟩ := hp
  show jv_V l D vwCl kp G 0 0 n E_2 22 [(0, .ref 0), (1, .int p1), (2, .int p2), (3, .int p3), (4, .int p4), (5, .int p5)] []
  refine jv_aload_n C dX8_feed_22 0 rfl ?_
  refine jv_getf (fk := 4) C (by decide) ((hf3 0 (by decide) (by decide)).trans h0) rfl in_X8_feed_8 (by decide) (by decide +kernel) rfl rfl dX8_feed_23 ?_
  refine jv_iload_n C dX8_feed_26 2 rfl ?_
  refine jv_callV (na := 1) (As := [.int p2]) (st := []) C (c_X3_append_4 l D kp e4 e5 p2 ) gX8_feed_X3_append rfl (by decide) e4 rfl rfl rfl q_X3_append rfl ⟨by decide, by decide⟩ ⟨by decide, by decide⟩ (fun _ h => absurd h List.not_mem_nil) (Nat.le_of_ble_eq_true rfl) rfl dX8_feed_27 (fun r n1 E_7 hp _ => ?_)
  obtain ⟨rfl, rfl, hf8, e9, ⟨g_11, e10⟩⟩ := hp
  show jv_V l D vwCl kp G 0 0 n E_7 30 [(0, .ref 0), (1, .int p1), (2, .int p2), (3, .int p3), (4, .int p4), (5, .int p5)] []
  refine jv_aload_n C dX8_feed_30 0 rfl ?_
  refine jv_getf (fk := 4) C (by decide) ((hf8 0 (by decide) (by decide)).trans ((hf3 0 (by decide) (by decide)).trans h0)) rfl in_X8_feed_8 (by decide) (by decide +kernel) rfl rfl dX8_feed_31 ?_
  refine jv_iload_n C dX8_feed_34 3 rfl ?_
  refine jv_callV (na := 1) (As := [.int p3]) (st := []) C (c_X3_append_8 l D kp e9 e10 p3 ) gX8_feed_X3_append rfl (by decide) e9 rfl rfl rfl q_X3_append rfl ⟨by decide, by decide⟩ ⟨by decide, by decide⟩ (fun _ h => absurd h List.not_mem_nil) (Nat.le_of_ble_eq_true rfl) rfl dX8_feed_35 (fun r n1 E_12 hp _ => ?_)
  obtain ⟨rfl, rfl, hf13, e14, ⟨g_16, e15⟩⟩ := hp
  show jv_V l D vwCl kp G 0 0 n E_12 38 [(0, .ref 0), (1, .int p1), (2, .int p2), (3, .int p3), (4, .int p4), (5, .int p5)] []
  refine jv_aload_n C dX8_feed_38 0 rfl ?_
  refine jv_getf (fk := 4) C (by decide) ((hf13 0 (by decide) (by decide)).trans ((hf8 0 (by decide) (by decide)).trans ((hf3 0 (by decide) (by decide)).trans h0))) rfl in_X8_feed_8 (by decide) (by decide +kernel) rfl rfl dX8_feed_39 ?_
  refine jv_iload C dX8_feed_42 4 rfl ?_
  refine jv_callV (na := 1) (As := [.int p4]) (st := []) C (c_X3_append_12 l D kp e14 e15 p4 ) gX8_feed_X3_append rfl (by decide) e14 rfl rfl rfl q_X3_append rfl ⟨by decide, by decide⟩ ⟨by decide, by decide⟩ (fun _ h => absurd h List.not_mem_nil) (Nat.le_of_ble_eq_true rfl) rfl dX8_feed_44 (fun r n1 E_17 hp _ => ?_)
  obtain ⟨rfl, rfl, hf18, e19, ⟨g_21, e20⟩⟩ := hp
  show jv_V l D vwCl kp G 0 0 n E_17 47 [(0, .ref 0), (1, .int p1), (2, .int p2), (3, .int p3), (4, .int p4), (5, .int p5)] []
  refine jv_aload_n C dX8_feed_47 0 rfl ?_
  refine jv_getf (fk := 4) C (by decide) ((hf18 0 (by decide) (by decide)).trans ((hf13 0 (by decide) (by decide)).trans ((hf8 0 (by decide) (by decide)).trans ((hf3 0 (by decide) (by decide)).trans h0)))) rfl in_X8_feed_8 (by decide) (by decide +kernel) rfl rfl dX8_feed_48 ?_
  refine jv_iload C dX8_feed_51 5 rfl ?_
  refine jv_callV (na := 1) (As := [.int p5]) (st := []) C (c_X3_append_16 l D kp e19 e20 p5 ) gX8_feed_X3_append rfl (by decide) e19 rfl rfl rfl q_X3_append rfl ⟨by decide, by decide⟩ ⟨by decide, by decide⟩ (fun _ h => absurd h List.not_mem_nil) (Nat.le_of_ble_eq_true rfl) rfl dX8_feed_53 (fun r n1 E_22 hp _ => ?_)
  obtain ⟨rfl, rfl, hf23, e24, ⟨g_26, e25⟩⟩ := hp
  show jv_V l D vwCl kp G 0 0 n E_22 56 [(0, .ref 0), (1, .int p1), (2, .int p2), (3, .int p3), (4, .int p4), (5, .int p5)] []
  refine jv_aload_n C dX8_feed_56 0 rfl ?_
  refine jv_getf (fk := 4) C (by decide) ((hf23 0 (by decide) (by decide)).trans ((hf18 0 (by decide) (by decide)).trans ((hf13 0 (by decide) (by decide)).trans ((hf8 0 (by decide) (by decide)).trans ((hf3 0 (by decide) (by decide)).trans h0))))) rfl in_X8_feed_8 (by decide) (by decide +kernel) rfl rfl dX8_feed_57 ?_
  refine jv_getf (fk := 1) C (by decide) e24 rfl in_X8_feed_3 (by decide) (by decide +kernel) rfl rfl dX8_feed_60 ?_
  exact jv_iret C B ⟨rfl, fun j h => ((hf23 j (by omega) (by omega)).trans ((hf18 j (by omega) (by omega)).trans ((hf13 j (by omega) (by omega)).trans ((hf8 j (by omega) (by omega)).trans (hf3 j (by omega) (by omega))))))⟩ ⟨by decide, by decide⟩ dX8_feed_63
theorem in_X8_end_3 : ∀ w ∈ u_ws RX3 TX3 12, w ∈ wsX8_end := by decide +kernel
theorem in_X8_end_8 : ∀ w ∈ u_ws RX8 TX8 11, w ∈ wsX8_end := by decide +kernel
set_option maxRecDepth 100000 in
set_option maxHeartbeats 8000000 in
theorem c_X8_end (l : Launch) (D : va_G) (kp : Nat → ClassId) {n : Nat} {E : Nat → jv_E} (h0 : E 0 = cx0) (h17 : E 17 = cx17) (p1 : Int32) : jv_M l D vwCl kp yX8_end wsX8_end rm1 [] [.ref 0, .int p1] n E 0 0 (fun r n1 E1 => some (.int (jr_end p1)) = r ∧ ∀ j, 58 ≤ j → E1 j = E j) := by
  refine jv_of (by decide) rfl (Nat.le_of_ble_eq_true rfl) (fun G C B hI hnl => ?_)
  show jv_V l D vwCl kp G 0 0 n E 0 [(0, .ref 0), (1, .int p1)] []
  refine jv_iload_n C dX8_end_0 1 rfl ?_
  refine jv_if_lt (tgt := 15) C dX8_end_1 (by decide) (fun c1 => ?_) (fun c1 => ?_)
  · refine jv_iconst (v := (-1)) C dX8_end_15 (by decide) ?_
    exact jv_iret C B ⟨(by have a0 := jv_i_lt c1; have z0 : (0 : Int32).toInt = 0 := (by decide); simp only [jr_end]; (repeat' split) <;> first | rfl | (exfalso; omega)), fun j h => rfl⟩ ⟨by decide, by decide⟩ dX8_end_16
  · refine jv_iload_n C dX8_end_4 1 rfl ?_
    refine jv_aload_n C dX8_end_5 0 rfl ?_
    refine jv_getf (fk := 4) C (by decide) h0 rfl in_X8_end_8 (by decide) (by decide +kernel) rfl rfl dX8_end_6 ?_
    refine jv_getf (fk := 1) C (by decide) h17 rfl in_X8_end_3 (by decide) (by decide +kernel) rfl rfl dX8_end_9 ?_
    refine jv_icmp_le (tgt := 17) C dX8_end_12 (by decide) (fun c2 => ?_) (fun c2 => ?_)
    · refine jv_aload_n C dX8_end_17 0 rfl ?_
      refine jv_getf (fk := 4) C (by decide) h0 rfl in_X8_end_8 (by decide) (by decide +kernel) rfl rfl dX8_end_18 ?_
      refine jv_iload_n C dX8_end_21 1 rfl ?_
      refine jv_putf (fk := 1) (ty := .int) (fs2 := [.ref 18, .int p1, .int 0, .int (-1), .ref 8, .int 0, .int 0, .int 0, .int 0, .int 0, .int 0, .int 0]) C (by decide) h17 rfl in_X8_end_3 tyX3 tyX3_ok nmX3 (by decide) (by decide +kernel) rfl rfl rfl (fun _ => rfl) (fun _ => rfl) (Nat.le_of_ble_eq_true rfl) dX8_end_22 rfl ?_
      refine jv_iload_n C dX8_end_25 1 rfl ?_
      refine jv_ti (y := 0) (jv_r_eq (by have a0 := jv_i_nlt c1; have a1 := jv_i_le c2; have z0 : (0 : Int32).toInt = 0 := (by decide); omega)) ?_
      exact jv_iret C B ⟨(by have a0 := jv_i_nlt c1; have a1 := jv_i_le c2; have z0 : (0 : Int32).toInt = 0 := (by decide); simp only [jr_end]; (repeat' split) <;> first | rfl | (exfalso; omega)), fun j h => (va_up_ne _ _ (by omega))⟩ ⟨by decide, by decide⟩ dX8_end_26
    · refine jv_iconst (v := (-1)) C dX8_end_15 (by decide) ?_
      exact jv_iret C B ⟨(by have a0 := jv_i_nlt c1; have a1 := jv_i_nle c2; have z0 : (0 : Int32).toInt = 0 := (by decide); simp only [jr_end]; (repeat' split) <;> first | rfl | (exfalso; omega)), fun j h => rfl⟩ ⟨by decide, by decide⟩ dX8_end_16
theorem in_X8_fault_3 : ∀ w ∈ u_ws RX3 TX3 12, w ∈ wsX8_fault := by decide +kernel
theorem in_X8_fault_8 : ∀ w ∈ u_ws RX8 TX8 11, w ∈ wsX8_fault := by decide +kernel
set_option maxRecDepth 100000 in
set_option maxHeartbeats 8000000 in
theorem c_X8_fault (l : Launch) (D : va_G) (kp : Nat → ClassId) {n : Nat} {E : Nat → jv_E} (h0 : E 0 = cx0) (h17 : E 17 = cx17) (p1 : Int32) : jv_M l D vwCl kp yX8_fault wsX8_fault rm1 [] [.ref 0, .int p1] n E 0 0 (fun r n1 E1 => some (.int (jr_end p1)) = r ∧ n = n1 ∧ E = E1) := by
  refine jv_of (by decide) rfl (Nat.le_of_ble_eq_true rfl) (fun G C B hI hnl => ?_)
  show jv_V l D vwCl kp G 0 0 n E 0 [(0, .ref 0), (1, .int p1)] []
  refine jv_iload_n C dX8_fault_0 1 rfl ?_
  refine jv_if_ne (tgt := 12) C dX8_fault_1 (by decide) (fun c1 => ?_) (fun c1 => ?_)
  · refine jv_iload_n C dX8_fault_12 1 rfl ?_
    refine jv_iconst (v := 1) C dX8_fault_13 (by decide) ?_
    refine jv_icmp_ne (tgt := 27) C dX8_fault_14 (by decide) (fun c2 => ?_) (fun c2 => ?_)
    · refine jv_iconst (v := (-1)) C dX8_fault_27 (by decide) ?_
      exact jv_iret C B ⟨(by have a0 := jv_i_ne c1; have a1 := jv_i_ne c2; have z0 : (0 : Int32).toInt = 0 := (by decide); have z1 : (1 : Int32).toInt = 1 := (by decide); simp only [jr_end]; (repeat' split) <;> first | rfl | (exfalso; omega)), rfl, rfl⟩ ⟨by decide, by decide⟩ dX8_fault_28
    · refine jv_aload_n C dX8_fault_17 0 rfl ?_
      refine jv_getf (fk := 4) C (by decide) h0 rfl in_X8_fault_8 (by decide) (by decide +kernel) rfl rfl dX8_fault_18 ?_
      refine jv_getf (fk := 3) C (by decide) h17 rfl in_X8_fault_3 (by decide) (by decide +kernel) rfl rfl dX8_fault_21 ?_
      refine jv_goto (tgt := 28) C dX8_fault_24 (by decide) ?_
      exact jv_iret C B ⟨(by have a0 := jv_i_ne c1; have a1 := jv_i_eq c2; have z0 : (0 : Int32).toInt = 0 := (by decide); have z1 : (1 : Int32).toInt = 1 := (by decide); simp only [jr_end]; (repeat' split) <;> first | rfl | (exfalso; omega)), rfl, rfl⟩ ⟨by decide, by decide⟩ dX8_fault_28
  · refine jv_aload_n C dX8_fault_4 0 rfl ?_
    refine jv_getf (fk := 4) C (by decide) h0 rfl in_X8_fault_8 (by decide) (by decide +kernel) rfl rfl dX8_fault_5 ?_
    refine jv_getf (fk := 2) C (by decide) h17 rfl in_X8_fault_3 (by decide) (by decide +kernel) rfl rfl dX8_fault_8 ?_
    exact jv_iret C B ⟨(by have a0 := jv_i_eq c1; have z0 : (0 : Int32).toInt = 0 := (by decide); simp only [jr_end]; (repeat' split) <;> first | rfl | (exfalso; omega)), rfl, rfl⟩ ⟨by decide, by decide⟩ dX8_fault_11
theorem in_X0_wipe_0 : ∀ w ∈ u_ws RX0 TX0 16, w ∈ wsX0_wipe := by decide +kernel
set_option maxRecDepth 100000 in
set_option maxHeartbeats 8000000 in
theorem c_X0_wipe (l : Launch) (D : va_G) (kp : Nat → ClassId) {n : Nat} {E : Nat → jv_E} (h8 : E 8 = cx8)  : jv_M l D vwCl kp yX0_wipe wsX0_wipe rm1 [] [.ref 8] n E 0 0 (fun r n1 E1 => none = r ∧ n = n1 ∧ (∀ j, j ≠ 8 → E1 j = E j) ∧ E1 8 = .inr (0, [.int 0, .int 0, .int 0, .int 0, .int 0, .ref 9, .ref 10, .ref 11, .ref 12, .ref 13, .ref 14, .int 0, .int 0, .int 0, .int 0, .int 0])) := by
  refine jv_of (by decide) rfl (Nat.le_of_ble_eq_true rfl) (fun G C B hI hnl => ?_)
  show jv_V l D vwCl kp G 0 0 n E 0 [(0, .ref 8)] []
  refine jv_aload_n C dX0_wipe_0 0 rfl ?_
  refine jv_iconst (v := 0) C dX0_wipe_1 (by decide) ?_
  refine jv_putf (fk := 0) (ty := .int) (fs2 := [.int 0, .int 0, .int 0, .int 0, .int 0, .ref 9, .ref 10, .ref 11, .ref 12, .ref 13, .ref 14, .int 0, .int 0, .int 0, .int 0, .int 0]) C (by decide) h8 rfl in_X0_wipe_0 tyX0 tyX0_ok nmX0 (by decide) (by decide +kernel) rfl rfl rfl (fun _ => rfl) (fun _ => rfl) (Nat.le_of_ble_eq_true rfl) dX0_wipe_2 rfl ?_
  refine jv_aload_n C dX0_wipe_5 0 rfl ?_
  refine jv_iconst (v := 0) C dX0_wipe_6 (by decide) ?_
  refine jv_putf (fk := 1) (ty := .int) (fs2 := [.int 0, .int 0, .int 0, .int 0, .int 0, .ref 9, .ref 10, .ref 11, .ref 12, .ref 13, .ref 14, .int 0, .int 0, .int 0, .int 0, .int 0]) C (by decide) (va_up_self _ _ _) rfl in_X0_wipe_0 tyX0 tyX0_ok nmX0 (by decide) (by decide +kernel) rfl rfl rfl (fun _ => rfl) (fun _ => rfl) (Nat.le_of_ble_eq_true rfl) dX0_wipe_7 rfl ?_
  refine jv_aload_n C dX0_wipe_10 0 rfl ?_
  refine jv_iconst (v := 0) C dX0_wipe_11 (by decide) ?_
  refine jv_putf (fk := 2) (ty := .int) (fs2 := [.int 0, .int 0, .int 0, .int 0, .int 0, .ref 9, .ref 10, .ref 11, .ref 12, .ref 13, .ref 14, .int 0, .int 0, .int 0, .int 0, .int 0]) C (by decide) (va_up_self _ _ _) rfl in_X0_wipe_0 tyX0 tyX0_ok nmX0 (by decide) (by decide +kernel) rfl rfl rfl (fun _ => rfl) (fun _ => rfl) (Nat.le_of_ble_eq_true rfl) dX0_wipe_12 rfl ?_
  refine jv_aload_n C dX0_wipe_15 0 rfl ?_
  refine jv_iconst (v := 0) C dX0_wipe_16 (by decide) ?_
  refine jv_putf (fk := 3) (ty := .int) (fs2 := [.int 0, .int 0, .int 0, .int 0, .int 0, .ref 9, .ref 10, .ref 11, .ref 12, .ref 13, .ref 14, .int 0, .int 0, .int 0, .int 0, .int 0]) C (by decide) (va_up_self _ _ _) rfl in_X0_wipe_0 tyX0 tyX0_ok nmX0 (by decide) (by decide +kernel) rfl rfl rfl (fun _ => rfl) (fun _ => rfl) (Nat.le_of_ble_eq_true rfl) dX0_wipe_17 rfl ?_
  refine jv_aload_n C dX0_wipe_20 0 rfl ?_
  refine jv_iconst (v := 0) C dX0_wipe_21 (by decide) ?_
  refine jv_putf (fk := 4) (ty := .int) (fs2 := [.int 0, .int 0, .int 0, .int 0, .int 0, .ref 9, .ref 10, .ref 11, .ref 12, .ref 13, .ref 14, .int 0, .int 0, .int 0, .int 0, .int 0]) C (by decide) (va_up_self _ _ _) rfl in_X0_wipe_0 tyX0 tyX0_ok nmX0 (by decide) (by decide +kernel) rfl rfl rfl (fun _ => rfl) (fun _ => rfl) (Nat.le_of_ble_eq_true rfl) dX0_wipe_22 rfl ?_
  refine jv_aload_n C dX0_wipe_25 0 rfl ?_
  refine jv_iconst (v := 0) C dX0_wipe_26 (by decide) ?_
  refine jv_putf (fk := 11) (ty := .boolean) (fs2 := [.int 0, .int 0, .int 0, .int 0, .int 0, .ref 9, .ref 10, .ref 11, .ref 12, .ref 13, .ref 14, .int 0, .int 0, .int 0, .int 0, .int 0]) C (by decide) (va_up_self _ _ _) rfl in_X0_wipe_0 tyX0 tyX0_ok nmX0 (by decide) (by decide +kernel) rfl rfl rfl (fun _ => (by decide : narrow .boolean (.int 0) = .int 0)) (fun _ => (by decide : fits .boolean (.int 0) = true)) (Nat.le_of_ble_eq_true rfl) dX0_wipe_27 rfl ?_
  exact jv_vret C B ⟨rfl, rfl, fun j g0 => ((va_up_ne _ _ g0).trans ((va_up_ne _ _ g0).trans ((va_up_ne _ _ g0).trans ((va_up_ne _ _ g0).trans ((va_up_ne _ _ g0).trans (va_up_ne _ _ g0)))))), (va_up_self _ _ _)⟩ ⟨by decide, by decide⟩ dX0_wipe_30
theorem in_X3_advance_3 : ∀ w ∈ u_ws RX3 TX3 12, w ∈ wsX3_advance := by decide +kernel
set_option maxRecDepth 100000 in
set_option maxHeartbeats 8000000 in
theorem c_X3_advance (l : Launch) (D : va_G) (kp : Nat → ClassId) {n : Nat} {E : Nat → jv_E} (h17 : E 17 = cx17)  : jv_M l D vwCl kp yX3_advance wsX3_advance rm1 [] [.ref 17] n E 0 0 (fun r n1 E1 => none = r ∧ n = n1 ∧ (∀ j, j ≠ 17 → E1 j = E j) ∧ E1 17 = .inr (3, [.ref 18, .int 0, .int 0, .int (-1), .ref 8, .int 0, .int 0, .int 0, .int 0, .int 0, .int 0, .int 0])) := by
  refine jv_of (by decide) rfl (Nat.le_of_ble_eq_true rfl) (fun G C B hI hnl => ?_)
  show jv_V l D vwCl kp G 0 0 n E 0 [(0, .ref 17)] []
  refine jv_aload_n C dX3_advance_0 0 rfl ?_
  refine jv_getf (fk := 5) C (by decide) h17 rfl in_X3_advance_3 (by decide) (by decide +kernel) rfl rfl dX3_advance_1 ?_
  refine jv_aload_n C dX3_advance_4 0 rfl ?_
  refine jv_getf (fk := 1) C (by decide) h17 rfl in_X3_advance_3 (by decide) (by decide +kernel) rfl rfl dX3_advance_5 ?_
  refine jv_icmp_ge (tgt := 50) C dX3_advance_8 (by decide) (fun _ => ?_) (fun h => absurd (by decide) h)
  refine jv_aload_n C dX3_advance_50 0 rfl ?_
  refine jv_aload_n C dX3_advance_51 0 rfl ?_
  refine jv_getf (fk := 5) C (by decide) h17 rfl in_X3_advance_3 (by decide) (by decide +kernel) rfl rfl dX3_advance_52 ?_
  refine jv_putf (fk := 7) (ty := .int) (fs2 := [.ref 18, .int 0, .int 0, .int (-1), .ref 8, .int 0, .int 0, .int 0, .int 0, .int 0, .int 0, .int 0]) C (by decide) h17 rfl in_X3_advance_3 tyX3 tyX3_ok nmX3 (by decide) (by decide +kernel) rfl rfl rfl (fun _ => rfl) (fun _ => rfl) (Nat.le_of_ble_eq_true rfl) dX3_advance_55 rfl ?_
  refine jv_aload_n C dX3_advance_58 0 rfl ?_
  refine jv_iconst (v := 0) C dX3_advance_59 (by decide) ?_
  refine jv_putf (fk := 8) (ty := .int) (fs2 := [.ref 18, .int 0, .int 0, .int (-1), .ref 8, .int 0, .int 0, .int 0, .int 0, .int 0, .int 0, .int 0]) C (by decide) (va_up_self _ _ _) rfl in_X3_advance_3 tyX3 tyX3_ok nmX3 (by decide) (by decide +kernel) rfl rfl rfl (fun _ => rfl) (fun _ => rfl) (Nat.le_of_ble_eq_true rfl) dX3_advance_60 rfl ?_
  refine jv_aload_n C dX3_advance_63 0 rfl ?_
  refine jv_getf (fk := 5) C (by decide) (va_up_self _ _ _) rfl in_X3_advance_3 (by decide) (by decide +kernel) rfl rfl dX3_advance_64 ?_
  refine jv_aload_n C dX3_advance_67 0 rfl ?_
  refine jv_getf (fk := 1) C (by decide) (va_up_self _ _ _) rfl in_X3_advance_3 (by decide) (by decide +kernel) rfl rfl dX3_advance_68 ?_
  refine jv_icmp_lt (tgt := 82) C dX3_advance_71 (by decide) (fun h => absurd h (by decide)) (fun _ => ?_)
  refine jv_aload_n C dX3_advance_74 0 rfl ?_
  refine jv_iconst (v := 0) C dX3_advance_75 (by decide) ?_
  refine jv_putf (fk := 6) (ty := .int) (fs2 := [.ref 18, .int 0, .int 0, .int (-1), .ref 8, .int 0, .int 0, .int 0, .int 0, .int 0, .int 0, .int 0]) C (by decide) (va_up_self _ _ _) rfl in_X3_advance_3 tyX3 tyX3_ok nmX3 (by decide) (by decide +kernel) rfl rfl rfl (fun _ => rfl) (fun _ => rfl) (Nat.le_of_ble_eq_true rfl) dX3_advance_76 rfl ?_
  refine jv_goto (tgt := 256) C dX3_advance_79 (by decide) ?_
  exact jv_vret C B ⟨rfl, rfl, fun j g0 => ((va_up_ne _ _ g0).trans ((va_up_ne _ _ g0).trans (va_up_ne _ _ g0))), (va_up_self _ _ _)⟩ ⟨by decide, by decide⟩ dX3_advance_256
theorem q_X0_wipe : yX0_wipe.cls ≠ "java/lang/invoke/MethodHandle" ∧ yX0_wipe.cls ≠ "java/lang/invoke/VarHandle" ∧ (parseMethodDescriptor yX0_wipe.desc).map (fun d => d.parameters.length) = some 0 := by decide +kernel
theorem q_X3_advance : yX3_advance.cls ≠ "java/lang/invoke/MethodHandle" ∧ yX3_advance.cls ≠ "java/lang/invoke/VarHandle" ∧ (parseMethodDescriptor yX3_advance.desc).map (fun d => d.parameters.length) = some 0 := by decide +kernel
theorem in_X3_readAll_3 : ∀ w ∈ u_ws RX3 TX3 12, w ∈ wsX3_readAll := by decide +kernel
set_option maxRecDepth 100000 in
set_option maxHeartbeats 8000000 in
theorem c_X3_readAll (l : Launch) (D : va_G) (kp : Nat → ClassId) {n : Nat} {E : Nat → jv_E} (h8 : E 8 = cx8) (h17 : E 17 = cx17)  : jv_M l D vwCl kp yX3_readAll wsX3_readAll rm2 [] [.ref 17] n E 0 0 (fun r n1 E1 => some (.int 1) = r ∧ n = n1 ∧ (∀ j, j ≠ 8 → j ≠ 17 → E1 j = E j) ∧ E1 8 = .inr (0, [.int 0, .int 0, .int 0, .int 0, .int 0, .ref 9, .ref 10, .ref 11, .ref 12, .ref 13, .ref 14, .int 0, .int 0, .int 0, .int 0, .int 0]) ∧ E1 17 = .inr (3, [.ref 18, .int 0, .int 0, .int (-1), .ref 8, .int 0, .int 0, .int 0, .int 0, .int 0, .int 0, .int 0])) := by
  refine jv_of (by decide) rfl (Nat.le_of_ble_eq_true rfl) (fun G C B hI hnl => ?_)
  show jv_V l D vwCl kp G 0 0 n E 0 [(0, .ref 17)] []
  refine jv_aload_n C dX3_readAll_0 0 rfl ?_
  refine jv_getf (fk := 4) C (by decide) h17 rfl in_X3_readAll_3 (by decide) (by decide +kernel) rfl rfl dX3_readAll_1 ?_
  refine jv_callV (na := 0) (As := []) (st := []) C (c_X0_wipe l D kp h8  ) gX3_readAll_X0_wipe rfl (by decide) h8 rfl rfl rfl q_X0_wipe rfl ⟨by decide, by decide⟩ ⟨by decide, by decide⟩ (fun _ h => absurd h List.not_mem_nil) (Nat.le_of_ble_eq_true rfl) rfl dX3_readAll_4 (fun r n1 E_1 hp _ => ?_)
  obtain ⟨rfl, rfl, hf2, e3⟩ := hp
  show jv_V l D vwCl kp G 0 0 n E_1 7 [(0, .ref 17)] []
  refine jv_aload_n C dX3_readAll_7 0 rfl ?_
  refine jv_iconst (v := 0) C dX3_readAll_8 (by decide) ?_
  refine jv_putf (fk := 5) (ty := .int) (fs2 := [.ref 18, .int 0, .int 0, .int (-1), .ref 8, .int 0, .int 0, .int 0, .int 0, .int 0, .int 0, .int 0]) C (by decide) ((hf2 17 (by decide)).trans h17) rfl in_X3_readAll_3 tyX3 tyX3_ok nmX3 (by decide) (by decide +kernel) rfl rfl rfl (fun _ => rfl) (fun _ => rfl) (Nat.le_of_ble_eq_true rfl) dX3_readAll_9 rfl ?_
  refine jv_aload_n C dX3_readAll_12 0 rfl ?_
  refine jv_iconst (v := 0) C dX3_readAll_13 (by decide) ?_
  refine jv_putf (fk := 10) (ty := .int) (fs2 := [.ref 18, .int 0, .int 0, .int (-1), .ref 8, .int 0, .int 0, .int 0, .int 0, .int 0, .int 0, .int 0]) C (by decide) (va_up_self _ _ _) rfl in_X3_readAll_3 tyX3 tyX3_ok nmX3 (by decide) (by decide +kernel) rfl rfl rfl (fun _ => rfl) (fun _ => rfl) (Nat.le_of_ble_eq_true rfl) dX3_readAll_14 rfl ?_
  refine jv_aload_n C dX3_readAll_17 0 rfl ?_
  refine jv_iconst (v := 0) C dX3_readAll_18 (by decide) ?_
  refine jv_putf (fk := 11) (ty := .boolean) (fs2 := [.ref 18, .int 0, .int 0, .int (-1), .ref 8, .int 0, .int 0, .int 0, .int 0, .int 0, .int 0, .int 0]) C (by decide) (va_up_self _ _ _) rfl in_X3_readAll_3 tyX3 tyX3_ok nmX3 (by decide) (by decide +kernel) rfl rfl rfl (fun _ => (by decide : narrow .boolean (.int 0) = .int 0)) (fun _ => (by decide : fits .boolean (.int 0) = true)) (Nat.le_of_ble_eq_true rfl) dX3_readAll_19 rfl ?_
  refine jv_aload_n C dX3_readAll_22 0 rfl ?_
  refine jv_iconst (v := 0) C dX3_readAll_23 (by decide) ?_
  refine jv_putf (fk := 2) (ty := .int) (fs2 := [.ref 18, .int 0, .int 0, .int (-1), .ref 8, .int 0, .int 0, .int 0, .int 0, .int 0, .int 0, .int 0]) C (by decide) (va_up_self _ _ _) rfl in_X3_readAll_3 tyX3 tyX3_ok nmX3 (by decide) (by decide +kernel) rfl rfl rfl (fun _ => rfl) (fun _ => rfl) (Nat.le_of_ble_eq_true rfl) dX3_readAll_24 rfl ?_
  refine jv_aload_n C dX3_readAll_27 0 rfl ?_
  refine jv_iconst (v := (-1)) C dX3_readAll_28 (by decide) ?_
  refine jv_putf (fk := 3) (ty := .int) (fs2 := [.ref 18, .int 0, .int 0, .int (-1), .ref 8, .int 0, .int 0, .int 0, .int 0, .int 0, .int 0, .int 0]) C (by decide) (va_up_self _ _ _) rfl in_X3_readAll_3 tyX3 tyX3_ok nmX3 (by decide) (by decide +kernel) rfl rfl rfl (fun _ => rfl) (fun _ => rfl) (Nat.le_of_ble_eq_true rfl) dX3_readAll_29 rfl ?_
  refine jv_aload_n C dX3_readAll_32 0 rfl ?_
  refine jv_callV (na := 0) (As := []) (st := []) C (c_X3_advance l D kp (va_up_self _ _ _)  ) gX3_readAll_X3_advance rfl (by decide) (va_up_self _ _ _) rfl rfl rfl q_X3_advance rfl ⟨by decide, by decide⟩ ⟨by decide, by decide⟩ (fun _ h => absurd h List.not_mem_nil) (Nat.le_of_ble_eq_true rfl) rfl dX3_readAll_33 (fun r n1 E_4 hp _ => ?_)
  obtain ⟨rfl, rfl, hf5, e6⟩ := hp
  show jv_V l D vwCl kp G 0 0 n E_4 36 [(0, .ref 17)] []
  refine jv_iconst (v := 0) C dX3_readAll_36 (by decide) ?_
  refine jv_istore_n (lv2 := [(1, .int 0), (0, .ref 17)]) C dX3_readAll_37 rfl hnl (by decide) rfl ?_
  refine jv_iload_n C dX3_readAll_38 0 rfl ?_
  refine jv_sipush (v := 1600) C dX3_readAll_39 (by decide) ?_
  refine jv_icmp_ge (tgt := 80) C dX3_readAll_42 (by decide) (fun h => absurd h (by decide)) (fun _ => ?_)
  refine jv_aload_n C dX3_readAll_45 1 rfl ?_
  refine jv_getf (fk := 6) C (by decide) e6 rfl in_X3_readAll_3 (by decide) (by decide +kernel) rfl rfl dX3_readAll_46 ?_
  refine jv_if_eq (tgt := 80) C dX3_readAll_49 (by decide) (fun _ => ?_) (fun h => absurd (by decide) h)
  refine jv_iconst (v := 1) C dX3_readAll_80 (by decide) ?_
  exact jv_zret C B (by decide) ⟨rfl, rfl, fun j g0 g1 => ((hf5 j g1).trans ((va_up_ne _ _ g1).trans ((va_up_ne _ _ g1).trans ((va_up_ne _ _ g1).trans ((va_up_ne _ _ g1).trans ((va_up_ne _ _ g1).trans (hf2 j g0))))))), ((hf5 8 (by decide)).trans (jv_n (by decide) (jv_n (by decide) (jv_n (by decide) (jv_n (by decide) (jv_n (by decide) e3)))))), e6⟩ ⟨by decide, by decide⟩ dX3_readAll_81
theorem in_X0_copyOf_0 : ∀ w ∈ u_ws RX0 TX0 16, w ∈ wsX0_copyOf := by decide +kernel
set_option maxRecDepth 100000 in
set_option maxHeartbeats 8000000 in
theorem c_X0_copyOf_1 (l : Launch) (D : va_G) (kp : Nat → ClassId) {n : Nat} {E : Nat → jv_E} (h1 : E 1 = cx1) (h2 : E 2 = cx2) (h3 : E 3 = cx3) (h4 : E 4 = cx4) (h5 : E 5 = cx5) (h6 : E 6 = cx6) (h7 : E 7 = cx7) (h8 : E 8 = cx8) (h9 : E 9 = cx9) (h10 : E 10 = cx10) (h11 : E 11 = cx11) (h12 : E 12 = cx12) (h13 : E 13 = cx13) (h14 : E 14 = cx14)  : jv_M l D vwCl kp yX0_copyOf wsX0_copyOf rm1 [] [.ref 1, .ref 8] n E 0 0 (fun r n1 E1 => none = r ∧ n = n1 ∧ (∀ j, j ≠ 1 → j ≠ 2 → j ≠ 3 → j ≠ 4 → j ≠ 5 → j ≠ 6 → j ≠ 7 → E1 j = E j) ∧ E1 1 = .inr (0, [.int 0, .int 0, .int 0, .int 0, .int 0, .ref 2, .ref 3, .ref 4, .ref 5, .ref 6, .ref 7, .int 0, .int 0, .int 0, .int 0, .int 0]) ∧ (∃ g, E1 2 = .inl (0, 48, .inl g)) ∧ (∃ g, E1 3 = .inl (0, 48, .inl g)) ∧ (∃ g, E1 4 = .inl (0, 6, .inl g)) ∧ (∃ g, E1 5 = .inl (0, 6, .inl g)) ∧ (∃ g, E1 6 = .inl (0, 6, .inl g)) ∧ (∃ g, E1 7 = .inl (0, 24, .inl g))) := by
  refine jv_of (by decide) rfl (Nat.le_of_ble_eq_true rfl) (fun G C B hI hnl => ?_)
  show jv_V l D vwCl kp G 0 0 n E 0 [(0, .ref 1), (1, .ref 8)] []
  refine jv_aload_n C dX0_copyOf_0 0 rfl ?_
  refine jv_aload_n C dX0_copyOf_1 1 rfl ?_
  refine jv_getf (fk := 0) C (by decide) h8 rfl in_X0_copyOf_0 (by decide) (by decide +kernel) rfl rfl dX0_copyOf_2 ?_
  refine jv_putf (fk := 0) (ty := .int) (fs2 := [.int 0, .int 0, .int 0, .int 0, .int 0, .ref 2, .ref 3, .ref 4, .ref 5, .ref 6, .ref 7, .int 0, .int 0, .int 0, .int 0, .int 0]) C (by decide) h1 rfl in_X0_copyOf_0 tyX0 tyX0_ok nmX0 (by decide) (by decide +kernel) rfl rfl rfl (fun _ => rfl) (fun _ => rfl) (Nat.le_of_ble_eq_true rfl) dX0_copyOf_5 rfl ?_
  refine jv_aload_n C dX0_copyOf_8 0 rfl ?_
  refine jv_aload_n C dX0_copyOf_9 1 rfl ?_
  refine jv_getf (fk := 1) C (by decide) (jv_n (by decide) h8) rfl in_X0_copyOf_0 (by decide) (by decide +kernel) rfl rfl dX0_copyOf_10 ?_
  refine jv_putf (fk := 1) (ty := .int) (fs2 := [.int 0, .int 0, .int 0, .int 0, .int 0, .ref 2, .ref 3, .ref 4, .ref 5, .ref 6, .ref 7, .int 0, .int 0, .int 0, .int 0, .int 0]) C (by decide) (va_up_self _ _ _) rfl in_X0_copyOf_0 tyX0 tyX0_ok nmX0 (by decide) (by decide +kernel) rfl rfl rfl (fun _ => rfl) (fun _ => rfl) (Nat.le_of_ble_eq_true rfl) dX0_copyOf_13 rfl ?_
  refine jv_aload_n C dX0_copyOf_16 0 rfl ?_
  refine jv_aload_n C dX0_copyOf_17 1 rfl ?_
  refine jv_getf (fk := 2) C (by decide) (jv_n (by decide) (jv_n (by decide) h8)) rfl in_X0_copyOf_0 (by decide) (by decide +kernel) rfl rfl dX0_copyOf_18 ?_
  refine jv_putf (fk := 2) (ty := .int) (fs2 := [.int 0, .int 0, .int 0, .int 0, .int 0, .ref 2, .ref 3, .ref 4, .ref 5, .ref 6, .ref 7, .int 0, .int 0, .int 0, .int 0, .int 0]) C (by decide) (va_up_self _ _ _) rfl in_X0_copyOf_0 tyX0 tyX0_ok nmX0 (by decide) (by decide +kernel) rfl rfl rfl (fun _ => rfl) (fun _ => rfl) (Nat.le_of_ble_eq_true rfl) dX0_copyOf_21 rfl ?_
  refine jv_aload_n C dX0_copyOf_24 0 rfl ?_
  refine jv_aload_n C dX0_copyOf_25 1 rfl ?_
  refine jv_getf (fk := 3) C (by decide) (jv_n (by decide) (jv_n (by decide) (jv_n (by decide) h8))) rfl in_X0_copyOf_0 (by decide) (by decide +kernel) rfl rfl dX0_copyOf_26 ?_
  refine jv_putf (fk := 3) (ty := .int) (fs2 := [.int 0, .int 0, .int 0, .int 0, .int 0, .ref 2, .ref 3, .ref 4, .ref 5, .ref 6, .ref 7, .int 0, .int 0, .int 0, .int 0, .int 0]) C (by decide) (va_up_self _ _ _) rfl in_X0_copyOf_0 tyX0 tyX0_ok nmX0 (by decide) (by decide +kernel) rfl rfl rfl (fun _ => rfl) (fun _ => rfl) (Nat.le_of_ble_eq_true rfl) dX0_copyOf_29 rfl ?_
  refine jv_aload_n C dX0_copyOf_32 0 rfl ?_
  refine jv_aload_n C dX0_copyOf_33 1 rfl ?_
  refine jv_getf (fk := 4) C (by decide) (jv_n (by decide) (jv_n (by decide) (jv_n (by decide) (jv_n (by decide) h8)))) rfl in_X0_copyOf_0 (by decide) (by decide +kernel) rfl rfl dX0_copyOf_34 ?_
  refine jv_putf (fk := 4) (ty := .int) (fs2 := [.int 0, .int 0, .int 0, .int 0, .int 0, .ref 2, .ref 3, .ref 4, .ref 5, .ref 6, .ref 7, .int 0, .int 0, .int 0, .int 0, .int 0]) C (by decide) (va_up_self _ _ _) rfl in_X0_copyOf_0 tyX0 tyX0_ok nmX0 (by decide) (by decide +kernel) rfl rfl rfl (fun _ => rfl) (fun _ => rfl) (Nat.le_of_ble_eq_true rfl) dX0_copyOf_37 rfl ?_
  refine jv_aload_n C dX0_copyOf_40 1 rfl ?_
  refine jv_getf (fk := 5) C (by decide) (jv_n (by decide) (jv_n (by decide) (jv_n (by decide) (jv_n (by decide) (jv_n (by decide) h8))))) rfl in_X0_copyOf_0 (by decide) (by decide +kernel) rfl rfl dX0_copyOf_41 ?_
  refine jv_iconst (v := 0) C dX0_copyOf_44 (by decide) ?_
  refine jv_aload_n C dX0_copyOf_45 0 rfl ?_
  refine jv_getf (fk := 5) C (by decide) (va_up_self _ _ _) rfl in_X0_copyOf_0 (by decide) (by decide +kernel) rfl rfl dX0_copyOf_46 ?_
  refine jv_iconst (v := 0) C dX0_copyOf_49 (by decide) ?_
  refine jv_aload_n C dX0_copyOf_50 0 rfl ?_
  refine jv_getf (fk := 5) C (by decide) (va_up_self _ _ _) rfl in_X0_copyOf_0 (by decide) (by decide +kernel) rfl rfl dX0_copyOf_51 ?_
  refine jv_alen (v := 48) C (by decide) (jv_n (by decide) (jv_n (by decide) (jv_n (by decide) (jv_n (by decide) (jv_n (by decide) h2))))) .int (fun _ => rfl) (by decide) dX0_copyOf_54 ?_
  refine jv_copyI C (by decide) (by decide) (jv_n (by decide) (jv_n (by decide) (jv_n (by decide) (jv_n (by decide) (jv_n (by decide) h9))))) (jv_n (by decide) (jv_n (by decide) (jv_n (by decide) (jv_n (by decide) (jv_n (by decide) h2))))) (by decide +kernel) (by decide +kernel) (by decide +kernel) (by decide +kernel) (by decide) (by decide) (by decide) (by decide) (by decide) (by decide) (Nat.le_of_ble_eq_true rfl) dX0_copyOf_55 ?_
  refine jv_aload_n C dX0_copyOf_58 1 rfl ?_
  refine jv_getf (fk := 6) C (by decide) (jv_n (by decide) (jv_n (by decide) (jv_n (by decide) (jv_n (by decide) (jv_n (by decide) (jv_n (by decide) h8)))))) rfl in_X0_copyOf_0 (by decide) (by decide +kernel) rfl rfl dX0_copyOf_59 ?_
  refine jv_iconst (v := 0) C dX0_copyOf_62 (by decide) ?_
  refine jv_aload_n C dX0_copyOf_63 0 rfl ?_
  refine jv_getf (fk := 6) C (by decide) (jv_n (by decide) (va_up_self _ _ _)) rfl in_X0_copyOf_0 (by decide) (by decide +kernel) rfl rfl dX0_copyOf_64 ?_
  refine jv_iconst (v := 0) C dX0_copyOf_67 (by decide) ?_
  refine jv_aload_n C dX0_copyOf_68 0 rfl ?_
  refine jv_getf (fk := 6) C (by decide) (jv_n (by decide) (va_up_self _ _ _)) rfl in_X0_copyOf_0 (by decide) (by decide +kernel) rfl rfl dX0_copyOf_69 ?_
  refine jv_alen (v := 48) C (by decide) (jv_n (by decide) (jv_n (by decide) (jv_n (by decide) (jv_n (by decide) (jv_n (by decide) (jv_n (by decide) h3)))))) .int (fun _ => rfl) (by decide) dX0_copyOf_72 ?_
  refine jv_copyI C (by decide) (by decide) (jv_n (by decide) (jv_n (by decide) (jv_n (by decide) (jv_n (by decide) (jv_n (by decide) (jv_n (by decide) h10)))))) (jv_n (by decide) (jv_n (by decide) (jv_n (by decide) (jv_n (by decide) (jv_n (by decide) (jv_n (by decide) h3)))))) (by decide +kernel) (by decide +kernel) (by decide +kernel) (by decide +kernel) (by decide) (by decide) (by decide) (by decide) (by decide) (by decide) (Nat.le_of_ble_eq_true rfl) dX0_copyOf_73 ?_
  refine jv_aload_n C dX0_copyOf_76 1 rfl ?_
  refine jv_getf (fk := 7) C (by decide) (jv_n (by decide) (jv_n (by decide) (jv_n (by decide) (jv_n (by decide) (jv_n (by decide) (jv_n (by decide) (jv_n (by decide) h8))))))) rfl in_X0_copyOf_0 (by decide) (by decide +kernel) rfl rfl dX0_copyOf_77 ?_
  refine jv_iconst (v := 0) C dX0_copyOf_80 (by decide) ?_
  refine jv_aload_n C dX0_copyOf_81 0 rfl ?_
  refine jv_getf (fk := 7) C (by decide) (jv_n (by decide) (jv_n (by decide) (va_up_self _ _ _))) rfl in_X0_copyOf_0 (by decide) (by decide +kernel) rfl rfl dX0_copyOf_82 ?_
  refine jv_iconst (v := 0) C dX0_copyOf_85 (by decide) ?_
  refine jv_aload_n C dX0_copyOf_86 0 rfl ?_
  refine jv_getf (fk := 7) C (by decide) (jv_n (by decide) (jv_n (by decide) (va_up_self _ _ _))) rfl in_X0_copyOf_0 (by decide) (by decide +kernel) rfl rfl dX0_copyOf_87 ?_
  refine jv_alen (v := 6) C (by decide) (jv_n (by decide) (jv_n (by decide) (jv_n (by decide) (jv_n (by decide) (jv_n (by decide) (jv_n (by decide) (jv_n (by decide) h4))))))) .int (fun _ => rfl) (by decide) dX0_copyOf_90 ?_
  refine jv_copyI C (by decide) (by decide) (jv_n (by decide) (jv_n (by decide) (jv_n (by decide) (jv_n (by decide) (jv_n (by decide) (jv_n (by decide) (jv_n (by decide) h11))))))) (jv_n (by decide) (jv_n (by decide) (jv_n (by decide) (jv_n (by decide) (jv_n (by decide) (jv_n (by decide) (jv_n (by decide) h4))))))) (by decide +kernel) (by decide +kernel) (by decide +kernel) (by decide +kernel) (by decide) (by decide) (by decide) (by decide) (by decide) (by decide) (Nat.le_of_ble_eq_true rfl) dX0_copyOf_91 ?_
  refine jv_aload_n C dX0_copyOf_94 1 rfl ?_
  refine jv_getf (fk := 8) C (by decide) (jv_n (by decide) (jv_n (by decide) (jv_n (by decide) (jv_n (by decide) (jv_n (by decide) (jv_n (by decide) (jv_n (by decide) (jv_n (by decide) h8)))))))) rfl in_X0_copyOf_0 (by decide) (by decide +kernel) rfl rfl dX0_copyOf_95 ?_
  refine jv_iconst (v := 0) C dX0_copyOf_98 (by decide) ?_
  refine jv_aload_n C dX0_copyOf_99 0 rfl ?_
  refine jv_getf (fk := 8) C (by decide) (jv_n (by decide) (jv_n (by decide) (jv_n (by decide) (va_up_self _ _ _)))) rfl in_X0_copyOf_0 (by decide) (by decide +kernel) rfl rfl dX0_copyOf_100 ?_
  refine jv_iconst (v := 0) C dX0_copyOf_103 (by decide) ?_
  refine jv_aload_n C dX0_copyOf_104 0 rfl ?_
  refine jv_getf (fk := 8) C (by decide) (jv_n (by decide) (jv_n (by decide) (jv_n (by decide) (va_up_self _ _ _)))) rfl in_X0_copyOf_0 (by decide) (by decide +kernel) rfl rfl dX0_copyOf_105 ?_
  refine jv_alen (v := 6) C (by decide) (jv_n (by decide) (jv_n (by decide) (jv_n (by decide) (jv_n (by decide) (jv_n (by decide) (jv_n (by decide) (jv_n (by decide) (jv_n (by decide) h5)))))))) .int (fun _ => rfl) (by decide) dX0_copyOf_108 ?_
  refine jv_copyI C (by decide) (by decide) (jv_n (by decide) (jv_n (by decide) (jv_n (by decide) (jv_n (by decide) (jv_n (by decide) (jv_n (by decide) (jv_n (by decide) (jv_n (by decide) h12)))))))) (jv_n (by decide) (jv_n (by decide) (jv_n (by decide) (jv_n (by decide) (jv_n (by decide) (jv_n (by decide) (jv_n (by decide) (jv_n (by decide) h5)))))))) (by decide +kernel) (by decide +kernel) (by decide +kernel) (by decide +kernel) (by decide) (by decide) (by decide) (by decide) (by decide) (by decide) (Nat.le_of_ble_eq_true rfl) dX0_copyOf_109 ?_
  refine jv_aload_n C dX0_copyOf_112 1 rfl ?_
  refine jv_getf (fk := 9) C (by decide) (jv_n (by decide) (jv_n (by decide) (jv_n (by decide) (jv_n (by decide) (jv_n (by decide) (jv_n (by decide) (jv_n (by decide) (jv_n (by decide) (jv_n (by decide) h8))))))))) rfl in_X0_copyOf_0 (by decide) (by decide +kernel) rfl rfl dX0_copyOf_113 ?_
  refine jv_iconst (v := 0) C dX0_copyOf_116 (by decide) ?_
  refine jv_aload_n C dX0_copyOf_117 0 rfl ?_
  refine jv_getf (fk := 9) C (by decide) (jv_n (by decide) (jv_n (by decide) (jv_n (by decide) (jv_n (by decide) (va_up_self _ _ _))))) rfl in_X0_copyOf_0 (by decide) (by decide +kernel) rfl rfl dX0_copyOf_118 ?_
  refine jv_iconst (v := 0) C dX0_copyOf_121 (by decide) ?_
  refine jv_aload_n C dX0_copyOf_122 0 rfl ?_
  refine jv_getf (fk := 9) C (by decide) (jv_n (by decide) (jv_n (by decide) (jv_n (by decide) (jv_n (by decide) (va_up_self _ _ _))))) rfl in_X0_copyOf_0 (by decide) (by decide +kernel) rfl rfl dX0_copyOf_123 ?_
  refine jv_alen (v := 6) C (by decide) (jv_n (by decide) (jv_n (by decide) (jv_n (by decide) (jv_n (by decide) (jv_n (by decide) (jv_n (by decide) (jv_n (by decide) (jv_n (by decide) (jv_n (by decide) h6))))))))) .int (fun _ => rfl) (by decide) dX0_copyOf_126 ?_
  refine jv_copyI C (by decide) (by decide) (jv_n (by decide) (jv_n (by decide) (jv_n (by decide) (jv_n (by decide) (jv_n (by decide) (jv_n (by decide) (jv_n (by decide) (jv_n (by decide) (jv_n (by decide) h13))))))))) (jv_n (by decide) (jv_n (by decide) (jv_n (by decide) (jv_n (by decide) (jv_n (by decide) (jv_n (by decide) (jv_n (by decide) (jv_n (by decide) (jv_n (by decide) h6))))))))) (by decide +kernel) (by decide +kernel) (by decide +kernel) (by decide +kernel) (by decide) (by decide) (by decide) (by decide) (by decide) (by decide) (Nat.le_of_ble_eq_true rfl) dX0_copyOf_127 ?_
  refine jv_aload_n C dX0_copyOf_130 1 rfl ?_
  refine jv_getf (fk := 10) C (by decide) (jv_n (by decide) (jv_n (by decide) (jv_n (by decide) (jv_n (by decide) (jv_n (by decide) (jv_n (by decide) (jv_n (by decide) (jv_n (by decide) (jv_n (by decide) (jv_n (by decide) h8)))))))))) rfl in_X0_copyOf_0 (by decide) (by decide +kernel) rfl rfl dX0_copyOf_131 ?_
  refine jv_iconst (v := 0) C dX0_copyOf_134 (by decide) ?_
  refine jv_aload_n C dX0_copyOf_135 0 rfl ?_
  refine jv_getf (fk := 10) C (by decide) (jv_n (by decide) (jv_n (by decide) (jv_n (by decide) (jv_n (by decide) (jv_n (by decide) (va_up_self _ _ _)))))) rfl in_X0_copyOf_0 (by decide) (by decide +kernel) rfl rfl dX0_copyOf_136 ?_
  refine jv_iconst (v := 0) C dX0_copyOf_139 (by decide) ?_
  refine jv_aload_n C dX0_copyOf_140 0 rfl ?_
  refine jv_getf (fk := 10) C (by decide) (jv_n (by decide) (jv_n (by decide) (jv_n (by decide) (jv_n (by decide) (jv_n (by decide) (va_up_self _ _ _)))))) rfl in_X0_copyOf_0 (by decide) (by decide +kernel) rfl rfl dX0_copyOf_141 ?_
  refine jv_alen (v := 24) C (by decide) (jv_n (by decide) (jv_n (by decide) (jv_n (by decide) (jv_n (by decide) (jv_n (by decide) (jv_n (by decide) (jv_n (by decide) (jv_n (by decide) (jv_n (by decide) (jv_n (by decide) h7)))))))))) .int (fun _ => rfl) (by decide) dX0_copyOf_144 ?_
  refine jv_copyI C (by decide) (by decide) (jv_n (by decide) (jv_n (by decide) (jv_n (by decide) (jv_n (by decide) (jv_n (by decide) (jv_n (by decide) (jv_n (by decide) (jv_n (by decide) (jv_n (by decide) (jv_n (by decide) h14)))))))))) (jv_n (by decide) (jv_n (by decide) (jv_n (by decide) (jv_n (by decide) (jv_n (by decide) (jv_n (by decide) (jv_n (by decide) (jv_n (by decide) (jv_n (by decide) (jv_n (by decide) h7)))))))))) (by decide +kernel) (by decide +kernel) (by decide +kernel) (by decide +kernel) (by decide) (by decide) (by decide) (by decide) (by decide) (by decide) (Nat.le_of_ble_eq_true rfl) dX0_copyOf_145 ?_
  refine jv_aload_n C dX0_copyOf_148 0 rfl ?_
  refine jv_iconst (v := 0) C dX0_copyOf_149 (by decide) ?_
  refine jv_putf (fk := 11) (ty := .boolean) (fs2 := [.int 0, .int 0, .int 0, .int 0, .int 0, .ref 2, .ref 3, .ref 4, .ref 5, .ref 6, .ref 7, .int 0, .int 0, .int 0, .int 0, .int 0]) C (by decide) (jv_n (by decide) (jv_n (by decide) (jv_n (by decide) (jv_n (by decide) (jv_n (by decide) (jv_n (by decide) (va_up_self _ _ _))))))) rfl in_X0_copyOf_0 tyX0 tyX0_ok nmX0 (by decide) (by decide +kernel) rfl rfl rfl (fun _ => (by decide : narrow .boolean (.int 0) = .int 0)) (fun _ => (by decide : fits .boolean (.int 0) = true)) (Nat.le_of_ble_eq_true rfl) dX0_copyOf_150 rfl ?_
  exact jv_vret C B ⟨rfl, rfl, fun j g0 g1 g2 g3 g4 g5 g6 => ((va_up_ne _ _ g0).trans ((va_up_ne _ _ g6).trans ((va_up_ne _ _ g5).trans ((va_up_ne _ _ g4).trans ((va_up_ne _ _ g3).trans ((va_up_ne _ _ g2).trans ((va_up_ne _ _ g1).trans ((va_up_ne _ _ g0).trans ((va_up_ne _ _ g0).trans ((va_up_ne _ _ g0).trans ((va_up_ne _ _ g0).trans (va_up_ne _ _ g0)))))))))))), (va_up_self _ _ _), ⟨_, (jv_n (by decide) (jv_n (by decide) (jv_n (by decide) (jv_n (by decide) (jv_n (by decide) (jv_n (by decide) (va_up_self _ _ _)))))))⟩, ⟨_, (jv_n (by decide) (jv_n (by decide) (jv_n (by decide) (jv_n (by decide) (jv_n (by decide) (va_up_self _ _ _))))))⟩, ⟨_, (jv_n (by decide) (jv_n (by decide) (jv_n (by decide) (jv_n (by decide) (va_up_self _ _ _)))))⟩, ⟨_, (jv_n (by decide) (jv_n (by decide) (jv_n (by decide) (va_up_self _ _ _))))⟩, ⟨_, (jv_n (by decide) (jv_n (by decide) (va_up_self _ _ _)))⟩, ⟨_, (jv_n (by decide) (va_up_self _ _ _))⟩⟩ ⟨by decide, by decide⟩ dX0_copyOf_153
set_option maxRecDepth 100000 in
set_option maxHeartbeats 8000000 in
theorem c_X0_copyOf_37 (l : Launch) (D : va_G) (kp : Nat → ClassId) {n : Nat} {E : Nat → jv_E} (h37 : E 37 = cx37) (h38 : E 38 = cx38) (h39 : E 39 = cx39) (h40 : E 40 = cx40) (h41 : E 41 = cx41) (h42 : E 42 = cx42) (h43 : E 43 = cx43) (h1 : E 1 = cx1) (h2 : E 2 = cx2) (h3 : E 3 = cx3) (h4 : E 4 = cx4) (h5 : E 5 = cx5) (h6 : E 6 = cx6) (h7 : E 7 = cx7)  : jv_M l D vwCl kp yX0_copyOf wsX0_copyOf rm1 [] [.ref 37, .ref 1] n E 0 0 (fun r n1 E1 => none = r ∧ n = n1 ∧ (∀ j, j ≠ 37 → j ≠ 38 → j ≠ 39 → j ≠ 40 → j ≠ 41 → j ≠ 42 → j ≠ 43 → E1 j = E j) ∧ E1 37 = .inr (0, [.int 0, .int 0, .int 0, .int 0, .int 0, .ref 38, .ref 39, .ref 40, .ref 41, .ref 42, .ref 43, .int 0, .int 0, .int 0, .int 0, .int 0]) ∧ (∃ g, E1 38 = .inl (0, 48, .inl g)) ∧ (∃ g, E1 39 = .inl (0, 48, .inl g)) ∧ (∃ g, E1 40 = .inl (0, 6, .inl g)) ∧ (∃ g, E1 41 = .inl (0, 6, .inl g)) ∧ (∃ g, E1 42 = .inl (0, 6, .inl g)) ∧ (∃ g, E1 43 = .inl (0, 24, .inl g))) := by
  refine jv_of (by decide) rfl (Nat.le_of_ble_eq_true rfl) (fun G C B hI hnl => ?_)
  show jv_V l D vwCl kp G 0 0 n E 0 [(0, .ref 37), (1, .ref 1)] []
  refine jv_aload_n C dX0_copyOf_0 0 rfl ?_
  refine jv_aload_n C dX0_copyOf_1 1 rfl ?_
  refine jv_getf (fk := 0) C (by decide) h1 rfl in_X0_copyOf_0 (by decide) (by decide +kernel) rfl rfl dX0_copyOf_2 ?_
  refine jv_putf (fk := 0) (ty := .int) (fs2 := [.int 0, .int 0, .int 0, .int 0, .int 0, .ref 38, .ref 39, .ref 40, .ref 41, .ref 42, .ref 43, .int 0, .int 0, .int 0, .int 0, .int 0]) C (by decide) h37 rfl in_X0_copyOf_0 tyX0 tyX0_ok nmX0 (by decide) (by decide +kernel) rfl rfl rfl (fun _ => rfl) (fun _ => rfl) (Nat.le_of_ble_eq_true rfl) dX0_copyOf_5 rfl ?_
  refine jv_aload_n C dX0_copyOf_8 0 rfl ?_
  refine jv_aload_n C dX0_copyOf_9 1 rfl ?_
  refine jv_getf (fk := 1) C (by decide) (jv_n (by decide) h1) rfl in_X0_copyOf_0 (by decide) (by decide +kernel) rfl rfl dX0_copyOf_10 ?_
  refine jv_putf (fk := 1) (ty := .int) (fs2 := [.int 0, .int 0, .int 0, .int 0, .int 0, .ref 38, .ref 39, .ref 40, .ref 41, .ref 42, .ref 43, .int 0, .int 0, .int 0, .int 0, .int 0]) C (by decide) (va_up_self _ _ _) rfl in_X0_copyOf_0 tyX0 tyX0_ok nmX0 (by decide) (by decide +kernel) rfl rfl rfl (fun _ => rfl) (fun _ => rfl) (Nat.le_of_ble_eq_true rfl) dX0_copyOf_13 rfl ?_
  refine jv_aload_n C dX0_copyOf_16 0 rfl ?_
  refine jv_aload_n C dX0_copyOf_17 1 rfl ?_
  refine jv_getf (fk := 2) C (by decide) (jv_n (by decide) (jv_n (by decide) h1)) rfl in_X0_copyOf_0 (by decide) (by decide +kernel) rfl rfl dX0_copyOf_18 ?_
  refine jv_putf (fk := 2) (ty := .int) (fs2 := [.int 0, .int 0, .int 0, .int 0, .int 0, .ref 38, .ref 39, .ref 40, .ref 41, .ref 42, .ref 43, .int 0, .int 0, .int 0, .int 0, .int 0]) C (by decide) (va_up_self _ _ _) rfl in_X0_copyOf_0 tyX0 tyX0_ok nmX0 (by decide) (by decide +kernel) rfl rfl rfl (fun _ => rfl) (fun _ => rfl) (Nat.le_of_ble_eq_true rfl) dX0_copyOf_21 rfl ?_
  refine jv_aload_n C dX0_copyOf_24 0 rfl ?_
  refine jv_aload_n C dX0_copyOf_25 1 rfl ?_
  refine jv_getf (fk := 3) C (by decide) (jv_n (by decide) (jv_n (by decide) (jv_n (by decide) h1))) rfl in_X0_copyOf_0 (by decide) (by decide +kernel) rfl rfl dX0_copyOf_26 ?_
  refine jv_putf (fk := 3) (ty := .int) (fs2 := [.int 0, .int 0, .int 0, .int 0, .int 0, .ref 38, .ref 39, .ref 40, .ref 41, .ref 42, .ref 43, .int 0, .int 0, .int 0, .int 0, .int 0]) C (by decide) (va_up_self _ _ _) rfl in_X0_copyOf_0 tyX0 tyX0_ok nmX0 (by decide) (by decide +kernel) rfl rfl rfl (fun _ => rfl) (fun _ => rfl) (Nat.le_of_ble_eq_true rfl) dX0_copyOf_29 rfl ?_
  refine jv_aload_n C dX0_copyOf_32 0 rfl ?_
  refine jv_aload_n C dX0_copyOf_33 1 rfl ?_
  refine jv_getf (fk := 4) C (by decide) (jv_n (by decide) (jv_n (by decide) (jv_n (by decide) (jv_n (by decide) h1)))) rfl in_X0_copyOf_0 (by decide) (by decide +kernel) rfl rfl dX0_copyOf_34 ?_
  refine jv_putf (fk := 4) (ty := .int) (fs2 := [.int 0, .int 0, .int 0, .int 0, .int 0, .ref 38, .ref 39, .ref 40, .ref 41, .ref 42, .ref 43, .int 0, .int 0, .int 0, .int 0, .int 0]) C (by decide) (va_up_self _ _ _) rfl in_X0_copyOf_0 tyX0 tyX0_ok nmX0 (by decide) (by decide +kernel) rfl rfl rfl (fun _ => rfl) (fun _ => rfl) (Nat.le_of_ble_eq_true rfl) dX0_copyOf_37 rfl ?_
  refine jv_aload_n C dX0_copyOf_40 1 rfl ?_
  refine jv_getf (fk := 5) C (by decide) (jv_n (by decide) (jv_n (by decide) (jv_n (by decide) (jv_n (by decide) (jv_n (by decide) h1))))) rfl in_X0_copyOf_0 (by decide) (by decide +kernel) rfl rfl dX0_copyOf_41 ?_
  refine jv_iconst (v := 0) C dX0_copyOf_44 (by decide) ?_
  refine jv_aload_n C dX0_copyOf_45 0 rfl ?_
  refine jv_getf (fk := 5) C (by decide) (va_up_self _ _ _) rfl in_X0_copyOf_0 (by decide) (by decide +kernel) rfl rfl dX0_copyOf_46 ?_
  refine jv_iconst (v := 0) C dX0_copyOf_49 (by decide) ?_
  refine jv_aload_n C dX0_copyOf_50 0 rfl ?_
  refine jv_getf (fk := 5) C (by decide) (va_up_self _ _ _) rfl in_X0_copyOf_0 (by decide) (by decide +kernel) rfl rfl dX0_copyOf_51 ?_
  refine jv_alen (v := 48) C (by decide) (jv_n (by decide) (jv_n (by decide) (jv_n (by decide) (jv_n (by decide) (jv_n (by decide) h38))))) .int (fun _ => rfl) (by decide) dX0_copyOf_54 ?_
  refine jv_copyI C (by decide) (by decide) (jv_n (by decide) (jv_n (by decide) (jv_n (by decide) (jv_n (by decide) (jv_n (by decide) h2))))) (jv_n (by decide) (jv_n (by decide) (jv_n (by decide) (jv_n (by decide) (jv_n (by decide) h38))))) (by decide +kernel) (by decide +kernel) (by decide +kernel) (by decide +kernel) (by decide) (by decide) (by decide) (by decide) (by decide) (by decide) (Nat.le_of_ble_eq_true rfl) dX0_copyOf_55 ?_
  refine jv_aload_n C dX0_copyOf_58 1 rfl ?_
  refine jv_getf (fk := 6) C (by decide) (jv_n (by decide) (jv_n (by decide) (jv_n (by decide) (jv_n (by decide) (jv_n (by decide) (jv_n (by decide) h1)))))) rfl in_X0_copyOf_0 (by decide) (by decide +kernel) rfl rfl dX0_copyOf_59 ?_
  refine jv_iconst (v := 0) C dX0_copyOf_62 (by decide) ?_
  refine jv_aload_n C dX0_copyOf_63 0 rfl ?_
  refine jv_getf (fk := 6) C (by decide) (jv_n (by decide) (va_up_self _ _ _)) rfl in_X0_copyOf_0 (by decide) (by decide +kernel) rfl rfl dX0_copyOf_64 ?_
  refine jv_iconst (v := 0) C dX0_copyOf_67 (by decide) ?_
  refine jv_aload_n C dX0_copyOf_68 0 rfl ?_
  refine jv_getf (fk := 6) C (by decide) (jv_n (by decide) (va_up_self _ _ _)) rfl in_X0_copyOf_0 (by decide) (by decide +kernel) rfl rfl dX0_copyOf_69 ?_
  refine jv_alen (v := 48) C (by decide) (jv_n (by decide) (jv_n (by decide) (jv_n (by decide) (jv_n (by decide) (jv_n (by decide) (jv_n (by decide) h39)))))) .int (fun _ => rfl) (by decide) dX0_copyOf_72 ?_
  refine jv_copyI C (by decide) (by decide) (jv_n (by decide) (jv_n (by decide) (jv_n (by decide) (jv_n (by decide) (jv_n (by decide) (jv_n (by decide) h3)))))) (jv_n (by decide) (jv_n (by decide) (jv_n (by decide) (jv_n (by decide) (jv_n (by decide) (jv_n (by decide) h39)))))) (by decide +kernel) (by decide +kernel) (by decide +kernel) (by decide +kernel) (by decide) (by decide) (by decide) (by decide) (by decide) (by decide) (Nat.le_of_ble_eq_true rfl) dX0_copyOf_73 ?_
  refine jv_aload_n C dX0_copyOf_76 1 rfl ?_
  refine jv_getf (fk := 7) C (by decide) (jv_n (by decide) (jv_n (by decide) (jv_n (by decide) (jv_n (by decide) (jv_n (by decide) (jv_n (by decide) (jv_n (by decide) h1))))))) rfl in_X0_copyOf_0 (by decide) (by decide +kernel) rfl rfl dX0_copyOf_77 ?_
  refine jv_iconst (v := 0) C dX0_copyOf_80 (by decide) ?_
  refine jv_aload_n C dX0_copyOf_81 0 rfl ?_
  refine jv_getf (fk := 7) C (by decide) (jv_n (by decide) (jv_n (by decide) (va_up_self _ _ _))) rfl in_X0_copyOf_0 (by decide) (by decide +kernel) rfl rfl dX0_copyOf_82 ?_
  refine jv_iconst (v := 0) C dX0_copyOf_85 (by decide) ?_
  refine jv_aload_n C dX0_copyOf_86 0 rfl ?_
  refine jv_getf (fk := 7) C (by decide) (jv_n (by decide) (jv_n (by decide) (va_up_self _ _ _))) rfl in_X0_copyOf_0 (by decide) (by decide +kernel) rfl rfl dX0_copyOf_87 ?_
  refine jv_alen (v := 6) C (by decide) (jv_n (by decide) (jv_n (by decide) (jv_n (by decide) (jv_n (by decide) (jv_n (by decide) (jv_n (by decide) (jv_n (by decide) h40))))))) .int (fun _ => rfl) (by decide) dX0_copyOf_90 ?_
  refine jv_copyI C (by decide) (by decide) (jv_n (by decide) (jv_n (by decide) (jv_n (by decide) (jv_n (by decide) (jv_n (by decide) (jv_n (by decide) (jv_n (by decide) h4))))))) (jv_n (by decide) (jv_n (by decide) (jv_n (by decide) (jv_n (by decide) (jv_n (by decide) (jv_n (by decide) (jv_n (by decide) h40))))))) (by decide +kernel) (by decide +kernel) (by decide +kernel) (by decide +kernel) (by decide) (by decide) (by decide) (by decide) (by decide) (by decide) (Nat.le_of_ble_eq_true rfl) dX0_copyOf_91 ?_
  refine jv_aload_n C dX0_copyOf_94 1 rfl ?_
  refine jv_getf (fk := 8) C (by decide) (jv_n (by decide) (jv_n (by decide) (jv_n (by decide) (jv_n (by decide) (jv_n (by decide) (jv_n (by decide) (jv_n (by decide) (jv_n (by decide) h1)))))))) rfl in_X0_copyOf_0 (by decide) (by decide +kernel) rfl rfl dX0_copyOf_95 ?_
  refine jv_iconst (v := 0) C dX0_copyOf_98 (by decide) ?_
  refine jv_aload_n C dX0_copyOf_99 0 rfl ?_
  refine jv_getf (fk := 8) C (by decide) (jv_n (by decide) (jv_n (by decide) (jv_n (by decide) (va_up_self _ _ _)))) rfl in_X0_copyOf_0 (by decide) (by decide +kernel) rfl rfl dX0_copyOf_100 ?_
  refine jv_iconst (v := 0) C dX0_copyOf_103 (by decide) ?_
  refine jv_aload_n C dX0_copyOf_104 0 rfl ?_
  refine jv_getf (fk := 8) C (by decide) (jv_n (by decide) (jv_n (by decide) (jv_n (by decide) (va_up_self _ _ _)))) rfl in_X0_copyOf_0 (by decide) (by decide +kernel) rfl rfl dX0_copyOf_105 ?_
  refine jv_alen (v := 6) C (by decide) (jv_n (by decide) (jv_n (by decide) (jv_n (by decide) (jv_n (by decide) (jv_n (by decide) (jv_n (by decide) (jv_n (by decide) (jv_n (by decide) h41)))))))) .int (fun _ => rfl) (by decide) dX0_copyOf_108 ?_
  refine jv_copyI C (by decide) (by decide) (jv_n (by decide) (jv_n (by decide) (jv_n (by decide) (jv_n (by decide) (jv_n (by decide) (jv_n (by decide) (jv_n (by decide) (jv_n (by decide) h5)))))))) (jv_n (by decide) (jv_n (by decide) (jv_n (by decide) (jv_n (by decide) (jv_n (by decide) (jv_n (by decide) (jv_n (by decide) (jv_n (by decide) h41)))))))) (by decide +kernel) (by decide +kernel) (by decide +kernel) (by decide +kernel) (by decide) (by decide) (by decide) (by decide) (by decide) (by decide) (Nat.le_of_ble_eq_true rfl) dX0_copyOf_109 ?_
  refine jv_aload_n C dX0_copyOf_112 1 rfl ?_
  refine jv_getf (fk := 9) C (by decide) (jv_n (by decide) (jv_n (by decide) (jv_n (by decide) (jv_n (by decide) (jv_n (by decide) (jv_n (by decide) (jv_n (by decide) (jv_n (by decide) (jv_n (by decide) h1))))))))) rfl in_X0_copyOf_0 (by decide) (by decide +kernel) rfl rfl dX0_copyOf_113 ?_
  refine jv_iconst (v := 0) C dX0_copyOf_116 (by decide) ?_
  refine jv_aload_n C dX0_copyOf_117 0 rfl ?_
  refine jv_getf (fk := 9) C (by decide) (jv_n (by decide) (jv_n (by decide) (jv_n (by decide) (jv_n (by decide) (va_up_self _ _ _))))) rfl in_X0_copyOf_0 (by decide) (by decide +kernel) rfl rfl dX0_copyOf_118 ?_
  refine jv_iconst (v := 0) C dX0_copyOf_121 (by decide) ?_
  refine jv_aload_n C dX0_copyOf_122 0 rfl ?_
  refine jv_getf (fk := 9) C (by decide) (jv_n (by decide) (jv_n (by decide) (jv_n (by decide) (jv_n (by decide) (va_up_self _ _ _))))) rfl in_X0_copyOf_0 (by decide) (by decide +kernel) rfl rfl dX0_copyOf_123 ?_
  refine jv_alen (v := 6) C (by decide) (jv_n (by decide) (jv_n (by decide) (jv_n (by decide) (jv_n (by decide) (jv_n (by decide) (jv_n (by decide) (jv_n (by decide) (jv_n (by decide) (jv_n (by decide) h42))))))))) .int (fun _ => rfl) (by decide) dX0_copyOf_126 ?_
  refine jv_copyI C (by decide) (by decide) (jv_n (by decide) (jv_n (by decide) (jv_n (by decide) (jv_n (by decide) (jv_n (by decide) (jv_n (by decide) (jv_n (by decide) (jv_n (by decide) (jv_n (by decide) h6))))))))) (jv_n (by decide) (jv_n (by decide) (jv_n (by decide) (jv_n (by decide) (jv_n (by decide) (jv_n (by decide) (jv_n (by decide) (jv_n (by decide) (jv_n (by decide) h42))))))))) (by decide +kernel) (by decide +kernel) (by decide +kernel) (by decide +kernel) (by decide) (by decide) (by decide) (by decide) (by decide) (by decide) (Nat.le_of_ble_eq_true rfl) dX0_copyOf_127 ?_
  refine jv_aload_n C dX0_copyOf_130 1 rfl ?_
  refine jv_getf (fk := 10) C (by decide) (jv_n (by decide) (jv_n (by decide) (jv_n (by decide) (jv_n (by decide) (jv_n (by decide) (jv_n (by decide) (jv_n (by decide) (jv_n (by decide) (jv_n (by decide) (jv_n (by decide) h1)))))))))) rfl in_X0_copyOf_0 (by decide) (by decide +kernel) rfl rfl dX0_copyOf_131 ?_
  refine jv_iconst (v := 0) C dX0_copyOf_134 (by decide) ?_
  refine jv_aload_n C dX0_copyOf_135 0 rfl ?_
  refine jv_getf (fk := 10) C (by decide) (jv_n (by decide) (jv_n (by decide) (jv_n (by decide) (jv_n (by decide) (jv_n (by decide) (va_up_self _ _ _)))))) rfl in_X0_copyOf_0 (by decide) (by decide +kernel) rfl rfl dX0_copyOf_136 ?_
  refine jv_iconst (v := 0) C dX0_copyOf_139 (by decide) ?_
  refine jv_aload_n C dX0_copyOf_140 0 rfl ?_
  refine jv_getf (fk := 10) C (by decide) (jv_n (by decide) (jv_n (by decide) (jv_n (by decide) (jv_n (by decide) (jv_n (by decide) (va_up_self _ _ _)))))) rfl in_X0_copyOf_0 (by decide) (by decide +kernel) rfl rfl dX0_copyOf_141 ?_
  refine jv_alen (v := 24) C (by decide) (jv_n (by decide) (jv_n (by decide) (jv_n (by decide) (jv_n (by decide) (jv_n (by decide) (jv_n (by decide) (jv_n (by decide) (jv_n (by decide) (jv_n (by decide) (jv_n (by decide) h43)))))))))) .int (fun _ => rfl) (by decide) dX0_copyOf_144 ?_
  refine jv_copyI C (by decide) (by decide) (jv_n (by decide) (jv_n (by decide) (jv_n (by decide) (jv_n (by decide) (jv_n (by decide) (jv_n (by decide) (jv_n (by decide) (jv_n (by decide) (jv_n (by decide) (jv_n (by decide) h7)))))))))) (jv_n (by decide) (jv_n (by decide) (jv_n (by decide) (jv_n (by decide) (jv_n (by decide) (jv_n (by decide) (jv_n (by decide) (jv_n (by decide) (jv_n (by decide) (jv_n (by decide) h43)))))))))) (by decide +kernel) (by decide +kernel) (by decide +kernel) (by decide +kernel) (by decide) (by decide) (by decide) (by decide) (by decide) (by decide) (Nat.le_of_ble_eq_true rfl) dX0_copyOf_145 ?_
  refine jv_aload_n C dX0_copyOf_148 0 rfl ?_
  refine jv_iconst (v := 0) C dX0_copyOf_149 (by decide) ?_
  refine jv_putf (fk := 11) (ty := .boolean) (fs2 := [.int 0, .int 0, .int 0, .int 0, .int 0, .ref 38, .ref 39, .ref 40, .ref 41, .ref 42, .ref 43, .int 0, .int 0, .int 0, .int 0, .int 0]) C (by decide) (jv_n (by decide) (jv_n (by decide) (jv_n (by decide) (jv_n (by decide) (jv_n (by decide) (jv_n (by decide) (va_up_self _ _ _))))))) rfl in_X0_copyOf_0 tyX0 tyX0_ok nmX0 (by decide) (by decide +kernel) rfl rfl rfl (fun _ => (by decide : narrow .boolean (.int 0) = .int 0)) (fun _ => (by decide : fits .boolean (.int 0) = true)) (Nat.le_of_ble_eq_true rfl) dX0_copyOf_150 rfl ?_
  exact jv_vret C B ⟨rfl, rfl, fun j g0 g1 g2 g3 g4 g5 g6 => ((va_up_ne _ _ g0).trans ((va_up_ne _ _ g6).trans ((va_up_ne _ _ g5).trans ((va_up_ne _ _ g4).trans ((va_up_ne _ _ g3).trans ((va_up_ne _ _ g2).trans ((va_up_ne _ _ g1).trans ((va_up_ne _ _ g0).trans ((va_up_ne _ _ g0).trans ((va_up_ne _ _ g0).trans ((va_up_ne _ _ g0).trans (va_up_ne _ _ g0)))))))))))), (va_up_self _ _ _), ⟨_, (jv_n (by decide) (jv_n (by decide) (jv_n (by decide) (jv_n (by decide) (jv_n (by decide) (jv_n (by decide) (va_up_self _ _ _)))))))⟩, ⟨_, (jv_n (by decide) (jv_n (by decide) (jv_n (by decide) (jv_n (by decide) (jv_n (by decide) (va_up_self _ _ _))))))⟩, ⟨_, (jv_n (by decide) (jv_n (by decide) (jv_n (by decide) (jv_n (by decide) (va_up_self _ _ _)))))⟩, ⟨_, (jv_n (by decide) (jv_n (by decide) (jv_n (by decide) (va_up_self _ _ _))))⟩, ⟨_, (jv_n (by decide) (jv_n (by decide) (va_up_self _ _ _)))⟩, ⟨_, (jv_n (by decide) (va_up_self _ _ _))⟩⟩ ⟨by decide, by decide⟩ dX0_copyOf_153
set_option maxRecDepth 100000 in
set_option maxHeartbeats 8000000 in
theorem c_X0_copyOf_44 (l : Launch) (D : va_G) (kp : Nat → ClassId) {n : Nat} {E : Nat → jv_E} (h44 : E 44 = cx44) (h45 : E 45 = cx45) (h46 : E 46 = cx46) (h47 : E 47 = cx47) (h48 : E 48 = cx48) (h49 : E 49 = cx49) (h50 : E 50 = cx50) (h1 : E 1 = cx1) (h2 : E 2 = cx2) (h3 : E 3 = cx3) (h4 : E 4 = cx4) (h5 : E 5 = cx5) (h6 : E 6 = cx6) (h7 : E 7 = cx7)  : jv_M l D vwCl kp yX0_copyOf wsX0_copyOf rm1 [] [.ref 44, .ref 1] n E 0 0 (fun r n1 E1 => none = r ∧ n = n1 ∧ (∀ j, j ≠ 44 → j ≠ 45 → j ≠ 46 → j ≠ 47 → j ≠ 48 → j ≠ 49 → j ≠ 50 → E1 j = E j) ∧ E1 44 = .inr (0, [.int 0, .int 0, .int 0, .int 0, .int 0, .ref 45, .ref 46, .ref 47, .ref 48, .ref 49, .ref 50, .int 0, .int 0, .int 0, .int 0, .int 0]) ∧ (∃ g, E1 45 = .inl (0, 48, .inl g)) ∧ (∃ g, E1 46 = .inl (0, 48, .inl g)) ∧ (∃ g, E1 47 = .inl (0, 6, .inl g)) ∧ (∃ g, E1 48 = .inl (0, 6, .inl g)) ∧ (∃ g, E1 49 = .inl (0, 6, .inl g)) ∧ (∃ g, E1 50 = .inl (0, 24, .inl g))) := by
  refine jv_of (by decide) rfl (Nat.le_of_ble_eq_true rfl) (fun G C B hI hnl => ?_)
  show jv_V l D vwCl kp G 0 0 n E 0 [(0, .ref 44), (1, .ref 1)] []
  refine jv_aload_n C dX0_copyOf_0 0 rfl ?_
  refine jv_aload_n C dX0_copyOf_1 1 rfl ?_
  refine jv_getf (fk := 0) C (by decide) h1 rfl in_X0_copyOf_0 (by decide) (by decide +kernel) rfl rfl dX0_copyOf_2 ?_
  refine jv_putf (fk := 0) (ty := .int) (fs2 := [.int 0, .int 0, .int 0, .int 0, .int 0, .ref 45, .ref 46, .ref 47, .ref 48, .ref 49, .ref 50, .int 0, .int 0, .int 0, .int 0, .int 0]) C (by decide) h44 rfl in_X0_copyOf_0 tyX0 tyX0_ok nmX0 (by decide) (by decide +kernel) rfl rfl rfl (fun _ => rfl) (fun _ => rfl) (Nat.le_of_ble_eq_true rfl) dX0_copyOf_5 rfl ?_
  refine jv_aload_n C dX0_copyOf_8 0 rfl ?_
  refine jv_aload_n C dX0_copyOf_9 1 rfl ?_
  refine jv_getf (fk := 1) C (by decide) (jv_n (by decide) h1) rfl in_X0_copyOf_0 (by decide) (by decide +kernel) rfl rfl dX0_copyOf_10 ?_
  refine jv_putf (fk := 1) (ty := .int) (fs2 := [.int 0, .int 0, .int 0, .int 0, .int 0, .ref 45, .ref 46, .ref 47, .ref 48, .ref 49, .ref 50, .int 0, .int 0, .int 0, .int 0, .int 0]) C (by decide) (va_up_self _ _ _) rfl in_X0_copyOf_0 tyX0 tyX0_ok nmX0 (by decide) (by decide +kernel) rfl rfl rfl (fun _ => rfl) (fun _ => rfl) (Nat.le_of_ble_eq_true rfl) dX0_copyOf_13 rfl ?_
  refine jv_aload_n C dX0_copyOf_16 0 rfl ?_
  refine jv_aload_n C dX0_copyOf_17 1 rfl ?_
  refine jv_getf (fk := 2) C (by decide) (jv_n (by decide) (jv_n (by decide) h1)) rfl in_X0_copyOf_0 (by decide) (by decide +kernel) rfl rfl dX0_copyOf_18 ?_
  refine jv_putf (fk := 2) (ty := .int) (fs2 := [.int 0, .int 0, .int 0, .int 0, .int 0, .ref 45, .ref 46, .ref 47, .ref 48, .ref 49, .ref 50, .int 0, .int 0, .int 0, .int 0, .int 0]) C (by decide) (va_up_self _ _ _) rfl in_X0_copyOf_0 tyX0 tyX0_ok nmX0 (by decide) (by decide +kernel) rfl rfl rfl (fun _ => rfl) (fun _ => rfl) (Nat.le_of_ble_eq_true rfl) dX0_copyOf_21 rfl ?_
  refine jv_aload_n C dX0_copyOf_24 0 rfl ?_
  refine jv_aload_n C dX0_copyOf_25 1 rfl ?_
  refine jv_getf (fk := 3) C (by decide) (jv_n (by decide) (jv_n (by decide) (jv_n (by decide) h1))) rfl in_X0_copyOf_0 (by decide) (by decide +kernel) rfl rfl dX0_copyOf_26 ?_
  refine jv_putf (fk := 3) (ty := .int) (fs2 := [.int 0, .int 0, .int 0, .int 0, .int 0, .ref 45, .ref 46, .ref 47, .ref 48, .ref 49, .ref 50, .int 0, .int 0, .int 0, .int 0, .int 0]) C (by decide) (va_up_self _ _ _) rfl in_X0_copyOf_0 tyX0 tyX0_ok nmX0 (by decide) (by decide +kernel) rfl rfl rfl (fun _ => rfl) (fun _ => rfl) (Nat.le_of_ble_eq_true rfl) dX0_copyOf_29 rfl ?_
  refine jv_aload_n C dX0_copyOf_32 0 rfl ?_
  refine jv_aload_n C dX0_copyOf_33 1 rfl ?_
  refine jv_getf (fk := 4) C (by decide) (jv_n (by decide) (jv_n (by decide) (jv_n (by decide) (jv_n (by decide) h1)))) rfl in_X0_copyOf_0 (by decide) (by decide +kernel) rfl rfl dX0_copyOf_34 ?_
  refine jv_putf (fk := 4) (ty := .int) (fs2 := [.int 0, .int 0, .int 0, .int 0, .int 0, .ref 45, .ref 46, .ref 47, .ref 48, .ref 49, .ref 50, .int 0, .int 0, .int 0, .int 0, .int 0]) C (by decide) (va_up_self _ _ _) rfl in_X0_copyOf_0 tyX0 tyX0_ok nmX0 (by decide) (by decide +kernel) rfl rfl rfl (fun _ => rfl) (fun _ => rfl) (Nat.le_of_ble_eq_true rfl) dX0_copyOf_37 rfl ?_
  refine jv_aload_n C dX0_copyOf_40 1 rfl ?_
  refine jv_getf (fk := 5) C (by decide) (jv_n (by decide) (jv_n (by decide) (jv_n (by decide) (jv_n (by decide) (jv_n (by decide) h1))))) rfl in_X0_copyOf_0 (by decide) (by decide +kernel) rfl rfl dX0_copyOf_41 ?_
  refine jv_iconst (v := 0) C dX0_copyOf_44 (by decide) ?_
  refine jv_aload_n C dX0_copyOf_45 0 rfl ?_
  refine jv_getf (fk := 5) C (by decide) (va_up_self _ _ _) rfl in_X0_copyOf_0 (by decide) (by decide +kernel) rfl rfl dX0_copyOf_46 ?_
  refine jv_iconst (v := 0) C dX0_copyOf_49 (by decide) ?_
  refine jv_aload_n C dX0_copyOf_50 0 rfl ?_
  refine jv_getf (fk := 5) C (by decide) (va_up_self _ _ _) rfl in_X0_copyOf_0 (by decide) (by decide +kernel) rfl rfl dX0_copyOf_51 ?_
  refine jv_alen (v := 48) C (by decide) (jv_n (by decide) (jv_n (by decide) (jv_n (by decide) (jv_n (by decide) (jv_n (by decide) h45))))) .int (fun _ => rfl) (by decide) dX0_copyOf_54 ?_
  refine jv_copyI C (by decide) (by decide) (jv_n (by decide) (jv_n (by decide) (jv_n (by decide) (jv_n (by decide) (jv_n (by decide) h2))))) (jv_n (by decide) (jv_n (by decide) (jv_n (by decide) (jv_n (by decide) (jv_n (by decide) h45))))) (by decide +kernel) (by decide +kernel) (by decide +kernel) (by decide +kernel) (by decide) (by decide) (by decide) (by decide) (by decide) (by decide) (Nat.le_of_ble_eq_true rfl) dX0_copyOf_55 ?_
  refine jv_aload_n C dX0_copyOf_58 1 rfl ?_
  refine jv_getf (fk := 6) C (by decide) (jv_n (by decide) (jv_n (by decide) (jv_n (by decide) (jv_n (by decide) (jv_n (by decide) (jv_n (by decide) h1)))))) rfl in_X0_copyOf_0 (by decide) (by decide +kernel) rfl rfl dX0_copyOf_59 ?_
  refine jv_iconst (v := 0) C dX0_copyOf_62 (by decide) ?_
  refine jv_aload_n C dX0_copyOf_63 0 rfl ?_
  refine jv_getf (fk := 6) C (by decide) (jv_n (by decide) (va_up_self _ _ _)) rfl in_X0_copyOf_0 (by decide) (by decide +kernel) rfl rfl dX0_copyOf_64 ?_
  refine jv_iconst (v := 0) C dX0_copyOf_67 (by decide) ?_
  refine jv_aload_n C dX0_copyOf_68 0 rfl ?_
  refine jv_getf (fk := 6) C (by decide) (jv_n (by decide) (va_up_self _ _ _)) rfl in_X0_copyOf_0 (by decide) (by decide +kernel) rfl rfl dX0_copyOf_69 ?_
  refine jv_alen (v := 48) C (by decide) (jv_n (by decide) (jv_n (by decide) (jv_n (by decide) (jv_n (by decide) (jv_n (by decide) (jv_n (by decide) h46)))))) .int (fun _ => rfl) (by decide) dX0_copyOf_72 ?_
  refine jv_copyI C (by decide) (by decide) (jv_n (by decide) (jv_n (by decide) (jv_n (by decide) (jv_n (by decide) (jv_n (by decide) (jv_n (by decide) h3)))))) (jv_n (by decide) (jv_n (by decide) (jv_n (by decide) (jv_n (by decide) (jv_n (by decide) (jv_n (by decide) h46)))))) (by decide +kernel) (by decide +kernel) (by decide +kernel) (by decide +kernel) (by decide) (by decide) (by decide) (by decide) (by decide) (by decide) (Nat.le_of_ble_eq_true rfl) dX0_copyOf_73 ?_
  refine jv_aload_n C dX0_copyOf_76 1 rfl ?_
  refine jv_getf (fk := 7) C (by decide) (jv_n (by decide) (jv_n (by decide) (jv_n (by decide) (jv_n (by decide) (jv_n (by decide) (jv_n (by decide) (jv_n (by decide) h1))))))) rfl in_X0_copyOf_0 (by decide) (by decide +kernel) rfl rfl dX0_copyOf_77 ?_
  refine jv_iconst (v := 0) C dX0_copyOf_80 (by decide) ?_
  refine jv_aload_n C dX0_copyOf_81 0 rfl ?_
  refine jv_getf (fk := 7) C (by decide) (jv_n (by decide) (jv_n (by decide) (va_up_self _ _ _))) rfl in_X0_copyOf_0 (by decide) (by decide +kernel) rfl rfl dX0_copyOf_82 ?_
  refine jv_iconst (v := 0) C dX0_copyOf_85 (by decide) ?_
  refine jv_aload_n C dX0_copyOf_86 0 rfl ?_
  refine jv_getf (fk := 7) C (by decide) (jv_n (by decide) (jv_n (by decide) (va_up_self _ _ _))) rfl in_X0_copyOf_0 (by decide) (by decide +kernel) rfl rfl dX0_copyOf_87 ?_
  refine jv_alen (v := 6) C (by decide) (jv_n (by decide) (jv_n (by decide) (jv_n (by decide) (jv_n (by decide) (jv_n (by decide) (jv_n (by decide) (jv_n (by decide) h47))))))) .int (fun _ => rfl) (by decide) dX0_copyOf_90 ?_
  refine jv_copyI C (by decide) (by decide) (jv_n (by decide) (jv_n (by decide) (jv_n (by decide) (jv_n (by decide) (jv_n (by decide) (jv_n (by decide) (jv_n (by decide) h4))))))) (jv_n (by decide) (jv_n (by decide) (jv_n (by decide) (jv_n (by decide) (jv_n (by decide) (jv_n (by decide) (jv_n (by decide) h47))))))) (by decide +kernel) (by decide +kernel) (by decide +kernel) (by decide +kernel) (by decide) (by decide) (by decide) (by decide) (by decide) (by decide) (Nat.le_of_ble_eq_true rfl) dX0_copyOf_91 ?_
  refine jv_aload_n C dX0_copyOf_94 1 rfl ?_
  refine jv_getf (fk := 8) C (by decide) (jv_n (by decide) (jv_n (by decide) (jv_n (by decide) (jv_n (by decide) (jv_n (by decide) (jv_n (by decide) (jv_n (by decide) (jv_n (by decide) h1)))))))) rfl in_X0_copyOf_0 (by decide) (by decide +kernel) rfl rfl dX0_copyOf_95 ?_
  refine jv_iconst (v := 0) C dX0_copyOf_98 (by decide) ?_
  refine jv_aload_n C dX0_copyOf_99 0 rfl ?_
  refine jv_getf (fk := 8) C (by decide) (jv_n (by decide) (jv_n (by decide) (jv_n (by decide) (va_up_self _ _ _)))) rfl in_X0_copyOf_0 (by decide) (by decide +kernel) rfl rfl dX0_copyOf_100 ?_
  refine jv_iconst (v := 0) C dX0_copyOf_103 (by decide) ?_
  refine jv_aload_n C dX0_copyOf_104 0 rfl ?_
  refine jv_getf (fk := 8) C (by decide) (jv_n (by decide) (jv_n (by decide) (jv_n (by decide) (va_up_self _ _ _)))) rfl in_X0_copyOf_0 (by decide) (by decide +kernel) rfl rfl dX0_copyOf_105 ?_
  refine jv_alen (v := 6) C (by decide) (jv_n (by decide) (jv_n (by decide) (jv_n (by decide) (jv_n (by decide) (jv_n (by decide) (jv_n (by decide) (jv_n (by decide) (jv_n (by decide) h48)))))))) .int (fun _ => rfl) (by decide) dX0_copyOf_108 ?_
  refine jv_copyI C (by decide) (by decide) (jv_n (by decide) (jv_n (by decide) (jv_n (by decide) (jv_n (by decide) (jv_n (by decide) (jv_n (by decide) (jv_n (by decide) (jv_n (by decide) h5)))))))) (jv_n (by decide) (jv_n (by decide) (jv_n (by decide) (jv_n (by decide) (jv_n (by decide) (jv_n (by decide) (jv_n (by decide) (jv_n (by decide) h48)))))))) (by decide +kernel) (by decide +kernel) (by decide +kernel) (by decide +kernel) (by decide) (by decide) (by decide) (by decide) (by decide) (by decide) (Nat.le_of_ble_eq_true rfl) dX0_copyOf_109 ?_
  refine jv_aload_n C dX0_copyOf_112 1 rfl ?_
  refine jv_getf (fk := 9) C (by decide) (jv_n (by decide) (jv_n (by decide) (jv_n (by decide) (jv_n (by decide) (jv_n (by decide) (jv_n (by decide) (jv_n (by decide) (jv_n (by decide) (jv_n (by decide) h1))))))))) rfl in_X0_copyOf_0 (by decide) (by decide +kernel) rfl rfl dX0_copyOf_113 ?_
  refine jv_iconst (v := 0) C dX0_copyOf_116 (by decide) ?_
  refine jv_aload_n C dX0_copyOf_117 0 rfl ?_
  refine jv_getf (fk := 9) C (by decide) (jv_n (by decide) (jv_n (by decide) (jv_n (by decide) (jv_n (by decide) (va_up_self _ _ _))))) rfl in_X0_copyOf_0 (by decide) (by decide +kernel) rfl rfl dX0_copyOf_118 ?_
  refine jv_iconst (v := 0) C dX0_copyOf_121 (by decide) ?_
  refine jv_aload_n C dX0_copyOf_122 0 rfl ?_
  refine jv_getf (fk := 9) C (by decide) (jv_n (by decide) (jv_n (by decide) (jv_n (by decide) (jv_n (by decide) (va_up_self _ _ _))))) rfl in_X0_copyOf_0 (by decide) (by decide +kernel) rfl rfl dX0_copyOf_123 ?_
  refine jv_alen (v := 6) C (by decide) (jv_n (by decide) (jv_n (by decide) (jv_n (by decide) (jv_n (by decide) (jv_n (by decide) (jv_n (by decide) (jv_n (by decide) (jv_n (by decide) (jv_n (by decide) h49))))))))) .int (fun _ => rfl) (by decide) dX0_copyOf_126 ?_
  refine jv_copyI C (by decide) (by decide) (jv_n (by decide) (jv_n (by decide) (jv_n (by decide) (jv_n (by decide) (jv_n (by decide) (jv_n (by decide) (jv_n (by decide) (jv_n (by decide) (jv_n (by decide) h6))))))))) (jv_n (by decide) (jv_n (by decide) (jv_n (by decide) (jv_n (by decide) (jv_n (by decide) (jv_n (by decide) (jv_n (by decide) (jv_n (by decide) (jv_n (by decide) h49))))))))) (by decide +kernel) (by decide +kernel) (by decide +kernel) (by decide +kernel) (by decide) (by decide) (by decide) (by decide) (by decide) (by decide) (Nat.le_of_ble_eq_true rfl) dX0_copyOf_127 ?_
  refine jv_aload_n C dX0_copyOf_130 1 rfl ?_
  refine jv_getf (fk := 10) C (by decide) (jv_n (by decide) (jv_n (by decide) (jv_n (by decide) (jv_n (by decide) (jv_n (by decide) (jv_n (by decide) (jv_n (by decide) (jv_n (by decide) (jv_n (by decide) (jv_n (by decide) h1)))))))))) rfl in_X0_copyOf_0 (by decide) (by decide +kernel) rfl rfl dX0_copyOf_131 ?_
  refine jv_iconst (v := 0) C dX0_copyOf_134 (by decide) ?_
  refine jv_aload_n C dX0_copyOf_135 0 rfl ?_
  refine jv_getf (fk := 10) C (by decide) (jv_n (by decide) (jv_n (by decide) (jv_n (by decide) (jv_n (by decide) (jv_n (by decide) (va_up_self _ _ _)))))) rfl in_X0_copyOf_0 (by decide) (by decide +kernel) rfl rfl dX0_copyOf_136 ?_
  refine jv_iconst (v := 0) C dX0_copyOf_139 (by decide) ?_
  refine jv_aload_n C dX0_copyOf_140 0 rfl ?_
  refine jv_getf (fk := 10) C (by decide) (jv_n (by decide) (jv_n (by decide) (jv_n (by decide) (jv_n (by decide) (jv_n (by decide) (va_up_self _ _ _)))))) rfl in_X0_copyOf_0 (by decide) (by decide +kernel) rfl rfl dX0_copyOf_141 ?_
  refine jv_alen (v := 24) C (by decide) (jv_n (by decide) (jv_n (by decide) (jv_n (by decide) (jv_n (by decide) (jv_n (by decide) (jv_n (by decide) (jv_n (by decide) (jv_n (by decide) (jv_n (by decide) (jv_n (by decide) h50)))))))))) .int (fun _ => rfl) (by decide) dX0_copyOf_144 ?_
  refine jv_copyI C (by decide) (by decide) (jv_n (by decide) (jv_n (by decide) (jv_n (by decide) (jv_n (by decide) (jv_n (by decide) (jv_n (by decide) (jv_n (by decide) (jv_n (by decide) (jv_n (by decide) (jv_n (by decide) h7)))))))))) (jv_n (by decide) (jv_n (by decide) (jv_n (by decide) (jv_n (by decide) (jv_n (by decide) (jv_n (by decide) (jv_n (by decide) (jv_n (by decide) (jv_n (by decide) (jv_n (by decide) h50)))))))))) (by decide +kernel) (by decide +kernel) (by decide +kernel) (by decide +kernel) (by decide) (by decide) (by decide) (by decide) (by decide) (by decide) (Nat.le_of_ble_eq_true rfl) dX0_copyOf_145 ?_
  refine jv_aload_n C dX0_copyOf_148 0 rfl ?_
  refine jv_iconst (v := 0) C dX0_copyOf_149 (by decide) ?_
  refine jv_putf (fk := 11) (ty := .boolean) (fs2 := [.int 0, .int 0, .int 0, .int 0, .int 0, .ref 45, .ref 46, .ref 47, .ref 48, .ref 49, .ref 50, .int 0, .int 0, .int 0, .int 0, .int 0]) C (by decide) (jv_n (by decide) (jv_n (by decide) (jv_n (by decide) (jv_n (by decide) (jv_n (by decide) (jv_n (by decide) (va_up_self _ _ _))))))) rfl in_X0_copyOf_0 tyX0 tyX0_ok nmX0 (by decide) (by decide +kernel) rfl rfl rfl (fun _ => (by decide : narrow .boolean (.int 0) = .int 0)) (fun _ => (by decide : fits .boolean (.int 0) = true)) (Nat.le_of_ble_eq_true rfl) dX0_copyOf_150 rfl ?_
  exact jv_vret C B ⟨rfl, rfl, fun j g0 g1 g2 g3 g4 g5 g6 => ((va_up_ne _ _ g0).trans ((va_up_ne _ _ g6).trans ((va_up_ne _ _ g5).trans ((va_up_ne _ _ g4).trans ((va_up_ne _ _ g3).trans ((va_up_ne _ _ g2).trans ((va_up_ne _ _ g1).trans ((va_up_ne _ _ g0).trans ((va_up_ne _ _ g0).trans ((va_up_ne _ _ g0).trans ((va_up_ne _ _ g0).trans (va_up_ne _ _ g0)))))))))))), (va_up_self _ _ _), ⟨_, (jv_n (by decide) (jv_n (by decide) (jv_n (by decide) (jv_n (by decide) (jv_n (by decide) (jv_n (by decide) (va_up_self _ _ _)))))))⟩, ⟨_, (jv_n (by decide) (jv_n (by decide) (jv_n (by decide) (jv_n (by decide) (jv_n (by decide) (va_up_self _ _ _))))))⟩, ⟨_, (jv_n (by decide) (jv_n (by decide) (jv_n (by decide) (jv_n (by decide) (va_up_self _ _ _)))))⟩, ⟨_, (jv_n (by decide) (jv_n (by decide) (jv_n (by decide) (va_up_self _ _ _))))⟩, ⟨_, (jv_n (by decide) (jv_n (by decide) (va_up_self _ _ _)))⟩, ⟨_, (jv_n (by decide) (va_up_self _ _ _))⟩⟩ ⟨by decide, by decide⟩ dX0_copyOf_153
set_option maxRecDepth 100000 in
set_option maxHeartbeats 8000000 in
theorem c_X0_copyOf_51 (l : Launch) (D : va_G) (kp : Nat → ClassId) {n : Nat} {E : Nat → jv_E} (h51 : E 51 = cx51) (h52 : E 52 = cx52) (h53 : E 53 = cx53) (h54 : E 54 = cx54) (h55 : E 55 = cx55) (h56 : E 56 = cx56) (h57 : E 57 = cx57) (h1 : E 1 = cx1) (h2 : E 2 = cx2) (h3 : E 3 = cx3) (h4 : E 4 = cx4) (h5 : E 5 = cx5) (h6 : E 6 = cx6) (h7 : E 7 = cx7)  : jv_M l D vwCl kp yX0_copyOf wsX0_copyOf rm1 [] [.ref 51, .ref 1] n E 0 0 (fun r n1 E1 => none = r ∧ n = n1 ∧ (∀ j, j ≠ 51 → j ≠ 52 → j ≠ 53 → j ≠ 54 → j ≠ 55 → j ≠ 56 → j ≠ 57 → E1 j = E j) ∧ E1 51 = .inr (0, [.int 0, .int 0, .int 0, .int 0, .int 0, .ref 52, .ref 53, .ref 54, .ref 55, .ref 56, .ref 57, .int 0, .int 0, .int 0, .int 0, .int 0]) ∧ (∃ g, E1 52 = .inl (0, 48, .inl g)) ∧ (∃ g, E1 53 = .inl (0, 48, .inl g)) ∧ (∃ g, E1 54 = .inl (0, 6, .inl g)) ∧ (∃ g, E1 55 = .inl (0, 6, .inl g)) ∧ (∃ g, E1 56 = .inl (0, 6, .inl g)) ∧ (∃ g, E1 57 = .inl (0, 24, .inl g))) := by
  refine jv_of (by decide) rfl (Nat.le_of_ble_eq_true rfl) (fun G C B hI hnl => ?_)
  show jv_V l D vwCl kp G 0 0 n E 0 [(0, .ref 51), (1, .ref 1)] []
  refine jv_aload_n C dX0_copyOf_0 0 rfl ?_
  refine jv_aload_n C dX0_copyOf_1 1 rfl ?_
  refine jv_getf (fk := 0) C (by decide) h1 rfl in_X0_copyOf_0 (by decide) (by decide +kernel) rfl rfl dX0_copyOf_2 ?_
  refine jv_putf (fk := 0) (ty := .int) (fs2 := [.int 0, .int 0, .int 0, .int 0, .int 0, .ref 52, .ref 53, .ref 54, .ref 55, .ref 56, .ref 57, .int 0, .int 0, .int 0, .int 0, .int 0]) C (by decide) h51 rfl in_X0_copyOf_0 tyX0 tyX0_ok nmX0 (by decide) (by decide +kernel) rfl rfl rfl (fun _ => rfl) (fun _ => rfl) (Nat.le_of_ble_eq_true rfl) dX0_copyOf_5 rfl ?_
  refine jv_aload_n C dX0_copyOf_8 0 rfl ?_
  refine jv_aload_n C dX0_copyOf_9 1 rfl ?_
  refine jv_getf (fk := 1) C (by decide) (jv_n (by decide) h1) rfl in_X0_copyOf_0 (by decide) (by decide +kernel) rfl rfl dX0_copyOf_10 ?_
  refine jv_putf (fk := 1) (ty := .int) (fs2 := [.int 0, .int 0, .int 0, .int 0, .int 0, .ref 52, .ref 53, .ref 54, .ref 55, .ref 56, .ref 57, .int 0, .int 0, .int 0, .int 0, .int 0]) C (by decide) (va_up_self _ _ _) rfl in_X0_copyOf_0 tyX0 tyX0_ok nmX0 (by decide) (by decide +kernel) rfl rfl rfl (fun _ => rfl) (fun _ => rfl) (Nat.le_of_ble_eq_true rfl) dX0_copyOf_13 rfl ?_
  refine jv_aload_n C dX0_copyOf_16 0 rfl ?_
  refine jv_aload_n C dX0_copyOf_17 1 rfl ?_
  refine jv_getf (fk := 2) C (by decide) (jv_n (by decide) (jv_n (by decide) h1)) rfl in_X0_copyOf_0 (by decide) (by decide +kernel) rfl rfl dX0_copyOf_18 ?_
  refine jv_putf (fk := 2) (ty := .int) (fs2 := [.int 0, .int 0, .int 0, .int 0, .int 0, .ref 52, .ref 53, .ref 54, .ref 55, .ref 56, .ref 57, .int 0, .int 0, .int 0, .int 0, .int 0]) C (by decide) (va_up_self _ _ _) rfl in_X0_copyOf_0 tyX0 tyX0_ok nmX0 (by decide) (by decide +kernel) rfl rfl rfl (fun _ => rfl) (fun _ => rfl) (Nat.le_of_ble_eq_true rfl) dX0_copyOf_21 rfl ?_
  refine jv_aload_n C dX0_copyOf_24 0 rfl ?_
  refine jv_aload_n C dX0_copyOf_25 1 rfl ?_
  refine jv_getf (fk := 3) C (by decide) (jv_n (by decide) (jv_n (by decide) (jv_n (by decide) h1))) rfl in_X0_copyOf_0 (by decide) (by decide +kernel) rfl rfl dX0_copyOf_26 ?_
  refine jv_putf (fk := 3) (ty := .int) (fs2 := [.int 0, .int 0, .int 0, .int 0, .int 0, .ref 52, .ref 53, .ref 54, .ref 55, .ref 56, .ref 57, .int 0, .int 0, .int 0, .int 0, .int 0]) C (by decide) (va_up_self _ _ _) rfl in_X0_copyOf_0 tyX0 tyX0_ok nmX0 (by decide) (by decide +kernel) rfl rfl rfl (fun _ => rfl) (fun _ => rfl) (Nat.le_of_ble_eq_true rfl) dX0_copyOf_29 rfl ?_
  refine jv_aload_n C dX0_copyOf_32 0 rfl ?_
  refine jv_aload_n C dX0_copyOf_33 1 rfl ?_
  refine jv_getf (fk := 4) C (by decide) (jv_n (by decide) (jv_n (by decide) (jv_n (by decide) (jv_n (by decide) h1)))) rfl in_X0_copyOf_0 (by decide) (by decide +kernel) rfl rfl dX0_copyOf_34 ?_
  refine jv_putf (fk := 4) (ty := .int) (fs2 := [.int 0, .int 0, .int 0, .int 0, .int 0, .ref 52, .ref 53, .ref 54, .ref 55, .ref 56, .ref 57, .int 0, .int 0, .int 0, .int 0, .int 0]) C (by decide) (va_up_self _ _ _) rfl in_X0_copyOf_0 tyX0 tyX0_ok nmX0 (by decide) (by decide +kernel) rfl rfl rfl (fun _ => rfl) (fun _ => rfl) (Nat.le_of_ble_eq_true rfl) dX0_copyOf_37 rfl ?_
  refine jv_aload_n C dX0_copyOf_40 1 rfl ?_
  refine jv_getf (fk := 5) C (by decide) (jv_n (by decide) (jv_n (by decide) (jv_n (by decide) (jv_n (by decide) (jv_n (by decide) h1))))) rfl in_X0_copyOf_0 (by decide) (by decide +kernel) rfl rfl dX0_copyOf_41 ?_
  refine jv_iconst (v := 0) C dX0_copyOf_44 (by decide) ?_
  refine jv_aload_n C dX0_copyOf_45 0 rfl ?_
  refine jv_getf (fk := 5) C (by decide) (va_up_self _ _ _) rfl in_X0_copyOf_0 (by decide) (by decide +kernel) rfl rfl dX0_copyOf_46 ?_
  refine jv_iconst (v := 0) C dX0_copyOf_49 (by decide) ?_
  refine jv_aload_n C dX0_copyOf_50 0 rfl ?_
  refine jv_getf (fk := 5) C (by decide) (va_up_self _ _ _) rfl in_X0_copyOf_0 (by decide) (by decide +kernel) rfl rfl dX0_copyOf_51 ?_
  refine jv_alen (v := 48) C (by decide) (jv_n (by decide) (jv_n (by decide) (jv_n (by decide) (jv_n (by decide) (jv_n (by decide) h52))))) .int (fun _ => rfl) (by decide) dX0_copyOf_54 ?_
  refine jv_copyI C (by decide) (by decide) (jv_n (by decide) (jv_n (by decide) (jv_n (by decide) (jv_n (by decide) (jv_n (by decide) h2))))) (jv_n (by decide) (jv_n (by decide) (jv_n (by decide) (jv_n (by decide) (jv_n (by decide) h52))))) (by decide +kernel) (by decide +kernel) (by decide +kernel) (by decide +kernel) (by decide) (by decide) (by decide) (by decide) (by decide) (by decide) (Nat.le_of_ble_eq_true rfl) dX0_copyOf_55 ?_
  refine jv_aload_n C dX0_copyOf_58 1 rfl ?_
  refine jv_getf (fk := 6) C (by decide) (jv_n (by decide) (jv_n (by decide) (jv_n (by decide) (jv_n (by decide) (jv_n (by decide) (jv_n (by decide) h1)))))) rfl in_X0_copyOf_0 (by decide) (by decide +kernel) rfl rfl dX0_copyOf_59 ?_
  refine jv_iconst (v := 0) C dX0_copyOf_62 (by decide) ?_
  refine jv_aload_n C dX0_copyOf_63 0 rfl ?_
  refine jv_getf (fk := 6) C (by decide) (jv_n (by decide) (va_up_self _ _ _)) rfl in_X0_copyOf_0 (by decide) (by decide +kernel) rfl rfl dX0_copyOf_64 ?_
  refine jv_iconst (v := 0) C dX0_copyOf_67 (by decide) ?_
  refine jv_aload_n C dX0_copyOf_68 0 rfl ?_
  refine jv_getf (fk := 6) C (by decide) (jv_n (by decide) (va_up_self _ _ _)) rfl in_X0_copyOf_0 (by decide) (by decide +kernel) rfl rfl dX0_copyOf_69 ?_
  refine jv_alen (v := 48) C (by decide) (jv_n (by decide) (jv_n (by decide) (jv_n (by decide) (jv_n (by decide) (jv_n (by decide) (jv_n (by decide) h53)))))) .int (fun _ => rfl) (by decide) dX0_copyOf_72 ?_
  refine jv_copyI C (by decide) (by decide) (jv_n (by decide) (jv_n (by decide) (jv_n (by decide) (jv_n (by decide) (jv_n (by decide) (jv_n (by decide) h3)))))) (jv_n (by decide) (jv_n (by decide) (jv_n (by decide) (jv_n (by decide) (jv_n (by decide) (jv_n (by decide) h53)))))) (by decide +kernel) (by decide +kernel) (by decide +kernel) (by decide +kernel) (by decide) (by decide) (by decide) (by decide) (by decide) (by decide) (Nat.le_of_ble_eq_true rfl) dX0_copyOf_73 ?_
  refine jv_aload_n C dX0_copyOf_76 1 rfl ?_
  refine jv_getf (fk := 7) C (by decide) (jv_n (by decide) (jv_n (by decide) (jv_n (by decide) (jv_n (by decide) (jv_n (by decide) (jv_n (by decide) (jv_n (by decide) h1))))))) rfl in_X0_copyOf_0 (by decide) (by decide +kernel) rfl rfl dX0_copyOf_77 ?_
  refine jv_iconst (v := 0) C dX0_copyOf_80 (by decide) ?_
  refine jv_aload_n C dX0_copyOf_81 0 rfl ?_
  refine jv_getf (fk := 7) C (by decide) (jv_n (by decide) (jv_n (by decide) (va_up_self _ _ _))) rfl in_X0_copyOf_0 (by decide) (by decide +kernel) rfl rfl dX0_copyOf_82 ?_
  refine jv_iconst (v := 0) C dX0_copyOf_85 (by decide) ?_
  refine jv_aload_n C dX0_copyOf_86 0 rfl ?_
  refine jv_getf (fk := 7) C (by decide) (jv_n (by decide) (jv_n (by decide) (va_up_self _ _ _))) rfl in_X0_copyOf_0 (by decide) (by decide +kernel) rfl rfl dX0_copyOf_87 ?_
  refine jv_alen (v := 6) C (by decide) (jv_n (by decide) (jv_n (by decide) (jv_n (by decide) (jv_n (by decide) (jv_n (by decide) (jv_n (by decide) (jv_n (by decide) h54))))))) .int (fun _ => rfl) (by decide) dX0_copyOf_90 ?_
  refine jv_copyI C (by decide) (by decide) (jv_n (by decide) (jv_n (by decide) (jv_n (by decide) (jv_n (by decide) (jv_n (by decide) (jv_n (by decide) (jv_n (by decide) h4))))))) (jv_n (by decide) (jv_n (by decide) (jv_n (by decide) (jv_n (by decide) (jv_n (by decide) (jv_n (by decide) (jv_n (by decide) h54))))))) (by decide +kernel) (by decide +kernel) (by decide +kernel) (by decide +kernel) (by decide) (by decide) (by decide) (by decide) (by decide) (by decide) (Nat.le_of_ble_eq_true rfl) dX0_copyOf_91 ?_
  refine jv_aload_n C dX0_copyOf_94 1 rfl ?_
  refine jv_getf (fk := 8) C (by decide) (jv_n (by decide) (jv_n (by decide) (jv_n (by decide) (jv_n (by decide) (jv_n (by decide) (jv_n (by decide) (jv_n (by decide) (jv_n (by decide) h1)))))))) rfl in_X0_copyOf_0 (by decide) (by decide +kernel) rfl rfl dX0_copyOf_95 ?_
  refine jv_iconst (v := 0) C dX0_copyOf_98 (by decide) ?_
  refine jv_aload_n C dX0_copyOf_99 0 rfl ?_
  refine jv_getf (fk := 8) C (by decide) (jv_n (by decide) (jv_n (by decide) (jv_n (by decide) (va_up_self _ _ _)))) rfl in_X0_copyOf_0 (by decide) (by decide +kernel) rfl rfl dX0_copyOf_100 ?_
  refine jv_iconst (v := 0) C dX0_copyOf_103 (by decide) ?_
  refine jv_aload_n C dX0_copyOf_104 0 rfl ?_
  refine jv_getf (fk := 8) C (by decide) (jv_n (by decide) (jv_n (by decide) (jv_n (by decide) (va_up_self _ _ _)))) rfl in_X0_copyOf_0 (by decide) (by decide +kernel) rfl rfl dX0_copyOf_105 ?_
  refine jv_alen (v := 6) C (by decide) (jv_n (by decide) (jv_n (by decide) (jv_n (by decide) (jv_n (by decide) (jv_n (by decide) (jv_n (by decide) (jv_n (by decide) (jv_n (by decide) h55)))))))) .int (fun _ => rfl) (by decide) dX0_copyOf_108 ?_
  refine jv_copyI C (by decide) (by decide) (jv_n (by decide) (jv_n (by decide) (jv_n (by decide) (jv_n (by decide) (jv_n (by decide) (jv_n (by decide) (jv_n (by decide) (jv_n (by decide) h5)))))))) (jv_n (by decide) (jv_n (by decide) (jv_n (by decide) (jv_n (by decide) (jv_n (by decide) (jv_n (by decide) (jv_n (by decide) (jv_n (by decide) h55)))))))) (by decide +kernel) (by decide +kernel) (by decide +kernel) (by decide +kernel) (by decide) (by decide) (by decide) (by decide) (by decide) (by decide) (Nat.le_of_ble_eq_true rfl) dX0_copyOf_109 ?_
  refine jv_aload_n C dX0_copyOf_112 1 rfl ?_
  refine jv_getf (fk := 9) C (by decide) (jv_n (by decide) (jv_n (by decide) (jv_n (by decide) (jv_n (by decide) (jv_n (by decide) (jv_n (by decide) (jv_n (by decide) (jv_n (by decide) (jv_n (by decide) h1))))))))) rfl in_X0_copyOf_0 (by decide) (by decide +kernel) rfl rfl dX0_copyOf_113 ?_
  refine jv_iconst (v := 0) C dX0_copyOf_116 (by decide) ?_
  refine jv_aload_n C dX0_copyOf_117 0 rfl ?_
  refine jv_getf (fk := 9) C (by decide) (jv_n (by decide) (jv_n (by decide) (jv_n (by decide) (jv_n (by decide) (va_up_self _ _ _))))) rfl in_X0_copyOf_0 (by decide) (by decide +kernel) rfl rfl dX0_copyOf_118 ?_
  refine jv_iconst (v := 0) C dX0_copyOf_121 (by decide) ?_
  refine jv_aload_n C dX0_copyOf_122 0 rfl ?_
  refine jv_getf (fk := 9) C (by decide) (jv_n (by decide) (jv_n (by decide) (jv_n (by decide) (jv_n (by decide) (va_up_self _ _ _))))) rfl in_X0_copyOf_0 (by decide) (by decide +kernel) rfl rfl dX0_copyOf_123 ?_
  refine jv_alen (v := 6) C (by decide) (jv_n (by decide) (jv_n (by decide) (jv_n (by decide) (jv_n (by decide) (jv_n (by decide) (jv_n (by decide) (jv_n (by decide) (jv_n (by decide) (jv_n (by decide) h56))))))))) .int (fun _ => rfl) (by decide) dX0_copyOf_126 ?_
  refine jv_copyI C (by decide) (by decide) (jv_n (by decide) (jv_n (by decide) (jv_n (by decide) (jv_n (by decide) (jv_n (by decide) (jv_n (by decide) (jv_n (by decide) (jv_n (by decide) (jv_n (by decide) h6))))))))) (jv_n (by decide) (jv_n (by decide) (jv_n (by decide) (jv_n (by decide) (jv_n (by decide) (jv_n (by decide) (jv_n (by decide) (jv_n (by decide) (jv_n (by decide) h56))))))))) (by decide +kernel) (by decide +kernel) (by decide +kernel) (by decide +kernel) (by decide) (by decide) (by decide) (by decide) (by decide) (by decide) (Nat.le_of_ble_eq_true rfl) dX0_copyOf_127 ?_
  refine jv_aload_n C dX0_copyOf_130 1 rfl ?_
  refine jv_getf (fk := 10) C (by decide) (jv_n (by decide) (jv_n (by decide) (jv_n (by decide) (jv_n (by decide) (jv_n (by decide) (jv_n (by decide) (jv_n (by decide) (jv_n (by decide) (jv_n (by decide) (jv_n (by decide) h1)))))))))) rfl in_X0_copyOf_0 (by decide) (by decide +kernel) rfl rfl dX0_copyOf_131 ?_
  refine jv_iconst (v := 0) C dX0_copyOf_134 (by decide) ?_
  refine jv_aload_n C dX0_copyOf_135 0 rfl ?_
  refine jv_getf (fk := 10) C (by decide) (jv_n (by decide) (jv_n (by decide) (jv_n (by decide) (jv_n (by decide) (jv_n (by decide) (va_up_self _ _ _)))))) rfl in_X0_copyOf_0 (by decide) (by decide +kernel) rfl rfl dX0_copyOf_136 ?_
  refine jv_iconst (v := 0) C dX0_copyOf_139 (by decide) ?_
  refine jv_aload_n C dX0_copyOf_140 0 rfl ?_
  refine jv_getf (fk := 10) C (by decide) (jv_n (by decide) (jv_n (by decide) (jv_n (by decide) (jv_n (by decide) (jv_n (by decide) (va_up_self _ _ _)))))) rfl in_X0_copyOf_0 (by decide) (by decide +kernel) rfl rfl dX0_copyOf_141 ?_
  refine jv_alen (v := 24) C (by decide) (jv_n (by decide) (jv_n (by decide) (jv_n (by decide) (jv_n (by decide) (jv_n (by decide) (jv_n (by decide) (jv_n (by decide) (jv_n (by decide) (jv_n (by decide) (jv_n (by decide) h57)))))))))) .int (fun _ => rfl) (by decide) dX0_copyOf_144 ?_
  refine jv_copyI C (by decide) (by decide) (jv_n (by decide) (jv_n (by decide) (jv_n (by decide) (jv_n (by decide) (jv_n (by decide) (jv_n (by decide) (jv_n (by decide) (jv_n (by decide) (jv_n (by decide) (jv_n (by decide) h7)))))))))) (jv_n (by decide) (jv_n (by decide) (jv_n (by decide) (jv_n (by decide) (jv_n (by decide) (jv_n (by decide) (jv_n (by decide) (jv_n (by decide) (jv_n (by decide) (jv_n (by decide) h57)))))))))) (by decide +kernel) (by decide +kernel) (by decide +kernel) (by decide +kernel) (by decide) (by decide) (by decide) (by decide) (by decide) (by decide) (Nat.le_of_ble_eq_true rfl) dX0_copyOf_145 ?_
  refine jv_aload_n C dX0_copyOf_148 0 rfl ?_
  refine jv_iconst (v := 0) C dX0_copyOf_149 (by decide) ?_
  refine jv_putf (fk := 11) (ty := .boolean) (fs2 := [.int 0, .int 0, .int 0, .int 0, .int 0, .ref 52, .ref 53, .ref 54, .ref 55, .ref 56, .ref 57, .int 0, .int 0, .int 0, .int 0, .int 0]) C (by decide) (jv_n (by decide) (jv_n (by decide) (jv_n (by decide) (jv_n (by decide) (jv_n (by decide) (jv_n (by decide) (va_up_self _ _ _))))))) rfl in_X0_copyOf_0 tyX0 tyX0_ok nmX0 (by decide) (by decide +kernel) rfl rfl rfl (fun _ => (by decide : narrow .boolean (.int 0) = .int 0)) (fun _ => (by decide : fits .boolean (.int 0) = true)) (Nat.le_of_ble_eq_true rfl) dX0_copyOf_150 rfl ?_
  exact jv_vret C B ⟨rfl, rfl, fun j g0 g1 g2 g3 g4 g5 g6 => ((va_up_ne _ _ g0).trans ((va_up_ne _ _ g6).trans ((va_up_ne _ _ g5).trans ((va_up_ne _ _ g4).trans ((va_up_ne _ _ g3).trans ((va_up_ne _ _ g2).trans ((va_up_ne _ _ g1).trans ((va_up_ne _ _ g0).trans ((va_up_ne _ _ g0).trans ((va_up_ne _ _ g0).trans ((va_up_ne _ _ g0).trans (va_up_ne _ _ g0)))))))))))), (va_up_self _ _ _), ⟨_, (jv_n (by decide) (jv_n (by decide) (jv_n (by decide) (jv_n (by decide) (jv_n (by decide) (jv_n (by decide) (va_up_self _ _ _)))))))⟩, ⟨_, (jv_n (by decide) (jv_n (by decide) (jv_n (by decide) (jv_n (by decide) (jv_n (by decide) (va_up_self _ _ _))))))⟩, ⟨_, (jv_n (by decide) (jv_n (by decide) (jv_n (by decide) (jv_n (by decide) (va_up_self _ _ _)))))⟩, ⟨_, (jv_n (by decide) (jv_n (by decide) (jv_n (by decide) (va_up_self _ _ _))))⟩, ⟨_, (jv_n (by decide) (jv_n (by decide) (va_up_self _ _ _)))⟩, ⟨_, (jv_n (by decide) (va_up_self _ _ _))⟩⟩ ⟨by decide, by decide⟩ dX0_copyOf_153
theorem q_X0_copyOf : yX0_copyOf.cls ≠ "java/lang/invoke/MethodHandle" ∧ yX0_copyOf.cls ≠ "java/lang/invoke/VarHandle" ∧ (parseMethodDescriptor yX0_copyOf.desc).map (fun d => d.parameters.length) = some 1 := by decide +kernel
theorem q_X3_readAll : yX3_readAll.cls ≠ "java/lang/invoke/MethodHandle" ∧ yX3_readAll.cls ≠ "java/lang/invoke/VarHandle" ∧ (parseMethodDescriptor yX3_readAll.desc).map (fun d => d.parameters.length) = some 0 := by decide +kernel
theorem in_X8_city_0 : ∀ w ∈ u_ws RX0 TX0 16, w ∈ wsX8_city := by decide +kernel
theorem in_X8_city_3 : ∀ w ∈ u_ws RX3 TX3 12, w ∈ wsX8_city := by decide +kernel
theorem in_X8_city_8 : ∀ w ∈ u_ws RX8 TX8 11, w ∈ wsX8_city := by decide +kernel
set_option maxRecDepth 100000 in
set_option maxHeartbeats 8000000 in
theorem c_X8_city (l : Launch) (D : va_G) (kp : Nat → ClassId) {n : Nat} {E : Nat → jv_E} (h0 : E 0 = cx0) (h17 : E 17 = cx17) (h1 : E 1 = cx1) (h2 : E 2 = cx2) (h3 : E 3 = cx3) (h4 : E 4 = cx4) (h5 : E 5 = cx5) (h6 : E 6 = cx6) (h7 : E 7 = cx7) (h8 : E 8 = cx8) (h9 : E 9 = cx9) (h10 : E 10 = cx10) (h11 : E 11 = cx11) (h12 : E 12 = cx12) (h13 : E 13 = cx13) (h14 : E 14 = cx14)  : jv_M l D vwCl kp yX8_city wsX8_city rm3 [] [.ref 0] n E 0 0 (fun r n1 E1 => some (.int 0) = r ∧ ∀ j, 58 ≤ j → E1 j = E j) := by
  refine jv_of (by decide) rfl (Nat.le_of_ble_eq_true rfl) (fun G C B hI hnl => ?_)
  show jv_V l D vwCl kp G 0 0 n E 0 [(0, .ref 0)] []
  refine jv_aload_n C dX8_city_0 0 rfl ?_
  refine jv_getf (fk := 4) C (by decide) h0 rfl in_X8_city_8 (by decide) (by decide +kernel) rfl rfl dX8_city_1 ?_
  refine jv_callV (na := 0) (As := []) (st := []) C (c_X3_readAll l D kp h8 h17  ) gX8_city_X3_readAll rfl (by decide) h17 rfl rfl rfl q_X3_readAll rfl ⟨by decide, by decide⟩ ⟨by decide, by decide⟩ (fun _ h => absurd h List.not_mem_nil) (Nat.le_of_ble_eq_true rfl) rfl dX8_city_4 (fun r n1 E_1 hp _ => ?_)
  obtain ⟨rfl, rfl, hf2, e3, e4⟩ := hp
  show jv_V l D vwCl kp G 0 0 n E_1 7 [(0, .ref 0)] [.int 1]
  refine jv_if_ne (tgt := 13) C dX8_city_7 (by decide) (fun _ => ?_) (fun h => absurd h (by decide))
  refine jv_aload_n C dX8_city_13 0 rfl ?_
  refine jv_getf (fk := 4) C (by decide) ((hf2 0 (by decide) (by decide)).trans h0) rfl in_X8_city_8 (by decide) (by decide +kernel) rfl rfl dX8_city_14 ?_
  refine jv_iconst (v := 0) C dX8_city_17 (by decide) ?_
  refine jv_putf (fk := 1) (ty := .int) (fs2 := [.ref 18, .int 0, .int 0, .int (-1), .ref 8, .int 0, .int 0, .int 0, .int 0, .int 0, .int 0, .int 0]) C (by decide) e4 rfl in_X8_city_3 tyX3 tyX3_ok nmX3 (by decide) (by decide +kernel) rfl rfl rfl (fun _ => rfl) (fun _ => rfl) (Nat.le_of_ble_eq_true rfl) dX8_city_18 rfl ?_
  refine jv_aload_n C dX8_city_21 0 rfl ?_
  refine jv_getf (fk := 0) C (by decide) (jv_n (by decide) ((hf2 0 (by decide) (by decide)).trans h0)) rfl in_X8_city_8 (by decide) (by decide +kernel) rfl rfl dX8_city_22 ?_
  refine jv_aload_n C dX8_city_25 0 rfl ?_
  refine jv_getf (fk := 1) C (by decide) (jv_n (by decide) ((hf2 0 (by decide) (by decide)).trans h0)) rfl in_X8_city_8 (by decide) (by decide +kernel) rfl rfl dX8_city_26 ?_
  refine jv_callV (na := 1) (As := [.ref 8]) (st := []) C (c_X0_copyOf_1 l D kp (jv_n (by decide) ((hf2 1 (by decide) (by decide)).trans h1)) (jv_n (by decide) ((hf2 2 (by decide) (by decide)).trans h2)) (jv_n (by decide) ((hf2 3 (by decide) (by decide)).trans h3)) (jv_n (by decide) ((hf2 4 (by decide) (by decide)).trans h4)) (jv_n (by decide) ((hf2 5 (by decide) (by decide)).trans h5)) (jv_n (by decide) ((hf2 6 (by decide) (by decide)).trans h6)) (jv_n (by decide) ((hf2 7 (by decide) (by decide)).trans h7)) (jv_n (by decide) e3) (jv_n (by decide) ((hf2 9 (by decide) (by decide)).trans h9)) (jv_n (by decide) ((hf2 10 (by decide) (by decide)).trans h10)) (jv_n (by decide) ((hf2 11 (by decide) (by decide)).trans h11)) (jv_n (by decide) ((hf2 12 (by decide) (by decide)).trans h12)) (jv_n (by decide) ((hf2 13 (by decide) (by decide)).trans h13)) (jv_n (by decide) ((hf2 14 (by decide) (by decide)).trans h14))  ) gX8_city_X0_copyOf rfl (by decide) (jv_n (by decide) ((hf2 1 (by decide) (by decide)).trans h1)) rfl rfl rfl q_X0_copyOf rfl ⟨by decide, by decide⟩ ⟨by decide, by decide⟩ (fun _ h => absurd h List.not_mem_nil) (Nat.le_of_ble_eq_true rfl) rfl dX8_city_29 (fun r n1 E_5 hp _ => ?_)
  obtain ⟨rfl, rfl, hf6, e7, ⟨g_14, e8⟩, ⟨g_15, e9⟩, ⟨g_16, e10⟩, ⟨g_17, e11⟩, ⟨g_18, e12⟩, ⟨g_19, e13⟩⟩ := hp
  show jv_V l D vwCl kp G 0 0 n E_5 32 [(0, .ref 0)] []
  refine jv_aload_n C dX8_city_32 0 rfl ?_
  refine jv_getf (fk := 0) C (by decide) ((hf6 0 (by decide) (by decide) (by decide) (by decide) (by decide) (by decide) (by decide)).trans (jv_n (by decide) ((hf2 0 (by decide) (by decide)).trans h0))) rfl in_X8_city_8 (by decide) (by decide +kernel) rfl rfl dX8_city_33 ?_
  refine jv_getf (fk := 1) C (by decide) e7 rfl in_X8_city_0 (by decide) (by decide +kernel) rfl rfl dX8_city_36 ?_
  exact jv_iret C B ⟨rfl, fun j h => ((hf6 j (by omega) (by omega) (by omega) (by omega) (by omega) (by omega) (by omega)).trans ((va_up_ne _ _ (by omega)).trans (hf2 j (by omega) (by omega))))⟩ ⟨by decide, by decide⟩ dX8_city_39
theorem in_X8_imageAt_8 : ∀ w ∈ u_ws RX8 TX8 11, w ∈ wsX8_imageAt := by decide +kernel
set_option maxRecDepth 100000 in
set_option maxHeartbeats 8000000 in
theorem c_X8_imageAt_0 (l : Launch) (D : va_G) (kp : Nat → ClassId) {n : Nat} {E : Nat → jv_E} (h0 : E 0 = cx0) (h15 : E 15 = cx15)  : jv_M l D vwCl kp yX8_imageAt wsX8_imageAt rm1 [] [.ref 0, .int 0] n E 0 0 (fun r n1 E1 => some (.ref 37) = r ∧ n = n1 ∧ E = E1) := by
  refine jv_of (by decide) rfl (Nat.le_of_ble_eq_true rfl) (fun G C B hI hnl => ?_)
  show jv_V l D vwCl kp G 0 0 n E 0 [(0, .ref 0), (1, .int 0)] []
  refine jv_iload_n C dX8_imageAt_0 1 rfl ?_
  refine jv_if_lt (tgt := 18) C dX8_imageAt_1 (by decide) (fun h => absurd h (by decide)) (fun _ => ?_)
  refine jv_iload_n C dX8_imageAt_4 1 rfl ?_
  refine jv_iconst (v := 3) C dX8_imageAt_5 (by decide) ?_
  refine jv_icmp_ge (tgt := 18) C dX8_imageAt_6 (by decide) (fun h => absurd h (by decide)) (fun _ => ?_)
  refine jv_aload_n C dX8_imageAt_9 0 rfl ?_
  refine jv_getf (fk := 2) C (by decide) h0 rfl in_X8_imageAt_8 (by decide) (by decide +kernel) rfl rfl dX8_imageAt_10 ?_
  refine jv_iload_n C dX8_imageAt_13 1 rfl ?_
  refine jv_aald (r := 37) C (by decide) h15 (jv_vi (by decide)) rfl dX8_imageAt_14 ?_
  refine jv_goto (tgt := 19) C dX8_imageAt_15 (by decide) ?_
  exact jv_aret C B (Or.inr ⟨_, rfl⟩) ⟨rfl, rfl, rfl⟩ ⟨by decide, by decide⟩ dX8_imageAt_19
set_option maxRecDepth 100000 in
set_option maxHeartbeats 8000000 in
theorem c_X8_imageAt_1 (l : Launch) (D : va_G) (kp : Nat → ClassId) {n : Nat} {E : Nat → jv_E} (h0 : E 0 = cx0) (h15 : E 15 = cx15)  : jv_M l D vwCl kp yX8_imageAt wsX8_imageAt rm1 [] [.ref 0, .int 1] n E 0 0 (fun r n1 E1 => some (.ref 44) = r ∧ n = n1 ∧ E = E1) := by
  refine jv_of (by decide) rfl (Nat.le_of_ble_eq_true rfl) (fun G C B hI hnl => ?_)
  show jv_V l D vwCl kp G 0 0 n E 0 [(0, .ref 0), (1, .int 1)] []
  refine jv_iload_n C dX8_imageAt_0 1 rfl ?_
  refine jv_if_lt (tgt := 18) C dX8_imageAt_1 (by decide) (fun h => absurd h (by decide)) (fun _ => ?_)
  refine jv_iload_n C dX8_imageAt_4 1 rfl ?_
  refine jv_iconst (v := 3) C dX8_imageAt_5 (by decide) ?_
  refine jv_icmp_ge (tgt := 18) C dX8_imageAt_6 (by decide) (fun h => absurd h (by decide)) (fun _ => ?_)
  refine jv_aload_n C dX8_imageAt_9 0 rfl ?_
  refine jv_getf (fk := 2) C (by decide) h0 rfl in_X8_imageAt_8 (by decide) (by decide +kernel) rfl rfl dX8_imageAt_10 ?_
  refine jv_iload_n C dX8_imageAt_13 1 rfl ?_
  refine jv_aald (r := 44) C (by decide) h15 (jv_vi (by decide)) rfl dX8_imageAt_14 ?_
  refine jv_goto (tgt := 19) C dX8_imageAt_15 (by decide) ?_
  exact jv_aret C B (Or.inr ⟨_, rfl⟩) ⟨rfl, rfl, rfl⟩ ⟨by decide, by decide⟩ dX8_imageAt_19
set_option maxRecDepth 100000 in
set_option maxHeartbeats 8000000 in
theorem c_X8_imageAt_2 (l : Launch) (D : va_G) (kp : Nat → ClassId) {n : Nat} {E : Nat → jv_E} (h0 : E 0 = cx0) (h15 : E 15 = cx15)  : jv_M l D vwCl kp yX8_imageAt wsX8_imageAt rm1 [] [.ref 0, .int 2] n E 0 0 (fun r n1 E1 => some (.ref 51) = r ∧ n = n1 ∧ E = E1) := by
  refine jv_of (by decide) rfl (Nat.le_of_ble_eq_true rfl) (fun G C B hI hnl => ?_)
  show jv_V l D vwCl kp G 0 0 n E 0 [(0, .ref 0), (1, .int 2)] []
  refine jv_iload_n C dX8_imageAt_0 1 rfl ?_
  refine jv_if_lt (tgt := 18) C dX8_imageAt_1 (by decide) (fun h => absurd h (by decide)) (fun _ => ?_)
  refine jv_iload_n C dX8_imageAt_4 1 rfl ?_
  refine jv_iconst (v := 3) C dX8_imageAt_5 (by decide) ?_
  refine jv_icmp_ge (tgt := 18) C dX8_imageAt_6 (by decide) (fun h => absurd h (by decide)) (fun _ => ?_)
  refine jv_aload_n C dX8_imageAt_9 0 rfl ?_
  refine jv_getf (fk := 2) C (by decide) h0 rfl in_X8_imageAt_8 (by decide) (by decide +kernel) rfl rfl dX8_imageAt_10 ?_
  refine jv_iload_n C dX8_imageAt_13 1 rfl ?_
  refine jv_aald (r := 51) C (by decide) h15 (jv_vi (by decide)) rfl dX8_imageAt_14 ?_
  refine jv_goto (tgt := 19) C dX8_imageAt_15 (by decide) ?_
  exact jv_aret C B (Or.inr ⟨_, rfl⟩) ⟨rfl, rfl, rfl⟩ ⟨by decide, by decide⟩ dX8_imageAt_19
set_option maxRecDepth 100000 in
set_option maxHeartbeats 8000000 in
theorem c_X8_imageAt_neg (l : Launch) (D : va_G) (kp : Nat → ClassId) {n : Nat} {E : Nat → jv_E} (h0 : E 0 = cx0) (h15 : E 15 = cx15) (p1 : Int32) (ho : p1.toInt < 0) : jv_M l D vwCl kp yX8_imageAt wsX8_imageAt rm1 [] [.ref 0, .int p1] n E 0 0 (fun r n1 E1 => some (.null) = r ∧ n = n1 ∧ E = E1) := by
  refine jv_of (by decide) rfl (Nat.le_of_ble_eq_true rfl) (fun G C B hI hnl => ?_)
  show jv_V l D vwCl kp G 0 0 n E 0 [(0, .ref 0), (1, .int p1)] []
  refine jv_iload_n C dX8_imageAt_0 1 rfl ?_
  refine jv_if_lt (tgt := 18) C dX8_imageAt_1 (by decide) (fun _ => ?_) (fun h => absurd (jv_r_lt (by have a0 := ho; have z0 : (0 : Int32).toInt = 0 := (by decide); omega)) h)
  refine jv_null C dX8_imageAt_18 ?_
  exact jv_aret C B (Or.inl rfl) ⟨rfl, rfl, rfl⟩ ⟨by decide, by decide⟩ dX8_imageAt_19
set_option maxRecDepth 100000 in
set_option maxHeartbeats 8000000 in
theorem c_X8_imageAt_big (l : Launch) (D : va_G) (kp : Nat → ClassId) {n : Nat} {E : Nat → jv_E} (h0 : E 0 = cx0) (h15 : E 15 = cx15) (p1 : Int32) (ho : 2 < p1.toInt) : jv_M l D vwCl kp yX8_imageAt wsX8_imageAt rm1 [] [.ref 0, .int p1] n E 0 0 (fun r n1 E1 => some (.null) = r ∧ n = n1 ∧ E = E1) := by
  refine jv_of (by decide) rfl (Nat.le_of_ble_eq_true rfl) (fun G C B hI hnl => ?_)
  show jv_V l D vwCl kp G 0 0 n E 0 [(0, .ref 0), (1, .int p1)] []
  refine jv_iload_n C dX8_imageAt_0 1 rfl ?_
  refine jv_if_lt (tgt := 18) C dX8_imageAt_1 (by decide) (fun h => absurd h (jv_r_nlt (by have a0 := ho; have z0 : (0 : Int32).toInt = 0 := (by decide); omega))) (fun _ => ?_)
  refine jv_iload_n C dX8_imageAt_4 1 rfl ?_
  refine jv_iconst (v := 3) C dX8_imageAt_5 (by decide) ?_
  refine jv_icmp_ge (tgt := 18) C dX8_imageAt_6 (by decide) (fun _ => ?_) (fun h => absurd (jv_r_le (by have a0 := ho; have z3 : (3 : Int32).toInt = 3 := (by decide); omega)) h)
  refine jv_null C dX8_imageAt_18 ?_
  exact jv_aret C B (Or.inl rfl) ⟨rfl, rfl, rfl⟩ ⟨by decide, by decide⟩ dX8_imageAt_19
theorem q_X8_imageAt : yX8_imageAt.cls ≠ "java/lang/invoke/MethodHandle" ∧ yX8_imageAt.cls ≠ "java/lang/invoke/VarHandle" ∧ (parseMethodDescriptor yX8_imageAt.desc).map (fun d => d.parameters.length) = some 1 := by decide +kernel
theorem in_X8_keep_8 : ∀ w ∈ u_ws RX8 TX8 11, w ∈ wsX8_keep := by decide +kernel
set_option maxRecDepth 100000 in
set_option maxHeartbeats 8000000 in
theorem c_X8_keep_0 (l : Launch) (D : va_G) (kp : Nat → ClassId) {n : Nat} {E : Nat → jv_E} (h0 : E 0 = cx0) (h15 : E 15 = cx15) (h16 : E 16 = cx16) (h1 : E 1 = cx1) (h2 : E 2 = cx2) (h3 : E 3 = cx3) (h4 : E 4 = cx4) (h5 : E 5 = cx5) (h6 : E 6 = cx6) (h7 : E 7 = cx7) (h37 : E 37 = cx37) (h38 : E 38 = cx38) (h39 : E 39 = cx39) (h40 : E 40 = cx40) (h41 : E 41 = cx41) (h42 : E 42 = cx42) (h43 : E 43 = cx43)  : jv_M l D vwCl kp yX8_keep wsX8_keep rm2 [] [.ref 0, .int 0] n E 0 0 (fun r n1 E1 => some (.int 0) = r ∧ ∀ j, 58 ≤ j → E1 j = E j) := by
  refine jv_of (by decide) rfl (Nat.le_of_ble_eq_true rfl) (fun G C B hI hnl => ?_)
  show jv_V l D vwCl kp G 0 0 n E 0 [(0, .ref 0), (1, .int 0)] []
  refine jv_aload_n C dX8_keep_0 0 rfl ?_
  refine jv_iload_n C dX8_keep_1 1 rfl ?_
  refine jv_callV (na := 1) (As := [.int 0]) (st := []) C (c_X8_imageAt_0 l D kp h0 h15  ) gX8_keep_X8_imageAt rfl (by decide) h0 rfl rfl rfl q_X8_imageAt rfl ⟨by decide, by decide⟩ ⟨by decide, by decide⟩ (fun _ h => absurd h List.not_mem_nil) (Nat.le_of_ble_eq_true rfl) rfl dX8_keep_2 (fun r n1 E_1 hp _ => ?_)
  obtain ⟨rfl, rfl, rfl⟩ := hp
  show jv_V l D vwCl kp G 0 0 n E 5 [(0, .ref 0), (1, .int 0)] [.ref 37]
  refine jv_astore_n (lv2 := [(2, .ref 37), (0, .ref 0), (1, .int 0)]) C dX8_keep_5 rfl hnl (by decide) rfl ?_
  refine jv_aload_n C dX8_keep_6 0 rfl ?_
  refine jv_ifnonnull (tgt := 13) C dX8_keep_7 (by decide) ?_
  refine jv_aload_n C dX8_keep_13 0 rfl ?_
  refine jv_aload_n C dX8_keep_14 1 rfl ?_
  refine jv_getf (fk := 0) C (by decide) h0 rfl in_X8_keep_8 (by decide) (by decide +kernel) rfl rfl dX8_keep_15 ?_
  refine jv_callV (na := 1) (As := [.ref 1]) (st := []) C (c_X0_copyOf_37 l D kp h37 h38 h39 h40 h41 h42 h43 h1 h2 h3 h4 h5 h6 h7  ) gX8_keep_X0_copyOf rfl (by decide) h37 rfl rfl rfl q_X0_copyOf rfl ⟨by decide, by decide⟩ ⟨by decide, by decide⟩ (fun _ h => absurd h List.not_mem_nil) (Nat.le_of_ble_eq_true rfl) rfl dX8_keep_18 (fun r n1 E_2 hp _ => ?_)
  obtain ⟨rfl, rfl, hf3, e4, ⟨g_11, e5⟩, ⟨g_12, e6⟩, ⟨g_13, e7⟩, ⟨g_14, e8⟩, ⟨g_15, e9⟩, ⟨g_16, e10⟩⟩ := hp
  show jv_V l D vwCl kp G 0 0 n E_2 21 [(2, .ref 37), (0, .ref 0), (1, .int 0)] []
  refine jv_aload_n C dX8_keep_21 1 rfl ?_
  refine jv_getf (fk := 3) C (by decide) ((hf3 0 (by decide) (by decide) (by decide) (by decide) (by decide) (by decide) (by decide)).trans h0) rfl in_X8_keep_8 (by decide) (by decide +kernel) rfl rfl dX8_keep_22 ?_
  refine jv_iload_n C dX8_keep_25 2 rfl ?_
  refine jv_iconst (v := 1) C dX8_keep_26 (by decide) ?_
  refine jv_zast C (by decide) ((hf3 16 (by decide) (by decide) (by decide) (by decide) (by decide) (by decide) (by decide)).trans h16) (jv_vi (by decide)) dX8_keep_27 ?_
  refine jv_iconst (v := 0) C dX8_keep_28 (by decide) ?_
  exact jv_iret C B ⟨rfl, fun j h => ((va_up_ne _ _ (by omega)).trans (hf3 j (by omega) (by omega) (by omega) (by omega) (by omega) (by omega) (by omega)))⟩ ⟨by decide, by decide⟩ dX8_keep_29
theorem in_X8_back_8 : ∀ w ∈ u_ws RX8 TX8 11, w ∈ wsX8_back := by decide +kernel
set_option maxRecDepth 100000 in
set_option maxHeartbeats 8000000 in
theorem c_X8_back_0 (l : Launch) (D : va_G) (kp : Nat → ClassId) {n : Nat} {E : Nat → jv_E} (h0 : E 0 = cx0) (h15 : E 15 = cx15) (h16 : E 16 = cx16)  : jv_M l D vwCl kp yX8_back wsX8_back rm2 [] [.ref 0, .int 0] n E 0 0 (fun r n1 E1 => some (.int (-6)) = r ∧ n = n1 ∧ E = E1) := by
  refine jv_of (by decide) rfl (Nat.le_of_ble_eq_true rfl) (fun G C B hI hnl => ?_)
  show jv_V l D vwCl kp G 0 0 n E 0 [(0, .ref 0), (1, .int 0)] []
  refine jv_aload_n C dX8_back_0 0 rfl ?_
  refine jv_iload_n C dX8_back_1 1 rfl ?_
  refine jv_callV (na := 1) (As := [.int 0]) (st := []) C (c_X8_imageAt_0 l D kp h0 h15  ) gX8_back_X8_imageAt rfl (by decide) h0 rfl rfl rfl q_X8_imageAt rfl ⟨by decide, by decide⟩ ⟨by decide, by decide⟩ (fun _ h => absurd h List.not_mem_nil) (Nat.le_of_ble_eq_true rfl) rfl dX8_back_2 (fun r n1 E_1 hp _ => ?_)
  obtain ⟨rfl, rfl, rfl⟩ := hp
  show jv_V l D vwCl kp G 0 0 n E 5 [(0, .ref 0), (1, .int 0)] [.ref 37]
  refine jv_astore_n (lv2 := [(2, .ref 37), (0, .ref 0), (1, .int 0)]) C dX8_back_5 rfl hnl (by decide) rfl ?_
  refine jv_aload_n C dX8_back_6 0 rfl ?_
  refine jv_ifnonnull (tgt := 13) C dX8_back_7 (by decide) ?_
  refine jv_aload_n C dX8_back_13 1 rfl ?_
  refine jv_getf (fk := 3) C (by decide) h0 rfl in_X8_back_8 (by decide) (by decide +kernel) rfl rfl dX8_back_14 ?_
  refine jv_iload_n C dX8_back_17 2 rfl ?_
  refine jv_zald C (by decide) h16 (jv_vi (by decide)) dX8_back_18 ?_
  refine jv_ti (y := 0) (by decide) ?_
  refine jv_if_ne (tgt := 25) C dX8_back_19 (by decide) (fun h => absurd h (by decide)) (fun _ => ?_)
  refine jv_bipush (v := (-6)) C dX8_back_22 (by decide) ?_
  exact jv_iret C B ⟨rfl, rfl, rfl⟩ ⟨by decide, by decide⟩ dX8_back_24
set_option maxRecDepth 100000 in
set_option maxHeartbeats 8000000 in
theorem c_X8_keep_1 (l : Launch) (D : va_G) (kp : Nat → ClassId) {n : Nat} {E : Nat → jv_E} (h0 : E 0 = cx0) (h15 : E 15 = cx15) (h16 : E 16 = cx16) (h1 : E 1 = cx1) (h2 : E 2 = cx2) (h3 : E 3 = cx3) (h4 : E 4 = cx4) (h5 : E 5 = cx5) (h6 : E 6 = cx6) (h7 : E 7 = cx7) (h44 : E 44 = cx44) (h45 : E 45 = cx45) (h46 : E 46 = cx46) (h47 : E 47 = cx47) (h48 : E 48 = cx48) (h49 : E 49 = cx49) (h50 : E 50 = cx50)  : jv_M l D vwCl kp yX8_keep wsX8_keep rm2 [] [.ref 0, .int 1] n E 0 0 (fun r n1 E1 => some (.int 0) = r ∧ ∀ j, 58 ≤ j → E1 j = E j) := by
  refine jv_of (by decide) rfl (Nat.le_of_ble_eq_true rfl) (fun G C B hI hnl => ?_)
  show jv_V l D vwCl kp G 0 0 n E 0 [(0, .ref 0), (1, .int 1)] []
  refine jv_aload_n C dX8_keep_0 0 rfl ?_
  refine jv_iload_n C dX8_keep_1 1 rfl ?_
  refine jv_callV (na := 1) (As := [.int 1]) (st := []) C (c_X8_imageAt_1 l D kp h0 h15  ) gX8_keep_X8_imageAt rfl (by decide) h0 rfl rfl rfl q_X8_imageAt rfl ⟨by decide, by decide⟩ ⟨by decide, by decide⟩ (fun _ h => absurd h List.not_mem_nil) (Nat.le_of_ble_eq_true rfl) rfl dX8_keep_2 (fun r n1 E_1 hp _ => ?_)
  obtain ⟨rfl, rfl, rfl⟩ := hp
  show jv_V l D vwCl kp G 0 0 n E 5 [(0, .ref 0), (1, .int 1)] [.ref 44]
  refine jv_astore_n (lv2 := [(2, .ref 44), (0, .ref 0), (1, .int 1)]) C dX8_keep_5 rfl hnl (by decide) rfl ?_
  refine jv_aload_n C dX8_keep_6 0 rfl ?_
  refine jv_ifnonnull (tgt := 13) C dX8_keep_7 (by decide) ?_
  refine jv_aload_n C dX8_keep_13 0 rfl ?_
  refine jv_aload_n C dX8_keep_14 1 rfl ?_
  refine jv_getf (fk := 0) C (by decide) h0 rfl in_X8_keep_8 (by decide) (by decide +kernel) rfl rfl dX8_keep_15 ?_
  refine jv_callV (na := 1) (As := [.ref 1]) (st := []) C (c_X0_copyOf_44 l D kp h44 h45 h46 h47 h48 h49 h50 h1 h2 h3 h4 h5 h6 h7  ) gX8_keep_X0_copyOf rfl (by decide) h44 rfl rfl rfl q_X0_copyOf rfl ⟨by decide, by decide⟩ ⟨by decide, by decide⟩ (fun _ h => absurd h List.not_mem_nil) (Nat.le_of_ble_eq_true rfl) rfl dX8_keep_18 (fun r n1 E_2 hp _ => ?_)
  obtain ⟨rfl, rfl, hf3, e4, ⟨g_11, e5⟩, ⟨g_12, e6⟩, ⟨g_13, e7⟩, ⟨g_14, e8⟩, ⟨g_15, e9⟩, ⟨g_16, e10⟩⟩ := hp
  show jv_V l D vwCl kp G 0 0 n E_2 21 [(2, .ref 44), (0, .ref 0), (1, .int 1)] []
  refine jv_aload_n C dX8_keep_21 1 rfl ?_
  refine jv_getf (fk := 3) C (by decide) ((hf3 0 (by decide) (by decide) (by decide) (by decide) (by decide) (by decide) (by decide)).trans h0) rfl in_X8_keep_8 (by decide) (by decide +kernel) rfl rfl dX8_keep_22 ?_
  refine jv_iload_n C dX8_keep_25 2 rfl ?_
  refine jv_iconst (v := 1) C dX8_keep_26 (by decide) ?_
  refine jv_zast C (by decide) ((hf3 16 (by decide) (by decide) (by decide) (by decide) (by decide) (by decide) (by decide)).trans h16) (jv_vi (by decide)) dX8_keep_27 ?_
  refine jv_iconst (v := 0) C dX8_keep_28 (by decide) ?_
  exact jv_iret C B ⟨rfl, fun j h => ((va_up_ne _ _ (by omega)).trans (hf3 j (by omega) (by omega) (by omega) (by omega) (by omega) (by omega) (by omega)))⟩ ⟨by decide, by decide⟩ dX8_keep_29
set_option maxRecDepth 100000 in
set_option maxHeartbeats 8000000 in
theorem c_X8_back_1 (l : Launch) (D : va_G) (kp : Nat → ClassId) {n : Nat} {E : Nat → jv_E} (h0 : E 0 = cx0) (h15 : E 15 = cx15) (h16 : E 16 = cx16)  : jv_M l D vwCl kp yX8_back wsX8_back rm2 [] [.ref 0, .int 1] n E 0 0 (fun r n1 E1 => some (.int (-6)) = r ∧ n = n1 ∧ E = E1) := by
  refine jv_of (by decide) rfl (Nat.le_of_ble_eq_true rfl) (fun G C B hI hnl => ?_)
  show jv_V l D vwCl kp G 0 0 n E 0 [(0, .ref 0), (1, .int 1)] []
  refine jv_aload_n C dX8_back_0 0 rfl ?_
  refine jv_iload_n C dX8_back_1 1 rfl ?_
  refine jv_callV (na := 1) (As := [.int 1]) (st := []) C (c_X8_imageAt_1 l D kp h0 h15  ) gX8_back_X8_imageAt rfl (by decide) h0 rfl rfl rfl q_X8_imageAt rfl ⟨by decide, by decide⟩ ⟨by decide, by decide⟩ (fun _ h => absurd h List.not_mem_nil) (Nat.le_of_ble_eq_true rfl) rfl dX8_back_2 (fun r n1 E_1 hp _ => ?_)
  obtain ⟨rfl, rfl, rfl⟩ := hp
  show jv_V l D vwCl kp G 0 0 n E 5 [(0, .ref 0), (1, .int 1)] [.ref 44]
  refine jv_astore_n (lv2 := [(2, .ref 44), (0, .ref 0), (1, .int 1)]) C dX8_back_5 rfl hnl (by decide) rfl ?_
  refine jv_aload_n C dX8_back_6 0 rfl ?_
  refine jv_ifnonnull (tgt := 13) C dX8_back_7 (by decide) ?_
  refine jv_aload_n C dX8_back_13 1 rfl ?_
  refine jv_getf (fk := 3) C (by decide) h0 rfl in_X8_back_8 (by decide) (by decide +kernel) rfl rfl dX8_back_14 ?_
  refine jv_iload_n C dX8_back_17 2 rfl ?_
  refine jv_zald C (by decide) h16 (jv_vi (by decide)) dX8_back_18 ?_
  refine jv_ti (y := 0) (by decide) ?_
  refine jv_if_ne (tgt := 25) C dX8_back_19 (by decide) (fun h => absurd h (by decide)) (fun _ => ?_)
  refine jv_bipush (v := (-6)) C dX8_back_22 (by decide) ?_
  exact jv_iret C B ⟨rfl, rfl, rfl⟩ ⟨by decide, by decide⟩ dX8_back_24
set_option maxRecDepth 100000 in
set_option maxHeartbeats 8000000 in
theorem c_X8_keep_2 (l : Launch) (D : va_G) (kp : Nat → ClassId) {n : Nat} {E : Nat → jv_E} (h0 : E 0 = cx0) (h15 : E 15 = cx15) (h16 : E 16 = cx16) (h1 : E 1 = cx1) (h2 : E 2 = cx2) (h3 : E 3 = cx3) (h4 : E 4 = cx4) (h5 : E 5 = cx5) (h6 : E 6 = cx6) (h7 : E 7 = cx7) (h51 : E 51 = cx51) (h52 : E 52 = cx52) (h53 : E 53 = cx53) (h54 : E 54 = cx54) (h55 : E 55 = cx55) (h56 : E 56 = cx56) (h57 : E 57 = cx57)  : jv_M l D vwCl kp yX8_keep wsX8_keep rm2 [] [.ref 0, .int 2] n E 0 0 (fun r n1 E1 => some (.int 0) = r ∧ ∀ j, 58 ≤ j → E1 j = E j) := by
  refine jv_of (by decide) rfl (Nat.le_of_ble_eq_true rfl) (fun G C B hI hnl => ?_)
  show jv_V l D vwCl kp G 0 0 n E 0 [(0, .ref 0), (1, .int 2)] []
  refine jv_aload_n C dX8_keep_0 0 rfl ?_
  refine jv_iload_n C dX8_keep_1 1 rfl ?_
  refine jv_callV (na := 1) (As := [.int 2]) (st := []) C (c_X8_imageAt_2 l D kp h0 h15  ) gX8_keep_X8_imageAt rfl (by decide) h0 rfl rfl rfl q_X8_imageAt rfl ⟨by decide, by decide⟩ ⟨by decide, by decide⟩ (fun _ h => absurd h List.not_mem_nil) (Nat.le_of_ble_eq_true rfl) rfl dX8_keep_2 (fun r n1 E_1 hp _ => ?_)
  obtain ⟨rfl, rfl, rfl⟩ := hp
  show jv_V l D vwCl kp G 0 0 n E 5 [(0, .ref 0), (1, .int 2)] [.ref 51]
  refine jv_astore_n (lv2 := [(2, .ref 51), (0, .ref 0), (1, .int 2)]) C dX8_keep_5 rfl hnl (by decide) rfl ?_
  refine jv_aload_n C dX8_keep_6 0 rfl ?_
  refine jv_ifnonnull (tgt := 13) C dX8_keep_7 (by decide) ?_
  refine jv_aload_n C dX8_keep_13 0 rfl ?_
  refine jv_aload_n C dX8_keep_14 1 rfl ?_
  refine jv_getf (fk := 0) C (by decide) h0 rfl in_X8_keep_8 (by decide) (by decide +kernel) rfl rfl dX8_keep_15 ?_
  refine jv_callV (na := 1) (As := [.ref 1]) (st := []) C (c_X0_copyOf_51 l D kp h51 h52 h53 h54 h55 h56 h57 h1 h2 h3 h4 h5 h6 h7  ) gX8_keep_X0_copyOf rfl (by decide) h51 rfl rfl rfl q_X0_copyOf rfl ⟨by decide, by decide⟩ ⟨by decide, by decide⟩ (fun _ h => absurd h List.not_mem_nil) (Nat.le_of_ble_eq_true rfl) rfl dX8_keep_18 (fun r n1 E_2 hp _ => ?_)
  obtain ⟨rfl, rfl, hf3, e4, ⟨g_11, e5⟩, ⟨g_12, e6⟩, ⟨g_13, e7⟩, ⟨g_14, e8⟩, ⟨g_15, e9⟩, ⟨g_16, e10⟩⟩ := hp
  show jv_V l D vwCl kp G 0 0 n E_2 21 [(2, .ref 51), (0, .ref 0), (1, .int 2)] []
  refine jv_aload_n C dX8_keep_21 1 rfl ?_
  refine jv_getf (fk := 3) C (by decide) ((hf3 0 (by decide) (by decide) (by decide) (by decide) (by decide) (by decide) (by decide)).trans h0) rfl in_X8_keep_8 (by decide) (by decide +kernel) rfl rfl dX8_keep_22 ?_
  refine jv_iload_n C dX8_keep_25 2 rfl ?_
  refine jv_iconst (v := 1) C dX8_keep_26 (by decide) ?_
  refine jv_zast C (by decide) ((hf3 16 (by decide) (by decide) (by decide) (by decide) (by decide) (by decide) (by decide)).trans h16) (jv_vi (by decide)) dX8_keep_27 ?_
  refine jv_iconst (v := 0) C dX8_keep_28 (by decide) ?_
  exact jv_iret C B ⟨rfl, fun j h => ((va_up_ne _ _ (by omega)).trans (hf3 j (by omega) (by omega) (by omega) (by omega) (by omega) (by omega) (by omega)))⟩ ⟨by decide, by decide⟩ dX8_keep_29
set_option maxRecDepth 100000 in
set_option maxHeartbeats 8000000 in
theorem c_X8_back_2 (l : Launch) (D : va_G) (kp : Nat → ClassId) {n : Nat} {E : Nat → jv_E} (h0 : E 0 = cx0) (h15 : E 15 = cx15) (h16 : E 16 = cx16)  : jv_M l D vwCl kp yX8_back wsX8_back rm2 [] [.ref 0, .int 2] n E 0 0 (fun r n1 E1 => some (.int (-6)) = r ∧ n = n1 ∧ E = E1) := by
  refine jv_of (by decide) rfl (Nat.le_of_ble_eq_true rfl) (fun G C B hI hnl => ?_)
  show jv_V l D vwCl kp G 0 0 n E 0 [(0, .ref 0), (1, .int 2)] []
  refine jv_aload_n C dX8_back_0 0 rfl ?_
  refine jv_iload_n C dX8_back_1 1 rfl ?_
  refine jv_callV (na := 1) (As := [.int 2]) (st := []) C (c_X8_imageAt_2 l D kp h0 h15  ) gX8_back_X8_imageAt rfl (by decide) h0 rfl rfl rfl q_X8_imageAt rfl ⟨by decide, by decide⟩ ⟨by decide, by decide⟩ (fun _ h => absurd h List.not_mem_nil) (Nat.le_of_ble_eq_true rfl) rfl dX8_back_2 (fun r n1 E_1 hp _ => ?_)
  obtain ⟨rfl, rfl, rfl⟩ := hp
  show jv_V l D vwCl kp G 0 0 n E 5 [(0, .ref 0), (1, .int 2)] [.ref 51]
  refine jv_astore_n (lv2 := [(2, .ref 51), (0, .ref 0), (1, .int 2)]) C dX8_back_5 rfl hnl (by decide) rfl ?_
  refine jv_aload_n C dX8_back_6 0 rfl ?_
  refine jv_ifnonnull (tgt := 13) C dX8_back_7 (by decide) ?_
  refine jv_aload_n C dX8_back_13 1 rfl ?_
  refine jv_getf (fk := 3) C (by decide) h0 rfl in_X8_back_8 (by decide) (by decide +kernel) rfl rfl dX8_back_14 ?_
  refine jv_iload_n C dX8_back_17 2 rfl ?_
  refine jv_zald C (by decide) h16 (jv_vi (by decide)) dX8_back_18 ?_
  refine jv_ti (y := 0) (by decide) ?_
  refine jv_if_ne (tgt := 25) C dX8_back_19 (by decide) (fun h => absurd h (by decide)) (fun _ => ?_)
  refine jv_bipush (v := (-6)) C dX8_back_22 (by decide) ?_
  exact jv_iret C B ⟨rfl, rfl, rfl⟩ ⟨by decide, by decide⟩ dX8_back_24
set_option maxRecDepth 100000 in
set_option maxHeartbeats 8000000 in
theorem c_X8_keep_neg (l : Launch) (D : va_G) (kp : Nat → ClassId) {n : Nat} {E : Nat → jv_E} (h0 : E 0 = cx0) (h15 : E 15 = cx15) (p1 : Int32) (ho : p1.toInt < 0) : jv_M l D vwCl kp yX8_keep wsX8_keep rm2 [] [.ref 0, .int p1] n E 0 0 (fun r n1 E1 => some (.int (-2)) = r ∧ n = n1 ∧ E = E1) := by
  refine jv_of (by decide) rfl (Nat.le_of_ble_eq_true rfl) (fun G C B hI hnl => ?_)
  show jv_V l D vwCl kp G 0 0 n E 0 [(0, .ref 0), (1, .int p1)] []
  refine jv_aload_n C dX8_keep_0 0 rfl ?_
  refine jv_iload_n C dX8_keep_1 1 rfl ?_
  refine jv_callV (na := 1) (As := [.int p1]) (st := []) C (c_X8_imageAt_neg l D kp h0 h15 p1 ho) gX8_keep_X8_imageAt rfl (by decide) h0 rfl rfl rfl q_X8_imageAt rfl ⟨by decide, by decide⟩ ⟨by decide, by decide⟩ (fun _ h => absurd h List.not_mem_nil) (Nat.le_of_ble_eq_true rfl) rfl dX8_keep_2 (fun r n1 E_1 hp _ => ?_)
  obtain ⟨rfl, rfl, rfl⟩ := hp
  show jv_V l D vwCl kp G 0 0 n E 5 [(0, .ref 0), (1, .int p1)] [.null]
  refine jv_astore_nN (lv2 := [(2, .null), (0, .ref 0), (1, .int p1)]) C dX8_keep_5 rfl hnl (by decide) rfl ?_
  refine jv_aload_nN C dX8_keep_6 0 rfl ?_
  refine jv_ifnonnullN C dX8_keep_7 ?_
  refine jv_bipush (v := (-2)) C dX8_keep_10 (by decide) ?_
  exact jv_iret C B ⟨rfl, rfl, rfl⟩ ⟨by decide, by decide⟩ dX8_keep_12
set_option maxRecDepth 100000 in
set_option maxHeartbeats 8000000 in
theorem c_X8_back_neg (l : Launch) (D : va_G) (kp : Nat → ClassId) {n : Nat} {E : Nat → jv_E} (h0 : E 0 = cx0) (h15 : E 15 = cx15) (p1 : Int32) (ho : p1.toInt < 0) : jv_M l D vwCl kp yX8_back wsX8_back rm2 [] [.ref 0, .int p1] n E 0 0 (fun r n1 E1 => some (.int (-2)) = r ∧ n = n1 ∧ E = E1) := by
  refine jv_of (by decide) rfl (Nat.le_of_ble_eq_true rfl) (fun G C B hI hnl => ?_)
  show jv_V l D vwCl kp G 0 0 n E 0 [(0, .ref 0), (1, .int p1)] []
  refine jv_aload_n C dX8_back_0 0 rfl ?_
  refine jv_iload_n C dX8_back_1 1 rfl ?_
  refine jv_callV (na := 1) (As := [.int p1]) (st := []) C (c_X8_imageAt_neg l D kp h0 h15 p1 ho) gX8_back_X8_imageAt rfl (by decide) h0 rfl rfl rfl q_X8_imageAt rfl ⟨by decide, by decide⟩ ⟨by decide, by decide⟩ (fun _ h => absurd h List.not_mem_nil) (Nat.le_of_ble_eq_true rfl) rfl dX8_back_2 (fun r n1 E_1 hp _ => ?_)
  obtain ⟨rfl, rfl, rfl⟩ := hp
  show jv_V l D vwCl kp G 0 0 n E 5 [(0, .ref 0), (1, .int p1)] [.null]
  refine jv_astore_nN (lv2 := [(2, .null), (0, .ref 0), (1, .int p1)]) C dX8_back_5 rfl hnl (by decide) rfl ?_
  refine jv_aload_nN C dX8_back_6 0 rfl ?_
  refine jv_ifnonnullN C dX8_back_7 ?_
  refine jv_bipush (v := (-2)) C dX8_back_10 (by decide) ?_
  exact jv_iret C B ⟨rfl, rfl, rfl⟩ ⟨by decide, by decide⟩ dX8_back_12
set_option maxRecDepth 100000 in
set_option maxHeartbeats 8000000 in
theorem c_X8_keep_big (l : Launch) (D : va_G) (kp : Nat → ClassId) {n : Nat} {E : Nat → jv_E} (h0 : E 0 = cx0) (h15 : E 15 = cx15) (p1 : Int32) (ho : 2 < p1.toInt) : jv_M l D vwCl kp yX8_keep wsX8_keep rm2 [] [.ref 0, .int p1] n E 0 0 (fun r n1 E1 => some (.int (-2)) = r ∧ n = n1 ∧ E = E1) := by
  refine jv_of (by decide) rfl (Nat.le_of_ble_eq_true rfl) (fun G C B hI hnl => ?_)
  show jv_V l D vwCl kp G 0 0 n E 0 [(0, .ref 0), (1, .int p1)] []
  refine jv_aload_n C dX8_keep_0 0 rfl ?_
  refine jv_iload_n C dX8_keep_1 1 rfl ?_
  refine jv_callV (na := 1) (As := [.int p1]) (st := []) C (c_X8_imageAt_big l D kp h0 h15 p1 ho) gX8_keep_X8_imageAt rfl (by decide) h0 rfl rfl rfl q_X8_imageAt rfl ⟨by decide, by decide⟩ ⟨by decide, by decide⟩ (fun _ h => absurd h List.not_mem_nil) (Nat.le_of_ble_eq_true rfl) rfl dX8_keep_2 (fun r n1 E_1 hp _ => ?_)
  obtain ⟨rfl, rfl, rfl⟩ := hp
  show jv_V l D vwCl kp G 0 0 n E 5 [(0, .ref 0), (1, .int p1)] [.null]
  refine jv_astore_nN (lv2 := [(2, .null), (0, .ref 0), (1, .int p1)]) C dX8_keep_5 rfl hnl (by decide) rfl ?_
  refine jv_aload_nN C dX8_keep_6 0 rfl ?_
  refine jv_ifnonnullN C dX8_keep_7 ?_
  refine jv_bipush (v := (-2)) C dX8_keep_10 (by decide) ?_
  exact jv_iret C B ⟨rfl, rfl, rfl⟩ ⟨by decide, by decide⟩ dX8_keep_12
set_option maxRecDepth 100000 in
set_option maxHeartbeats 8000000 in
theorem c_X8_back_big (l : Launch) (D : va_G) (kp : Nat → ClassId) {n : Nat} {E : Nat → jv_E} (h0 : E 0 = cx0) (h15 : E 15 = cx15) (p1 : Int32) (ho : 2 < p1.toInt) : jv_M l D vwCl kp yX8_back wsX8_back rm2 [] [.ref 0, .int p1] n E 0 0 (fun r n1 E1 => some (.int (-2)) = r ∧ n = n1 ∧ E = E1) := by
  refine jv_of (by decide) rfl (Nat.le_of_ble_eq_true rfl) (fun G C B hI hnl => ?_)
  show jv_V l D vwCl kp G 0 0 n E 0 [(0, .ref 0), (1, .int p1)] []
  refine jv_aload_n C dX8_back_0 0 rfl ?_
  refine jv_iload_n C dX8_back_1 1 rfl ?_
  refine jv_callV (na := 1) (As := [.int p1]) (st := []) C (c_X8_imageAt_big l D kp h0 h15 p1 ho) gX8_back_X8_imageAt rfl (by decide) h0 rfl rfl rfl q_X8_imageAt rfl ⟨by decide, by decide⟩ ⟨by decide, by decide⟩ (fun _ h => absurd h List.not_mem_nil) (Nat.le_of_ble_eq_true rfl) rfl dX8_back_2 (fun r n1 E_1 hp _ => ?_)
  obtain ⟨rfl, rfl, rfl⟩ := hp
  show jv_V l D vwCl kp G 0 0 n E 5 [(0, .ref 0), (1, .int p1)] [.null]
  refine jv_astore_nN (lv2 := [(2, .null), (0, .ref 0), (1, .int p1)]) C dX8_back_5 rfl hnl (by decide) rfl ?_
  refine jv_aload_nN C dX8_back_6 0 rfl ?_
  refine jv_ifnonnullN C dX8_back_7 ?_
  refine jv_bipush (v := (-2)) C dX8_back_10 (by decide) ?_
  exact jv_iret C B ⟨rfl, rfl, rfl⟩ ⟨by decide, by decide⟩ dX8_back_12
theorem in_X4_isFilled_4 : ∀ w ∈ u_ws RX4 TX4 3, w ∈ wsX4_isFilled := by decide +kernel
set_option maxRecDepth 100000 in
set_option maxHeartbeats 8000000 in
theorem c_X4_isFilled (l : Launch) (D : va_G) (kp : Nat → ClassId) {n : Nat} {E : Nat → jv_E} (h33 : E 33 = cx33) (h35 : E 35 = cx35) (p1 : Int32) : jv_M l D vwCl kp yX4_isFilled wsX4_isFilled rm2 [] [.ref 33, .int p1] n E 0 0 (fun r n1 E1 => some (.int 0) = r ∧ n = n1 ∧ E = E1) := by
  refine jv_of (by decide) rfl (Nat.le_of_ble_eq_true rfl) (fun G C B hI hnl => ?_)
  show jv_V l D vwCl kp G 0 0 n E 0 [(0, .ref 33), (1, .int p1)] []
  refine jv_aload_n C dX4_isFilled_0 0 rfl ?_
  refine jv_iload_n C dX4_isFilled_1 1 rfl ?_
  refine jv_callV (na := 1) (As := [.int p1]) (st := []) C (c_X4_isSlot l D kp h33 p1) gX4_isFilled_X4_isSlot rfl (by decide) h33 rfl rfl rfl q_X4_isSlot rfl ⟨by decide, by decide⟩ ⟨by decide, by decide⟩ (fun _ h => absurd h List.not_mem_nil) (Nat.le_of_ble_eq_true rfl) rfl dX4_isFilled_2 (fun r n1 E_1 hp _ => ?_)
  obtain ⟨⟨rfl, q2⟩ | ⟨rfl, q2⟩, rfl, rfl⟩ := hp
  · show jv_V l D vwCl kp G 0 0 n E 5 [(0, .ref 33), (1, .int p1)] [.int 1]
    refine jv_if_eq (tgt := 22) C dX4_isFilled_5 (by decide) (fun h => absurd h (by decide)) (fun _ => ?_)
    refine jv_aload_n C dX4_isFilled_8 0 rfl ?_
    refine jv_getf (fk := 1) C (by decide) h33 rfl in_X4_isFilled_4 (by decide) (by decide +kernel) rfl rfl dX4_isFilled_9 ?_
    refine jv_iload_n C dX4_isFilled_12 1 rfl ?_
    refine jv_iald C (by decide) h35 (vp_in_iff.mpr (by have a0 := q2; omega)) dX4_isFilled_13 ?_
    refine jv_ti (y := (-1)) (jx_w4 (vp_in_iff.mpr (by have a0 := q2; omega))) ?_
    refine jv_iconst (v := (-1)) C dX4_isFilled_14 (by decide) ?_
    refine jv_icmp_eq (tgt := 22) C dX4_isFilled_15 (by decide) (fun _ => ?_) (fun h => absurd (by decide) h)
    refine jv_iconst (v := 0) C dX4_isFilled_22 (by decide) ?_
    exact jv_zret C B (by decide) ⟨rfl, rfl, rfl⟩ ⟨by decide, by decide⟩ dX4_isFilled_23
  · show jv_V l D vwCl kp G 0 0 n E 5 [(0, .ref 33), (1, .int p1)] [.int 0]
    refine jv_if_eq (tgt := 22) C dX4_isFilled_5 (by decide) (fun _ => ?_) (fun h => absurd (by decide) h)
    refine jv_iconst (v := 0) C dX4_isFilled_22 (by decide) ?_
    exact jv_zret C B (by decide) ⟨rfl, rfl, rfl⟩ ⟨by decide, by decide⟩ dX4_isFilled_23
theorem q_X4_isFilled : yX4_isFilled.cls ≠ "java/lang/invoke/MethodHandle" ∧ yX4_isFilled.cls ≠ "java/lang/invoke/VarHandle" ∧ (parseMethodDescriptor yX4_isFilled.desc).map (fun d => d.parameters.length) = some 1 := by decide +kernel
theorem in_X8_write_8 : ∀ w ∈ u_ws RX8 TX8 11, w ∈ wsX8_write := by decide +kernel
set_option maxRecDepth 100000 in
set_option maxHeartbeats 8000000 in
theorem c_X8_write (l : Launch) (D : va_G) (kp : Nat → ClassId) {n : Nat} {E : Nat → jv_E} (h0 : E 0 = cx0) (h33 : E 33 = cx33) (h35 : E 35 = cx35) (p1 : Int32) (p2 : Int32) (p3 : Int64) : jv_M l D vwCl kp yX8_write wsX8_write rm3 [] [.ref 0, .int p1, .int p2, .long p3] n E 0 0 (fun r n1 E1 => some (.int (jr_slot p1)) = r ∧ n = n1 ∧ E = E1) := by
  refine jv_of (by decide) rfl (Nat.le_of_ble_eq_true rfl) (fun G C B hI hnl => ?_)
  show jv_V l D vwCl kp G 0 0 n E 0 [(0, .ref 0), (1, .int p1), (2, .int p2), (3, .long p3)] []
  refine jv_aload_n C dX8_write_0 0 rfl ?_
  refine jv_getf (fk := 10) C (by decide) h0 rfl in_X8_write_8 (by decide) (by decide +kernel) rfl rfl dX8_write_1 ?_
  refine jv_iload_n C dX8_write_4 1 rfl ?_
  refine jv_callV (na := 1) (As := [.int p1]) (st := []) C (c_X4_isSlot l D kp h33 p1) gX8_write_X4_isSlot rfl (by decide) h33 rfl rfl rfl q_X4_isSlot rfl ⟨by decide, by decide⟩ ⟨by decide, by decide⟩ (fun _ h => absurd h List.not_mem_nil) (Nat.le_of_ble_eq_true rfl) rfl dX8_write_5 (fun r n1 E_1 hp _ => ?_)
  obtain ⟨⟨rfl, q2⟩ | ⟨rfl, q2⟩, rfl, rfl⟩ := hp
  · show jv_V l D vwCl kp G 0 0 n E 8 [(0, .ref 0), (1, .int p1), (2, .int p2), (3, .long p3)] [.int 1]
    refine jv_if_ne (tgt := 14) C dX8_write_8 (by decide) (fun _ => ?_) (fun h => absurd h (by decide))
    refine jv_aload_n C dX8_write_14 0 rfl ?_
    refine jv_getf (fk := 10) C (by decide) h0 rfl in_X8_write_8 (by decide) (by decide +kernel) rfl rfl dX8_write_15 ?_
    refine jv_iload_n C dX8_write_18 1 rfl ?_
    refine jv_callV (na := 1) (As := [.int p1]) (st := []) C (c_X4_isFilled l D kp h33 h35 p1 ) gX8_write_X4_isFilled rfl (by decide) h33 rfl rfl rfl q_X4_isFilled rfl ⟨by decide, by decide⟩ ⟨by decide, by decide⟩ (fun _ h => absurd h List.not_mem_nil) (Nat.le_of_ble_eq_true rfl) rfl dX8_write_19 (fun r n1 E_3 hp _ => ?_)
    obtain ⟨rfl, rfl, rfl⟩ := hp
    show jv_V l D vwCl kp G 0 0 n E 22 [(0, .ref 0), (1, .int p1), (2, .int p2), (3, .long p3)] [.int 0]
    refine jv_if_ne (tgt := 28) C dX8_write_22 (by decide) (fun h => absurd h (by decide)) (fun _ => ?_)
    refine jv_bipush (v := (-6)) C dX8_write_25 (by decide) ?_
    exact jv_iret C B ⟨(by have a0 := q2; simp only [jr_slot]; (repeat' split) <;> first | rfl | (exfalso; omega)), rfl, rfl⟩ ⟨by decide, by decide⟩ dX8_write_27
  · show jv_V l D vwCl kp G 0 0 n E 8 [(0, .ref 0), (1, .int p1), (2, .int p2), (3, .long p3)] [.int 0]
    refine jv_if_ne (tgt := 14) C dX8_write_8 (by decide) (fun h => absurd h (by decide)) (fun _ => ?_)
    refine jv_bipush (v := (-2)) C dX8_write_11 (by decide) ?_
    exact jv_iret C B ⟨(by have a0 := q2; simp only [jr_slot]; (repeat' split) <;> first | rfl | (exfalso; omega)), rfl, rfl⟩ ⟨by decide, by decide⟩ dX8_write_13
theorem in_X8_paste_8 : ∀ w ∈ u_ws RX8 TX8 11, w ∈ wsX8_paste := by decide +kernel
set_option maxRecDepth 100000 in
set_option maxHeartbeats 8000000 in
theorem c_X8_paste (l : Launch) (D : va_G) (kp : Nat → ClassId) {n : Nat} {E : Nat → jv_E} (h0 : E 0 = cx0) (h33 : E 33 = cx33) (h35 : E 35 = cx35) (p1 : Int32) (p2 : Int32) (p3 : Int32) (p4 : Int32) (p5 : Int32) : jv_M l D vwCl kp yX8_paste wsX8_paste rm3 [] [.ref 0, .int p1, .int p2, .int p3, .int p4, .int p5] n E 0 0 (fun r n1 E1 => some (.int (jr_paste p1 p3)) = r ∧ n = n1 ∧ E = E1) := by
  refine jv_of (by decide) rfl (Nat.le_of_ble_eq_true rfl) (fun G C B hI hnl => ?_)
  show jv_V l D vwCl kp G 0 0 n E 0 [(0, .ref 0), (1, .int p1), (2, .int p2), (3, .int p3), (4, .int p4), (5, .int p5)] []
  refine jv_aload_n C dX8_paste_0 0 rfl ?_
  refine jv_getf (fk := 10) C (by decide) h0 rfl in_X8_paste_8 (by decide) (by decide +kernel) rfl rfl dX8_paste_1 ?_
  refine jv_iload_n C dX8_paste_4 1 rfl ?_
  refine jv_callV (na := 1) (As := [.int p1]) (st := []) C (c_X4_isSlot l D kp h33 p1) gX8_paste_X4_isSlot rfl (by decide) h33 rfl rfl rfl q_X4_isSlot rfl ⟨by decide, by decide⟩ ⟨by decide, by decide⟩ (fun _ h => absurd h List.not_mem_nil) (Nat.le_of_ble_eq_true rfl) rfl dX8_paste_5 (fun r n1 E_1 hp _ => ?_)
  obtain ⟨⟨rfl, q2⟩ | ⟨rfl, q2⟩, rfl, rfl⟩ := hp
  · show jv_V l D vwCl kp G 0 0 n E 8 [(0, .ref 0), (1, .int p1), (2, .int p2), (3, .int p3), (4, .int p4), (5, .int p5)] [.int 1]
    refine jv_if_eq (tgt := 22) C dX8_paste_8 (by decide) (fun h => absurd h (by decide)) (fun _ => ?_)
    refine jv_aload_n C dX8_paste_11 0 rfl ?_
    refine jv_getf (fk := 10) C (by decide) h0 rfl in_X8_paste_8 (by decide) (by decide +kernel) rfl rfl dX8_paste_12 ?_
    refine jv_iload_n C dX8_paste_15 3 rfl ?_
    refine jv_callV (na := 1) (As := [.int p3]) (st := []) C (c_X4_isSlot l D kp h33 p3) gX8_paste_X4_isSlot rfl (by decide) h33 rfl rfl rfl q_X4_isSlot rfl ⟨by decide, by decide⟩ ⟨by decide, by decide⟩ (fun _ h => absurd h List.not_mem_nil) (Nat.le_of_ble_eq_true rfl) rfl dX8_paste_16 (fun r n1 E_3 hp _ => ?_)
    obtain ⟨⟨rfl, q4⟩ | ⟨rfl, q4⟩, rfl, rfl⟩ := hp
    · show jv_V l D vwCl kp G 0 0 n E 19 [(0, .ref 0), (1, .int p1), (2, .int p2), (3, .int p3), (4, .int p4), (5, .int p5)] [.int 1]
      refine jv_if_ne (tgt := 25) C dX8_paste_19 (by decide) (fun _ => ?_) (fun h => absurd h (by decide))
      refine jv_aload_n C dX8_paste_25 0 rfl ?_
      refine jv_getf (fk := 10) C (by decide) h0 rfl in_X8_paste_8 (by decide) (by decide +kernel) rfl rfl dX8_paste_26 ?_
      refine jv_iload_n C dX8_paste_29 1 rfl ?_
      refine jv_callV (na := 1) (As := [.int p1]) (st := []) C (c_X4_isFilled l D kp h33 h35 p1 ) gX8_paste_X4_isFilled rfl (by decide) h33 rfl rfl rfl q_X4_isFilled rfl ⟨by decide, by decide⟩ ⟨by decide, by decide⟩ (fun _ h => absurd h List.not_mem_nil) (Nat.le_of_ble_eq_true rfl) rfl dX8_paste_30 (fun r n1 E_5 hp _ => ?_)
      obtain ⟨rfl, rfl, rfl⟩ := hp
      show jv_V l D vwCl kp G 0 0 n E 33 [(0, .ref 0), (1, .int p1), (2, .int p2), (3, .int p3), (4, .int p4), (5, .int p5)] [.int 0]
      refine jv_if_eq (tgt := 47) C dX8_paste_33 (by decide) (fun _ => ?_) (fun h => absurd (by decide) h)
      refine jv_bipush (v := (-6)) C dX8_paste_47 (by decide) ?_
      exact jv_iret C B ⟨(by have a0 := q2; have a1 := q4; simp only [jr_paste]; (repeat' split) <;> first | rfl | (exfalso; omega)), rfl, rfl⟩ ⟨by decide, by decide⟩ dX8_paste_49
    · show jv_V l D vwCl kp G 0 0 n E 19 [(0, .ref 0), (1, .int p1), (2, .int p2), (3, .int p3), (4, .int p4), (5, .int p5)] [.int 0]
      refine jv_if_ne (tgt := 25) C dX8_paste_19 (by decide) (fun h => absurd h (by decide)) (fun _ => ?_)
      refine jv_bipush (v := (-2)) C dX8_paste_22 (by decide) ?_
      exact jv_iret C B ⟨(by have a0 := q2; have a1 := q4; simp only [jr_paste]; (repeat' split) <;> first | rfl | (exfalso; omega)), rfl, rfl⟩ ⟨by decide, by decide⟩ dX8_paste_24
  · show jv_V l D vwCl kp G 0 0 n E 8 [(0, .ref 0), (1, .int p1), (2, .int p2), (3, .int p3), (4, .int p4), (5, .int p5)] [.int 0]
    refine jv_if_eq (tgt := 22) C dX8_paste_8 (by decide) (fun _ => ?_) (fun h => absurd (by decide) h)
    refine jv_bipush (v := (-2)) C dX8_paste_22 (by decide) ?_
    exact jv_iret C B ⟨(by have a0 := q2; simp only [jr_paste]; (repeat' split) <;> first | rfl | (exfalso; omega)), rfl, rfl⟩ ⟨by decide, by decide⟩ dX8_paste_24
theorem q_X4_open : yX4_open.cls ≠ "java/lang/invoke/MethodHandle" ∧ yX4_open.cls ≠ "java/lang/invoke/VarHandle" ∧ (parseMethodDescriptor yX4_open.desc).map (fun d => d.parameters.length) = some 3 := by decide +kernel
theorem q_X8_isWithin : yX8_isWithin.cls ≠ "java/lang/invoke/MethodHandle" ∧ yX8_isWithin.cls ≠ "java/lang/invoke/VarHandle" ∧ (parseMethodDescriptor yX8_isWithin.desc).map (fun d => d.parameters.length) = some 2 := by decide +kernel
theorem in_X8_row_8 : ∀ w ∈ u_ws RX8 TX8 11, w ∈ wsX8_row := by decide +kernel
set_option maxRecDepth 100000 in
set_option maxHeartbeats 8000000 in
theorem c_X8_row (l : Launch) (D : va_G) (kp : Nat → ClassId) {n : Nat} {E : Nat → jv_E} (h0 : E 0 = cx0) (h33 : E 33 = cx33) (h34 : E 34 = cx34) (h35 : E 35 = cx35) (h36 : E 36 = cx36) (p1 : Int32) (p2 : Int32) (p3 : Int32) : jv_M l D vwCl kp yX8_row wsX8_row rm3 [] [.ref 0, .int p1, .int p2, .int p3] n E 0 0 (fun r n1 E1 => some (.int (jr_row p1 p2 p3)) = r ∧ ∀ j, 58 ≤ j → E1 j = E j) := by
  refine jv_of (by decide) rfl (Nat.le_of_ble_eq_true rfl) (fun G C B hI hnl => ?_)
  show jv_V l D vwCl kp G 0 0 n E 0 [(0, .ref 0), (1, .int p1), (2, .int p2), (3, .int p3)] []
  refine jv_aload_n C dX8_row_0 0 rfl ?_
  refine jv_getf (fk := 10) C (by decide) h0 rfl in_X8_row_8 (by decide) (by decide +kernel) rfl rfl dX8_row_1 ?_
  refine jv_iload_n C dX8_row_4 1 rfl ?_
  refine jv_callV (na := 1) (As := [.int p1]) (st := []) C (c_X4_isSlot l D kp h33 p1) gX8_row_X4_isSlot rfl (by decide) h33 rfl rfl rfl q_X4_isSlot rfl ⟨by decide, by decide⟩ ⟨by decide, by decide⟩ (fun _ h => absurd h List.not_mem_nil) (Nat.le_of_ble_eq_true rfl) rfl dX8_row_5 (fun r n1 E_1 hp _ => ?_)
  obtain ⟨⟨rfl, q2⟩ | ⟨rfl, q2⟩, rfl, rfl⟩ := hp
  · show jv_V l D vwCl kp G 0 0 n E 8 [(0, .ref 0), (1, .int p1), (2, .int p2), (3, .int p3)] [.int 1]
    refine jv_if_eq (tgt := 25) C dX8_row_8 (by decide) (fun h => absurd h (by decide)) (fun _ => ?_)
    refine jv_iload_n C dX8_row_11 2 rfl ?_
    refine jv_iconst (v := 3) C dX8_row_12 (by decide) ?_
    refine jv_callS (na := 2) (As := [.int p2, .int 3]) (st := []) C (c_X8_isWithin l D kp  p2 3) gX8_row_X8_isWithin rfl rfl rfl q_X8_isWithin rfl ⟨by decide, by decide⟩ ⟨by decide, by decide⟩ (fun _ h => absurd h List.not_mem_nil) (Nat.le_of_ble_eq_true rfl) rfl dX8_row_13 (fun r n1 E_3 hp _ => ?_)
    rw [show (3 : Int32).toInt = 3 from by decide] at hp
    obtain ⟨⟨rfl, q4⟩ | ⟨rfl, q4⟩, rfl, rfl⟩ := hp
    · show jv_V l D vwCl kp G 0 0 n E 16 [(0, .ref 0), (1, .int p1), (2, .int p2), (3, .int p3)] [.int 1]
      refine jv_if_eq (tgt := 25) C dX8_row_16 (by decide) (fun h => absurd h (by decide)) (fun _ => ?_)
      refine jv_iload_n C dX8_row_19 3 rfl ?_
      refine jv_bipush (v := 60) C dX8_row_20 (by decide) ?_
      refine jv_icmp_le (tgt := 28) C dX8_row_22 (by decide) (fun c5 => ?_) (fun c5 => ?_)
      · refine jv_iload_n C dX8_row_28 3 rfl ?_
        refine jv_if_ge (tgt := 35) C dX8_row_29 (by decide) (fun c6 => ?_) (fun c6 => ?_)
        · refine jv_aload_n C dX8_row_35 0 rfl ?_
          refine jv_getf (fk := 10) C (by decide) h0 rfl in_X8_row_8 (by decide) (by decide +kernel) rfl rfl dX8_row_36 ?_
          refine jv_iload_n C dX8_row_39 1 rfl ?_
          refine jv_iload_n C dX8_row_40 2 rfl ?_
          refine jv_iload_n C dX8_row_41 3 rfl ?_
          refine jv_callV (na := 3) (As := [.int p1, .int p2, .int p3]) (st := []) C (c_X4_open l D kp h33 h34 h35 h36 p1 p2 p3 (by have a0 := q2; have a1 := q4; have a2 := jv_i_le c5; have a3 := jv_i_le c6; have z0 : (0 : Int32).toInt = 0 := (by decide); have z60 : (60 : Int32).toInt = 60 := (by decide); omega) (by have a0 := q2; have a1 := q4; have a2 := jv_i_le c5; have a3 := jv_i_le c6; have z0 : (0 : Int32).toInt = 0 := (by decide); have z60 : (60 : Int32).toInt = 60 := (by decide); omega)) gX8_row_X4_open rfl (by decide) h33 rfl rfl rfl q_X4_open rfl ⟨by decide, by decide⟩ ⟨by decide, by decide⟩ (fun _ h => absurd h List.not_mem_nil) (Nat.le_of_ble_eq_true rfl) rfl dX8_row_42 (fun r n1 E_7 hp _ => ?_)
          obtain ⟨rfl, rfl, hf8⟩ := hp
          show jv_V l D vwCl kp G 0 0 n E_7 45 [(0, .ref 0), (1, .int p1), (2, .int p2), (3, .int p3)] []
          refine jv_iconst (v := 0) C dX8_row_45 (by decide) ?_
          exact jv_iret C B ⟨(by have a0 := q2; have a1 := q4; have a2 := jv_i_le c5; have a3 := jv_i_le c6; have z0 : (0 : Int32).toInt = 0 := (by decide); have z60 : (60 : Int32).toInt = 60 := (by decide); simp only [jr_row]; (repeat' split) <;> first | rfl | (exfalso; omega)), fun j h => (hf8 j (by omega) (by omega) (by omega))⟩ ⟨by decide, by decide⟩ dX8_row_46
        · refine jv_bipush (v := (-3)) C dX8_row_32 (by decide) ?_
          exact jv_iret C B ⟨(by have a0 := q2; have a1 := q4; have a2 := jv_i_le c5; have a3 := jv_i_nle c6; have z0 : (0 : Int32).toInt = 0 := (by decide); have z60 : (60 : Int32).toInt = 60 := (by decide); simp only [jr_row]; (repeat' split) <;> first | rfl | (exfalso; omega)), fun j h => rfl⟩ ⟨by decide, by decide⟩ dX8_row_34
      · refine jv_bipush (v := (-2)) C dX8_row_25 (by decide) ?_
        exact jv_iret C B ⟨(by have a0 := q2; have a1 := q4; have a2 := jv_i_nle c5; have z60 : (60 : Int32).toInt = 60 := (by decide); simp only [jr_row]; (repeat' split) <;> first | rfl | (exfalso; omega)), fun j h => rfl⟩ ⟨by decide, by decide⟩ dX8_row_27
    · show jv_V l D vwCl kp G 0 0 n E 16 [(0, .ref 0), (1, .int p1), (2, .int p2), (3, .int p3)] [.int 0]
      refine jv_if_eq (tgt := 25) C dX8_row_16 (by decide) (fun _ => ?_) (fun h => absurd (by decide) h)
      refine jv_bipush (v := (-2)) C dX8_row_25 (by decide) ?_
      exact jv_iret C B ⟨(by have a0 := q2; have a1 := q4; simp only [jr_row]; (repeat' split) <;> first | rfl | (exfalso; omega)), fun j h => rfl⟩ ⟨by decide, by decide⟩ dX8_row_27
  · show jv_V l D vwCl kp G 0 0 n E 8 [(0, .ref 0), (1, .int p1), (2, .int p2), (3, .int p3)] [.int 0]
    refine jv_if_eq (tgt := 25) C dX8_row_8 (by decide) (fun _ => ?_) (fun h => absurd (by decide) h)
    refine jv_bipush (v := (-2)) C dX8_row_25 (by decide) ?_
    exact jv_iret C B ⟨(by have a0 := q2; simp only [jr_row]; (repeat' split) <;> first | rfl | (exfalso; omega)), fun j h => rfl⟩ ⟨by decide, by decide⟩ dX8_row_27
theorem in_X0_pairs_0 : ∀ w ∈ u_ws RX0 TX0 16, w ∈ wsX0_pairs := by decide +kernel
set_option maxRecDepth 100000 in
set_option maxHeartbeats 8000000 in
theorem c_X0_pairs (l : Launch) (D : va_G) (kp : Nat → ClassId) {n : Nat} {E : Nat → jv_E} (h1 : E 1 = cx1)  : jv_M l D vwCl kp yX0_pairs wsX0_pairs rm1 [] [.ref 1] n E 0 0 (fun r n1 E1 => some (.int 0) = r ∧ n = n1 ∧ E = E1) := by
  refine jv_of (by decide) rfl (Nat.le_of_ble_eq_true rfl) (fun G C B hI hnl => ?_)
  show jv_V l D vwCl kp G 0 0 n E 0 [(0, .ref 1)] []
  refine jv_iconst (v := 0) C dX0_pairs_0 (by decide) ?_
  refine jv_istore_n (lv2 := [(1, .int 0), (0, .ref 1)]) C dX0_pairs_1 rfl hnl (by decide) rfl ?_
  refine jv_iconst (v := 0) C dX0_pairs_2 (by decide) ?_
  refine jv_istore_n (lv2 := [(2, .int 0), (1, .int 0), (0, .ref 1)]) C dX0_pairs_3 rfl hnl (by decide) rfl ?_
  refine jv_iload_n C dX0_pairs_4 0 rfl ?_
  refine jv_aload_n C dX0_pairs_5 2 rfl ?_
  refine jv_getf (fk := 0) C (by decide) h1 rfl in_X0_pairs_0 (by decide) (by decide +kernel) rfl rfl dX0_pairs_6 ?_
  refine jv_icmp_ge (tgt := 30) C dX0_pairs_9 (by decide) (fun _ => ?_) (fun h => absurd (by decide) h)
  refine jv_iload_n C dX0_pairs_30 1 rfl ?_
  refine jv_iconst (v := 2) C dX0_pairs_31 (by decide) ?_
  refine jv_idiv C dX0_pairs_32 (by decide) ?_
  refine jv_ti (y := 0) (by decide) ?_
  exact jv_iret C B ⟨rfl, rfl, rfl⟩ ⟨by decide, by decide⟩ dX0_pairs_33
theorem in_X0_busyRoofs_0 : ∀ w ∈ u_ws RX0 TX0 16, w ∈ wsX0_busyRoofs := by decide +kernel
set_option maxRecDepth 100000 in
set_option maxHeartbeats 8000000 in
theorem c_X0_busyRoofs (l : Launch) (D : va_G) (kp : Nat → ClassId) {n : Nat} {E : Nat → jv_E} (h1 : E 1 = cx1)  : jv_M l D vwCl kp yX0_busyRoofs wsX0_busyRoofs rm1 [] [.ref 1] n E 0 0 (fun r n1 E1 => some (.int 0) = r ∧ n = n1 ∧ E = E1) := by
  refine jv_of (by decide) rfl (Nat.le_of_ble_eq_true rfl) (fun G C B hI hnl => ?_)
  show jv_V l D vwCl kp G 0 0 n E 0 [(0, .ref 1)] []
  refine jv_iconst (v := 0) C dX0_busyRoofs_0 (by decide) ?_
  refine jv_istore_n (lv2 := [(1, .int 0), (0, .ref 1)]) C dX0_busyRoofs_1 rfl hnl (by decide) rfl ?_
  refine jv_iconst (v := 0) C dX0_busyRoofs_2 (by decide) ?_
  refine jv_istore_n (lv2 := [(2, .int 0), (1, .int 0), (0, .ref 1)]) C dX0_busyRoofs_3 rfl hnl (by decide) rfl ?_
  refine jv_iload_n C dX0_busyRoofs_4 0 rfl ?_
  refine jv_aload_n C dX0_busyRoofs_5 2 rfl ?_
  refine jv_getf (fk := 0) C (by decide) h1 rfl in_X0_busyRoofs_0 (by decide) (by decide +kernel) rfl rfl dX0_busyRoofs_6 ?_
  refine jv_icmp_ge (tgt := 51) C dX0_busyRoofs_9 (by decide) (fun _ => ?_) (fun h => absurd (by decide) h)
  refine jv_iload_n C dX0_busyRoofs_51 1 rfl ?_
  exact jv_iret C B ⟨rfl, rfl, rfl⟩ ⟨by decide, by decide⟩ dX0_busyRoofs_52
set_option maxRecDepth 100000 in
set_option maxHeartbeats 8000000 in
theorem c_X4_filled (l : Launch) (D : va_G) (kp : Nat → ClassId) {n : Nat} {E : Nat → jv_E} (h33 : E 33 = cx33) (h35 : E 35 = cx35)  : jv_M l D vwCl kp yX4_filled wsX4_filled rm3 [] [.ref 33] n E 0 0 (fun r n1 E1 => some (.int 0) = r ∧ n = n1 ∧ E = E1) := by
  refine jv_of (by decide) rfl (Nat.le_of_ble_eq_true rfl) (fun G C B hI hnl => ?_)
  show jv_V l D vwCl kp G 0 0 n E 0 [(0, .ref 33)] []
  refine jv_iconst (v := 0) C dX4_filled_0 (by decide) ?_
  refine jv_istore_n (lv2 := [(1, .int 0), (0, .ref 33)]) C dX4_filled_1 rfl hnl (by decide) rfl ?_
  refine jv_iconst (v := 0) C dX4_filled_2 (by decide) ?_
  refine jv_istore_n (lv2 := [(2, .int 0), (1, .int 0), (0, .ref 33)]) C dX4_filled_3 rfl hnl (by decide) rfl ?_
  refine jv_iload_n C dX4_filled_4 0 rfl ?_
  refine jv_iconst (v := 4) C dX4_filled_5 (by decide) ?_
  refine jv_icmp_ge (tgt := 26) C dX4_filled_6 (by decide) (fun h => absurd h (by decide)) (fun _ => ?_)
  refine jv_aload_n C dX4_filled_9 2 rfl ?_
  refine jv_iload_n C dX4_filled_10 0 rfl ?_
  refine jv_callV (na := 1) (As := [.int 0]) (st := []) C (c_X4_isFilled l D kp h33 h35 0 ) gX4_filled_X4_isFilled rfl (by decide) h33 rfl rfl rfl q_X4_isFilled rfl ⟨by decide, by decide⟩ ⟨by decide, by decide⟩ (fun _ h => absurd h List.not_mem_nil) (Nat.le_of_ble_eq_true rfl) rfl dX4_filled_11 (fun r n1 E_1 hp _ => ?_)
  obtain ⟨rfl, rfl, rfl⟩ := hp
  show jv_V l D vwCl kp G 0 0 n E 14 [(2, .int 0), (1, .int 0), (0, .ref 33)] [.int 0]
  refine jv_if_eq (tgt := 20) C dX4_filled_14 (by decide) (fun _ => ?_) (fun h => absurd (by decide) h)
  refine jv_iinc (lv2 := [(2, .int 1), (1, .int 0), (0, .ref 33)]) C dX4_filled_20 hnl 0 rfl (by decide) (by decide) rfl ?_
  refine jv_goto (tgt := 4) C dX4_filled_23 (by decide) ?_
  refine jv_iload_n C dX4_filled_4 0 rfl ?_
  refine jv_iconst (v := 4) C dX4_filled_5 (by decide) ?_
  refine jv_icmp_ge (tgt := 26) C dX4_filled_6 (by decide) (fun h => absurd h (by decide)) (fun _ => ?_)
  refine jv_aload_n C dX4_filled_9 2 rfl ?_
  refine jv_iload_n C dX4_filled_10 0 rfl ?_
  refine jv_callV (na := 1) (As := [.int 1]) (st := []) C (c_X4_isFilled l D kp h33 h35 1 ) gX4_filled_X4_isFilled rfl (by decide) h33 rfl rfl rfl q_X4_isFilled rfl ⟨by decide, by decide⟩ ⟨by decide, by decide⟩ (fun _ h => absurd h List.not_mem_nil) (Nat.le_of_ble_eq_true rfl) rfl dX4_filled_11 (fun r n1 E_2 hp _ => ?_)
  obtain ⟨rfl, rfl, rfl⟩ := hp
  show jv_V l D vwCl kp G 0 0 n E 14 [(2, .int 1), (1, .int 0), (0, .ref 33)] [.int 0]
  refine jv_if_eq (tgt := 20) C dX4_filled_14 (by decide) (fun _ => ?_) (fun h => absurd (by decide) h)
  refine jv_iinc (lv2 := [(2, .int 2), (1, .int 0), (0, .ref 33)]) C dX4_filled_20 hnl 0 rfl (by decide) (by decide) rfl ?_
  refine jv_goto (tgt := 4) C dX4_filled_23 (by decide) ?_
  refine jv_iload_n C dX4_filled_4 0 rfl ?_
  refine jv_iconst (v := 4) C dX4_filled_5 (by decide) ?_
  refine jv_icmp_ge (tgt := 26) C dX4_filled_6 (by decide) (fun h => absurd h (by decide)) (fun _ => ?_)
  refine jv_aload_n C dX4_filled_9 2 rfl ?_
  refine jv_iload_n C dX4_filled_10 0 rfl ?_
  refine jv_callV (na := 1) (As := [.int 2]) (st := []) C (c_X4_isFilled l D kp h33 h35 2 ) gX4_filled_X4_isFilled rfl (by decide) h33 rfl rfl rfl q_X4_isFilled rfl ⟨by decide, by decide⟩ ⟨by decide, by decide⟩ (fun _ h => absurd h List.not_mem_nil) (Nat.le_of_ble_eq_true rfl) rfl dX4_filled_11 (fun r n1 E_3 hp _ => ?_)
  obtain ⟨rfl, rfl, rfl⟩ := hp
  show jv_V l D vwCl kp G 0 0 n E 14 [(2, .int 2), (1, .int 0), (0, .ref 33)] [.int 0]
  refine jv_if_eq (tgt := 20) C dX4_filled_14 (by decide) (fun _ => ?_) (fun h => absurd (by decide) h)
  refine jv_iinc (lv2 := [(2, .int 3), (1, .int 0), (0, .ref 33)]) C dX4_filled_20 hnl 0 rfl (by decide) (by decide) rfl ?_
  refine jv_goto (tgt := 4) C dX4_filled_23 (by decide) ?_
  refine jv_iload_n C dX4_filled_4 0 rfl ?_
  refine jv_iconst (v := 4) C dX4_filled_5 (by decide) ?_
  refine jv_icmp_ge (tgt := 26) C dX4_filled_6 (by decide) (fun h => absurd h (by decide)) (fun _ => ?_)
  refine jv_aload_n C dX4_filled_9 2 rfl ?_
  refine jv_iload_n C dX4_filled_10 0 rfl ?_
  refine jv_callV (na := 1) (As := [.int 3]) (st := []) C (c_X4_isFilled l D kp h33 h35 3 ) gX4_filled_X4_isFilled rfl (by decide) h33 rfl rfl rfl q_X4_isFilled rfl ⟨by decide, by decide⟩ ⟨by decide, by decide⟩ (fun _ h => absurd h List.not_mem_nil) (Nat.le_of_ble_eq_true rfl) rfl dX4_filled_11 (fun r n1 E_4 hp _ => ?_)
  obtain ⟨rfl, rfl, rfl⟩ := hp
  show jv_V l D vwCl kp G 0 0 n E 14 [(2, .int 3), (1, .int 0), (0, .ref 33)] [.int 0]
  refine jv_if_eq (tgt := 20) C dX4_filled_14 (by decide) (fun _ => ?_) (fun h => absurd (by decide) h)
  refine jv_iinc (lv2 := [(2, .int 4), (1, .int 0), (0, .ref 33)]) C dX4_filled_20 hnl 0 rfl (by decide) (by decide) rfl ?_
  refine jv_goto (tgt := 4) C dX4_filled_23 (by decide) ?_
  refine jv_iload_n C dX4_filled_4 0 rfl ?_
  refine jv_iconst (v := 4) C dX4_filled_5 (by decide) ?_
  refine jv_icmp_ge (tgt := 26) C dX4_filled_6 (by decide) (fun _ => ?_) (fun h => absurd (by decide) h)
  refine jv_iload_n C dX4_filled_26 1 rfl ?_
  exact jv_iret C B ⟨rfl, rfl, rfl⟩ ⟨by decide, by decide⟩ dX4_filled_27
theorem in_X8_count_0 : ∀ w ∈ u_ws RX0 TX0 16, w ∈ wsX8_count := by decide +kernel
theorem in_X8_count_8 : ∀ w ∈ u_ws RX8 TX8 11, w ∈ wsX8_count := by decide +kernel
set_option maxRecDepth 100000 in
set_option maxHeartbeats 8000000 in
theorem c_X8_count_0 (l : Launch) (D : va_G) (kp : Nat → ClassId) {n : Nat} {E : Nat → jv_E} (h0 : E 0 = cx0) (h1 : E 1 = cx1) (h17 : E 17 = cx17) (h33 : E 33 = cx33) (h35 : E 35 = cx35)  : jv_M l D vwCl kp yX8_count wsX8_count rm1 [] [.ref 0, .int 0] n E 0 0 (fun r n1 E1 => some (.int 0) = r ∧ n = n1 ∧ E = E1) := by
  refine jv_of (by decide) rfl (Nat.le_of_ble_eq_true rfl) (fun G C B hI hnl => ?_)
  show jv_V l D vwCl kp G 0 0 n E 0 [(0, .ref 0), (1, .int 0)] []
  refine jv_iload_n C dX8_count_0 1 rfl ?_
  refine jv_tabIn (tgt := 52) C dX8_count_1 (by decide) (by decide) rfl (by decide) ?_
  refine jv_aload_n C dX8_count_52 0 rfl ?_
  refine jv_getf (fk := 0) C (by decide) h0 rfl in_X8_count_8 (by decide) (by decide +kernel) rfl rfl dX8_count_53 ?_
  refine jv_getf (fk := 0) C (by decide) h1 rfl in_X8_count_0 (by decide) (by decide +kernel) rfl rfl dX8_count_56 ?_
  exact jv_iret C B ⟨rfl, rfl, rfl⟩ ⟨by decide, by decide⟩ dX8_count_59
set_option maxRecDepth 100000 in
set_option maxHeartbeats 8000000 in
theorem c_X8_count_1 (l : Launch) (D : va_G) (kp : Nat → ClassId) {n : Nat} {E : Nat → jv_E} (h0 : E 0 = cx0) (h1 : E 1 = cx1) (h17 : E 17 = cx17) (h33 : E 33 = cx33) (h35 : E 35 = cx35)  : jv_M l D vwCl kp yX8_count wsX8_count rm1 [] [.ref 0, .int 1] n E 0 0 (fun r n1 E1 => some (.int 0) = r ∧ n = n1 ∧ E = E1) := by
  refine jv_of (by decide) rfl (Nat.le_of_ble_eq_true rfl) (fun G C B hI hnl => ?_)
  show jv_V l D vwCl kp G 0 0 n E 0 [(0, .ref 0), (1, .int 1)] []
  refine jv_iload_n C dX8_count_0 1 rfl ?_
  refine jv_tabIn (tgt := 60) C dX8_count_1 (by decide) (by decide) rfl (by decide) ?_
  refine jv_aload_n C dX8_count_60 0 rfl ?_
  refine jv_getf (fk := 0) C (by decide) h0 rfl in_X8_count_8 (by decide) (by decide +kernel) rfl rfl dX8_count_61 ?_
  refine jv_getf (fk := 2) C (by decide) h1 rfl in_X8_count_0 (by decide) (by decide +kernel) rfl rfl dX8_count_64 ?_
  exact jv_iret C B ⟨rfl, rfl, rfl⟩ ⟨by decide, by decide⟩ dX8_count_67
theorem q_X0_pairs : yX0_pairs.cls ≠ "java/lang/invoke/MethodHandle" ∧ yX0_pairs.cls ≠ "java/lang/invoke/VarHandle" ∧ (parseMethodDescriptor yX0_pairs.desc).map (fun d => d.parameters.length) = some 0 := by decide +kernel
set_option maxRecDepth 100000 in
set_option maxHeartbeats 8000000 in
theorem c_X8_count_2 (l : Launch) (D : va_G) (kp : Nat → ClassId) {n : Nat} {E : Nat → jv_E} (h0 : E 0 = cx0) (h1 : E 1 = cx1) (h17 : E 17 = cx17) (h33 : E 33 = cx33) (h35 : E 35 = cx35)  : jv_M l D vwCl kp yX8_count wsX8_count rm2 [] [.ref 0, .int 2] n E 0 0 (fun r n1 E1 => some (.int 0) = r ∧ n = n1 ∧ E = E1) := by
  refine jv_of (by decide) rfl (Nat.le_of_ble_eq_true rfl) (fun G C B hI hnl => ?_)
  show jv_V l D vwCl kp G 0 0 n E 0 [(0, .ref 0), (1, .int 2)] []
  refine jv_iload_n C dX8_count_0 1 rfl ?_
  refine jv_tabIn (tgt := 68) C dX8_count_1 (by decide) (by decide) rfl (by decide) ?_
  refine jv_aload_n C dX8_count_68 0 rfl ?_
  refine jv_getf (fk := 0) C (by decide) h0 rfl in_X8_count_8 (by decide) (by decide +kernel) rfl rfl dX8_count_69 ?_
  refine jv_callV (na := 0) (As := []) (st := []) C (c_X0_pairs l D kp h1  ) gX8_count_X0_pairs rfl (by decide) h1 rfl rfl rfl q_X0_pairs rfl ⟨by decide, by decide⟩ ⟨by decide, by decide⟩ (fun _ h => absurd h List.not_mem_nil) (Nat.le_of_ble_eq_true rfl) rfl dX8_count_72 (fun r n1 E_1 hp _ => ?_)
  obtain ⟨rfl, rfl, rfl⟩ := hp
  show jv_V l D vwCl kp G 0 0 n E 75 [(0, .ref 0), (1, .int 2)] [.int 0]
  exact jv_iret C B ⟨rfl, rfl, rfl⟩ ⟨by decide, by decide⟩ dX8_count_75
set_option maxRecDepth 100000 in
set_option maxHeartbeats 8000000 in
theorem c_X8_count_3 (l : Launch) (D : va_G) (kp : Nat → ClassId) {n : Nat} {E : Nat → jv_E} (h0 : E 0 = cx0) (h1 : E 1 = cx1) (h17 : E 17 = cx17) (h33 : E 33 = cx33) (h35 : E 35 = cx35)  : jv_M l D vwCl kp yX8_count wsX8_count rm1 [] [.ref 0, .int 3] n E 0 0 (fun r n1 E1 => some (.int 0) = r ∧ n = n1 ∧ E = E1) := by
  refine jv_of (by decide) rfl (Nat.le_of_ble_eq_true rfl) (fun G C B hI hnl => ?_)
  show jv_V l D vwCl kp G 0 0 n E 0 [(0, .ref 0), (1, .int 3)] []
  refine jv_iload_n C dX8_count_0 1 rfl ?_
  refine jv_tabIn (tgt := 76) C dX8_count_1 (by decide) (by decide) rfl (by decide) ?_
  refine jv_aload_n C dX8_count_76 0 rfl ?_
  refine jv_getf (fk := 0) C (by decide) h0 rfl in_X8_count_8 (by decide) (by decide +kernel) rfl rfl dX8_count_77 ?_
  refine jv_getf (fk := 1) C (by decide) h1 rfl in_X8_count_0 (by decide) (by decide +kernel) rfl rfl dX8_count_80 ?_
  exact jv_iret C B ⟨rfl, rfl, rfl⟩ ⟨by decide, by decide⟩ dX8_count_83
theorem in_X8_count_3 : ∀ w ∈ u_ws RX3 TX3 12, w ∈ wsX8_count := by decide +kernel
set_option maxRecDepth 100000 in
set_option maxHeartbeats 8000000 in
theorem c_X8_count_4 (l : Launch) (D : va_G) (kp : Nat → ClassId) {n : Nat} {E : Nat → jv_E} (h0 : E 0 = cx0) (h1 : E 1 = cx1) (h17 : E 17 = cx17) (h33 : E 33 = cx33) (h35 : E 35 = cx35)  : jv_M l D vwCl kp yX8_count wsX8_count rm1 [] [.ref 0, .int 4] n E 0 0 (fun r n1 E1 => some (.int 0) = r ∧ n = n1 ∧ E = E1) := by
  refine jv_of (by decide) rfl (Nat.le_of_ble_eq_true rfl) (fun G C B hI hnl => ?_)
  show jv_V l D vwCl kp G 0 0 n E 0 [(0, .ref 0), (1, .int 4)] []
  refine jv_iload_n C dX8_count_0 1 rfl ?_
  refine jv_tabIn (tgt := 84) C dX8_count_1 (by decide) (by decide) rfl (by decide) ?_
  refine jv_aload_n C dX8_count_84 0 rfl ?_
  refine jv_getf (fk := 4) C (by decide) h0 rfl in_X8_count_8 (by decide) (by decide +kernel) rfl rfl dX8_count_85 ?_
  refine jv_getf (fk := 1) C (by decide) h17 rfl in_X8_count_3 (by decide) (by decide +kernel) rfl rfl dX8_count_88 ?_
  exact jv_iret C B ⟨rfl, rfl, rfl⟩ ⟨by decide, by decide⟩ dX8_count_91
set_option maxRecDepth 100000 in
set_option maxHeartbeats 8000000 in
theorem c_X8_count_5 (l : Launch) (D : va_G) (kp : Nat → ClassId) {n : Nat} {E : Nat → jv_E} (h0 : E 0 = cx0) (h1 : E 1 = cx1) (h17 : E 17 = cx17) (h33 : E 33 = cx33) (h35 : E 35 = cx35)  : jv_M l D vwCl kp yX8_count wsX8_count rm1 [] [.ref 0, .int 5] n E 0 0 (fun r n1 E1 => some (.int 0) = r ∧ n = n1 ∧ E = E1) := by
  refine jv_of (by decide) rfl (Nat.le_of_ble_eq_true rfl) (fun G C B hI hnl => ?_)
  show jv_V l D vwCl kp G 0 0 n E 0 [(0, .ref 0), (1, .int 5)] []
  refine jv_iload_n C dX8_count_0 1 rfl ?_
  refine jv_tabIn (tgt := 92) C dX8_count_1 (by decide) (by decide) rfl (by decide) ?_
  refine jv_aload_n C dX8_count_92 0 rfl ?_
  refine jv_getf (fk := 0) C (by decide) h0 rfl in_X8_count_8 (by decide) (by decide +kernel) rfl rfl dX8_count_93 ?_
  refine jv_getf (fk := 3) C (by decide) h1 rfl in_X8_count_0 (by decide) (by decide +kernel) rfl rfl dX8_count_96 ?_
  exact jv_iret C B ⟨rfl, rfl, rfl⟩ ⟨by decide, by decide⟩ dX8_count_99
set_option maxRecDepth 100000 in
set_option maxHeartbeats 8000000 in
theorem c_X8_count_6 (l : Launch) (D : va_G) (kp : Nat → ClassId) {n : Nat} {E : Nat → jv_E} (h0 : E 0 = cx0) (h1 : E 1 = cx1) (h17 : E 17 = cx17) (h33 : E 33 = cx33) (h35 : E 35 = cx35)  : jv_M l D vwCl kp yX8_count wsX8_count rm1 [] [.ref 0, .int 6] n E 0 0 (fun r n1 E1 => some (.int 0) = r ∧ n = n1 ∧ E = E1) := by
  refine jv_of (by decide) rfl (Nat.le_of_ble_eq_true rfl) (fun G C B hI hnl => ?_)
  show jv_V l D vwCl kp G 0 0 n E 0 [(0, .ref 0), (1, .int 6)] []
  refine jv_iload_n C dX8_count_0 1 rfl ?_
  refine jv_tabIn (tgt := 100) C dX8_count_1 (by decide) (by decide) rfl (by decide) ?_
  refine jv_aload_n C dX8_count_100 0 rfl ?_
  refine jv_getf (fk := 0) C (by decide) h0 rfl in_X8_count_8 (by decide) (by decide +kernel) rfl rfl dX8_count_101 ?_
  refine jv_getf (fk := 4) C (by decide) h1 rfl in_X8_count_0 (by decide) (by decide +kernel) rfl rfl dX8_count_104 ?_
  exact jv_iret C B ⟨rfl, rfl, rfl⟩ ⟨by decide, by decide⟩ dX8_count_107
theorem q_X0_busyRoofs : yX0_busyRoofs.cls ≠ "java/lang/invoke/MethodHandle" ∧ yX0_busyRoofs.cls ≠ "java/lang/invoke/VarHandle" ∧ (parseMethodDescriptor yX0_busyRoofs.desc).map (fun d => d.parameters.length) = some 0 := by decide +kernel
set_option maxRecDepth 100000 in
set_option maxHeartbeats 8000000 in
theorem c_X8_count_7 (l : Launch) (D : va_G) (kp : Nat → ClassId) {n : Nat} {E : Nat → jv_E} (h0 : E 0 = cx0) (h1 : E 1 = cx1) (h17 : E 17 = cx17) (h33 : E 33 = cx33) (h35 : E 35 = cx35)  : jv_M l D vwCl kp yX8_count wsX8_count rm2 [] [.ref 0, .int 7] n E 0 0 (fun r n1 E1 => some (.int 0) = r ∧ n = n1 ∧ E = E1) := by
  refine jv_of (by decide) rfl (Nat.le_of_ble_eq_true rfl) (fun G C B hI hnl => ?_)
  show jv_V l D vwCl kp G 0 0 n E 0 [(0, .ref 0), (1, .int 7)] []
  refine jv_iload_n C dX8_count_0 1 rfl ?_
  refine jv_tabIn (tgt := 108) C dX8_count_1 (by decide) (by decide) rfl (by decide) ?_
  refine jv_aload_n C dX8_count_108 0 rfl ?_
  refine jv_getf (fk := 0) C (by decide) h0 rfl in_X8_count_8 (by decide) (by decide +kernel) rfl rfl dX8_count_109 ?_
  refine jv_callV (na := 0) (As := []) (st := []) C (c_X0_busyRoofs l D kp h1  ) gX8_count_X0_busyRoofs rfl (by decide) h1 rfl rfl rfl q_X0_busyRoofs rfl ⟨by decide, by decide⟩ ⟨by decide, by decide⟩ (fun _ h => absurd h List.not_mem_nil) (Nat.le_of_ble_eq_true rfl) rfl dX8_count_112 (fun r n1 E_1 hp _ => ?_)
  obtain ⟨rfl, rfl, rfl⟩ := hp
  show jv_V l D vwCl kp G 0 0 n E 115 [(0, .ref 0), (1, .int 7)] [.int 0]
  exact jv_iret C B ⟨rfl, rfl, rfl⟩ ⟨by decide, by decide⟩ dX8_count_115
theorem q_X4_filled : yX4_filled.cls ≠ "java/lang/invoke/MethodHandle" ∧ yX4_filled.cls ≠ "java/lang/invoke/VarHandle" ∧ (parseMethodDescriptor yX4_filled.desc).map (fun d => d.parameters.length) = some 0 := by decide +kernel
set_option maxRecDepth 100000 in
set_option maxHeartbeats 8000000 in
theorem c_X8_count_8 (l : Launch) (D : va_G) (kp : Nat → ClassId) {n : Nat} {E : Nat → jv_E} (h0 : E 0 = cx0) (h1 : E 1 = cx1) (h17 : E 17 = cx17) (h33 : E 33 = cx33) (h35 : E 35 = cx35)  : jv_M l D vwCl kp yX8_count wsX8_count rm4 [] [.ref 0, .int 8] n E 0 0 (fun r n1 E1 => some (.int 0) = r ∧ n = n1 ∧ E = E1) := by
  refine jv_of (by decide) rfl (Nat.le_of_ble_eq_true rfl) (fun G C B hI hnl => ?_)
  show jv_V l D vwCl kp G 0 0 n E 0 [(0, .ref 0), (1, .int 8)] []
  refine jv_iload_n C dX8_count_0 1 rfl ?_
  refine jv_tabIn (tgt := 116) C dX8_count_1 (by decide) (by decide) rfl (by decide) ?_
  refine jv_aload_n C dX8_count_116 0 rfl ?_
  refine jv_getf (fk := 10) C (by decide) h0 rfl in_X8_count_8 (by decide) (by decide +kernel) rfl rfl dX8_count_117 ?_
  refine jv_callV (na := 0) (As := []) (st := []) C (c_X4_filled l D kp h33 h35  ) gX8_count_X4_filled rfl (by decide) h33 rfl rfl rfl q_X4_filled rfl ⟨by decide, by decide⟩ ⟨by decide, by decide⟩ (fun _ h => absurd h List.not_mem_nil) (Nat.le_of_ble_eq_true rfl) rfl dX8_count_120 (fun r n1 E_1 hp _ => ?_)
  obtain ⟨rfl, rfl, rfl⟩ := hp
  show jv_V l D vwCl kp G 0 0 n E 123 [(0, .ref 0), (1, .int 8)] [.int 0]
  exact jv_iret C B ⟨rfl, rfl, rfl⟩ ⟨by decide, by decide⟩ dX8_count_123
set_option maxRecDepth 100000 in
set_option maxHeartbeats 8000000 in
theorem c_X8_count_neg (l : Launch) (D : va_G) (kp : Nat → ClassId) {n : Nat} {E : Nat → jv_E} (h0 : E 0 = cx0) (h1 : E 1 = cx1) (h17 : E 17 = cx17) (h33 : E 33 = cx33) (h35 : E 35 = cx35) (p1 : Int32) (ho : p1.toInt < 0) : jv_M l D vwCl kp yX8_count wsX8_count rm1 [] [.ref 0, .int p1] n E 0 0 (fun r n1 E1 => some (.int (-1)) = r ∧ n = n1 ∧ E = E1) := by
  refine jv_of (by decide) rfl (Nat.le_of_ble_eq_true rfl) (fun G C B hI hnl => ?_)
  show jv_V l D vwCl kp G 0 0 n E 0 [(0, .ref 0), (1, .int p1)] []
  refine jv_iload_n C dX8_count_0 1 rfl ?_
  refine jv_tabOut (tgt := 124) C dX8_count_1 (by have a0 := ho; omega) (by decide) ?_
  refine jv_iconst (v := (-1)) C dX8_count_124 (by decide) ?_
  exact jv_iret C B ⟨rfl, rfl, rfl⟩ ⟨by decide, by decide⟩ dX8_count_125
set_option maxRecDepth 100000 in
set_option maxHeartbeats 8000000 in
theorem c_X8_count_big (l : Launch) (D : va_G) (kp : Nat → ClassId) {n : Nat} {E : Nat → jv_E} (h0 : E 0 = cx0) (h1 : E 1 = cx1) (h17 : E 17 = cx17) (h33 : E 33 = cx33) (h35 : E 35 = cx35) (p1 : Int32) (ho : 8 < p1.toInt) : jv_M l D vwCl kp yX8_count wsX8_count rm1 [] [.ref 0, .int p1] n E 0 0 (fun r n1 E1 => some (.int (-1)) = r ∧ n = n1 ∧ E = E1) := by
  refine jv_of (by decide) rfl (Nat.le_of_ble_eq_true rfl) (fun G C B hI hnl => ?_)
  show jv_V l D vwCl kp G 0 0 n E 0 [(0, .ref 0), (1, .int p1)] []
  refine jv_iload_n C dX8_count_0 1 rfl ?_
  refine jv_tabOut (tgt := 124) C dX8_count_1 (by have a0 := ho; omega) (by decide) ?_
  refine jv_iconst (v := (-1)) C dX8_count_124 (by decide) ?_
  exact jv_iret C B ⟨rfl, rfl, rfl⟩ ⟨by decide, by decide⟩ dX8_count_125
