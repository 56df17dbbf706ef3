theorem in_X8_rows_8 : ∀ w ∈ u_ws RX8 TX8 11, w ∈ wsX8_rows := by decide +kernel
theorem in_X8_least_8 : ∀ w ∈ u_ws RX8 TX8 11, w ∈ wsX8_least := by decide +kernel
theorem q_X8_isRowKind : yX8_isRowKind.cls ≠ "java/lang/invoke/MethodHandle" ∧ yX8_isRowKind.cls ≠ "java/lang/invoke/VarHandle" ∧ (parseMethodDescriptor yX8_isRowKind.desc).map (fun d => d.parameters.length) = some 3 := by decide +kernel
set_option maxRecDepth 100000 in
set_option maxHeartbeats 4000000 in
theorem c_X8_isRowKind (l : Launch) (D : va_G) (kp : Nat → ClassId) {n : Nat} {E : Nat → jv_E}  (p1 : Int32) (p2 : Int32) (p3 : Int32) : jv_M l D vwCl kp yX8_isRowKind wsX8_isRowKind rm2 [] [.int p1, .int p2, .int p3] n E 0 0 (fun r n1 E1 => ((some (.int 1) = r ∧ (1 ≤ p1.toInt ∧ p1.toInt ≤ 8 ∧ 0 ≤ p2.toInt ∧ p2.toInt ≤ 9 ∧ 0 ≤ p3.toInt ∧ p3.toInt ≤ 9)) ∨ (some (.int 0) = r ∧ ¬ (1 ≤ p1.toInt ∧ p1.toInt ≤ 8 ∧ 0 ≤ p2.toInt ∧ p2.toInt ≤ 9 ∧ 0 ≤ p3.toInt ∧ p3.toInt ≤ 9))) ∧ n = n1 ∧ E = E1) := by
  refine jv_of (by decide) rfl (Nat.le_of_ble_eq_true rfl) (fun G C B hI hnl => ?_)
  show jv_V l D vwCl kp G 0 0 n E 0 [(0, .int p1), (1, .int p2), (2, .int p3)] []
  refine jv_iload_n C dX8_isRowKind_0 0 rfl ?_
  refine jv_iconst (v := 1) C dX8_isRowKind_1 (by decide) ?_
  refine jv_icmp_lt (tgt := 33) C dX8_isRowKind_2 (by decide) (fun c1 => ?_) (fun c1 => ?_)
  · refine jv_iconst (v := 0) C dX8_isRowKind_33 (by decide) ?_
    exact jv_zret C B (by decide) ⟨Or.inr ⟨rfl, by have a0 := jv_i_lt c1; have z1 : (1 : Int32).toInt = 1 := (by decide); omega⟩, rfl, rfl⟩ ⟨by decide, by decide⟩ dX8_isRowKind_34
  · refine jv_iload_n C dX8_isRowKind_5 0 rfl ?_
    refine jv_bipush (v := 8) C dX8_isRowKind_6 (by decide) ?_
    refine jv_icmp_gt (tgt := 33) C dX8_isRowKind_8 (by decide) (fun c2 => ?_) (fun c2 => ?_)
    · refine jv_iconst (v := 0) C dX8_isRowKind_33 (by decide) ?_
      exact jv_zret C B (by decide) ⟨Or.inr ⟨rfl, by have a0 := jv_i_nlt c1; have a1 := jv_i_lt c2; have z1 : (1 : Int32).toInt = 1 := (by decide); have z8 : (8 : Int32).toInt = 8 := (by decide); omega⟩, rfl, rfl⟩ ⟨by decide, by decide⟩ dX8_isRowKind_34
    · refine jv_iload_n C dX8_isRowKind_11 1 rfl ?_
      refine jv_bipush (v := 9) C dX8_isRowKind_12 (by decide) ?_
      refine jv_callS (na := 2) (As := [.int p2, .int 9]) (st := []) C (c_X8_isWithin l D kp  p2 9) gX8_isRowKind_X8_isWithin rfl rfl rfl q_X8_isWithin rfl ⟨by decide, by decide⟩ ⟨by decide, by decide⟩ (fun _ h => absurd h List.not_mem_nil) (Nat.le_of_ble_eq_true rfl) rfl dX8_isRowKind_14 (fun r n1 E_3 hp _ => ?_)
      rw [show (9 : Int32).toInt = 9 from by decide] at hp
      obtain ⟨⟨rfl, q4⟩ | ⟨rfl, q4⟩, rfl, rfl⟩ := hp
      · show jv_V l D vwCl kp G 0 0 n E 17 [(0, .int p1), (1, .int p2), (2, .int p3)] [.int 1]
        refine jv_if_eq (tgt := 33) C dX8_isRowKind_17 (by decide) (fun h => absurd h (by decide)) (fun _ => ?_)
        refine jv_iload_n C dX8_isRowKind_20 2 rfl ?_
        refine jv_bipush (v := 9) C dX8_isRowKind_21 (by decide) ?_
        refine jv_callS (na := 2) (As := [.int p3, .int 9]) (st := []) C (c_X8_isWithin l D kp  p3 9) gX8_isRowKind_X8_isWithin rfl rfl rfl q_X8_isWithin rfl ⟨by decide, by decide⟩ ⟨by decide, by decide⟩ (fun _ h => absurd h List.not_mem_nil) (Nat.le_of_ble_eq_true rfl) rfl dX8_isRowKind_23 (fun r n1 E_5 hp _ => ?_)
        rw [show (9 : Int32).toInt = 9 from by decide] at hp
        obtain ⟨⟨rfl, q6⟩ | ⟨rfl, q6⟩, rfl, rfl⟩ := hp
        · show jv_V l D vwCl kp G 0 0 n E 26 [(0, .int p1), (1, .int p2), (2, .int p3)] [.int 1]
          refine jv_if_eq (tgt := 33) C dX8_isRowKind_26 (by decide) (fun h => absurd h (by decide)) (fun _ => ?_)
          refine jv_iconst (v := 1) C dX8_isRowKind_29 (by decide) ?_
          refine jv_goto (tgt := 34) C dX8_isRowKind_30 (by decide) ?_
          exact jv_zret C B (by decide) ⟨Or.inl ⟨rfl, by have a0 := jv_i_nlt c1; have a1 := jv_i_nlt c2; have a2 := q4; have a3 := q6; have z1 : (1 : Int32).toInt = 1 := (by decide); have z8 : (8 : Int32).toInt = 8 := (by decide); omega⟩, rfl, rfl⟩ ⟨by decide, by decide⟩ dX8_isRowKind_34
        · show jv_V l D vwCl kp G 0 0 n E 26 [(0, .int p1), (1, .int p2), (2, .int p3)] [.int 0]
          refine jv_if_eq (tgt := 33) C dX8_isRowKind_26 (by decide) (fun _ => ?_) (fun h => absurd (by decide) h)
          refine jv_iconst (v := 0) C dX8_isRowKind_33 (by decide) ?_
          exact jv_zret C B (by decide) ⟨Or.inr ⟨rfl, by have a0 := jv_i_nlt c1; have a1 := jv_i_nlt c2; have a2 := q4; have a3 := q6; have z1 : (1 : Int32).toInt = 1 := (by decide); have z8 : (8 : Int32).toInt = 8 := (by decide); omega⟩, rfl, rfl⟩ ⟨by decide, by decide⟩ dX8_isRowKind_34
      · show jv_V l D vwCl kp G 0 0 n E 17 [(0, .int p1), (1, .int p2), (2, .int p3)] [.int 0]
        refine jv_if_eq (tgt := 33) C dX8_isRowKind_17 (by decide) (fun _ => ?_) (fun h => absurd (by decide) h)
        refine jv_iconst (v := 0) C dX8_isRowKind_33 (by decide) ?_
        exact jv_zret C B (by decide) ⟨Or.inr ⟨rfl, by have a0 := jv_i_nlt c1; have a1 := jv_i_nlt c2; have a2 := q4; have z1 : (1 : Int32).toInt = 1 := (by decide); have z8 : (8 : Int32).toInt = 8 := (by decide); omega⟩, rfl, rfl⟩ ⟨by decide, by decide⟩ dX8_isRowKind_34
theorem jb_of {x : Int32} (h0 : 0 ≤ x.toInt) : x = nI x.toInt.toNat := by
  have h1 := Int32.toInt_lt x
  refine jv_r_eq ?_
  rw [nI_toInt (by omega)]
  omega
set_option maxRecDepth 100000 in
set_option maxHeartbeats 8000000 in
theorem c_waysOn_neg (l : Launch) (D : va_G) (kp : Nat → ClassId) {n : Nat} {E : Nat → jv_E} (s v : Int32) (hv : v.toInt < 0) :
    jv_M l D vwCl kp yX7_waysOn wsX7_waysOn rm1 [] [.ref 29, .int s, .int v] n E 0 0 (fun r n1 E1 => some (.int 0) = r ∧ n = n1 ∧ E = E1) := by
  refine jv_of (by decide) rfl (Nat.le_of_ble_eq_true rfl) (fun G C B hI hnl => ?_)
  show jv_V l D vwCl kp G 0 0 n E 0 [(0, .ref 29), (1, .int s), (2, .int v)] []
  refine jv_iload_n C dX7_waysOn_0 1 rfl ?_
  refine jv_bipush (v := 10) C dX7_waysOn_1 (by decide) ?_
  refine jv_imul C dX7_waysOn_3 ?_
  refine jv_iload_n C dX7_waysOn_4 2 rfl ?_
  refine jv_iadd C dX7_waysOn_5 ?_
  refine jv_istore_n (lv2 := [(3, .int (s * 10 + v)), (0, .ref 29), (1, .int s), (2, .int v)]) C dX7_waysOn_6 rfl hnl (by decide) rfl ?_
  refine jv_iload_n C dX7_waysOn_7 3 rfl ?_
  refine jv_if_lt (tgt := 30) C dX7_waysOn_8 (by decide) (fun _ => ?_) (fun h => absurd (jv_r_lt (by have z0 : (0 : Int32).toInt = 0 := (by decide); omega)) h)
  refine jv_iconst (v := 0) C dX7_waysOn_30 (by decide) ?_
  refine jv_goto (tgt := 40) C dX7_waysOn_31 (by decide) ?_
  exact jv_iret C B ⟨rfl, rfl, rfl⟩ ⟨by decide, by decide⟩ dX7_waysOn_40
set_option maxRecDepth 100000 in
set_option maxHeartbeats 8000000 in
theorem c_waysOn (l : Launch) (D : va_G) (kp : Nat → ClassId) {n : Nat} {E : Nat → jv_E} {u0 u1 : Value} {g : Nat → Int32} {s t : Nat} (h29 : E 29 = .inr (7, [u0, u1, .ref 30])) (h30 : E 30 = .inl (0, 2560, .inl g)) (hs : s < 256) (ht : t < 10) :
    jv_M l D vwCl kp yX7_waysOn wsX7_waysOn rm1 [] [.ref 29, .int (nI s), .int (nI t)] n E 0 0 (fun r n1 E1 => some (.int (g (s * 10 + t))) = r ∧ n = n1 ∧ E = E1) := by
  refine jv_of (by decide) rfl (Nat.le_of_ble_eq_true rfl) (fun G C B hI hnl => ?_)
  show jv_V l D vwCl kp G 0 0 n E 0 [(0, .ref 29), (1, .int (nI s)), (2, .int (nI t))] []
  refine jv_iload_n C dX7_waysOn_0 1 rfl ?_
  refine jv_bipush (v := 10) C dX7_waysOn_1 (by decide) ?_
  refine jv_imul C dX7_waysOn_3 ?_
  refine jv_ti (jb_m10 s) ?_
  refine jv_iload_n C dX7_waysOn_4 2 rfl ?_
  refine jv_iadd C dX7_waysOn_5 ?_
  refine jv_ti (nI_add (s * 10) t) ?_
  refine jv_istore_n (lv2 := [(3, .int (nI (s * 10 + t))), (0, .ref 29), (1, .int (nI s)), (2, .int (nI t))]) C dX7_waysOn_6 rfl hnl (by decide) rfl ?_
  refine jv_iload_n C dX7_waysOn_7 3 rfl ?_
  refine jv_if_lt (tgt := 30) C dX7_waysOn_8 (by decide) (fun h => absurd h (nI_pos (by omega))) (fun _ => ?_)
  refine jv_iload_n C dX7_waysOn_11 3 rfl ?_
  refine jv_bipush (v := 10) C dX7_waysOn_12 (by decide) ?_
  refine jv_icmp_ge (tgt := 30) C dX7_waysOn_14 (by decide) (fun h => absurd h (nI_ge (b := 10) ht (by decide))) (fun _ => ?_)
  refine jv_iload_n C dX7_waysOn_17 0 rfl ?_
  refine jv_if_lt (tgt := 30) C dX7_waysOn_18 (by decide) (fun h => absurd h (nI_pos (by omega))) (fun _ => ?_)
  refine jv_iload_n C dX7_waysOn_21 0 rfl ?_
  refine jv_aload_n C dX7_waysOn_22 1 rfl ?_
  refine jv_getf (fk := 2) C (by decide) h29 rfl in_X7_waysOn_7 (by decide) (by decide +kernel) rfl rfl dX7_waysOn_23 ?_
  refine jv_alen (v := nI 2560) C (by decide) h30 .int (fun _ => rfl) rfl dX7_waysOn_26 ?_
  refine jv_icmp_lt (tgt := 34) C dX7_waysOn_27 (by decide) (fun _ => ?_) (fun h => absurd (nI_lt (by omega) (by omega)) h)
  refine jv_aload_n C dX7_waysOn_34 1 rfl ?_
  refine jv_getf (fk := 2) C (by decide) h29 rfl in_X7_waysOn_7 (by decide) (by decide +kernel) rfl rfl dX7_waysOn_35 ?_
  refine jv_iload_n C dX7_waysOn_38 0 rfl ?_
  refine jv_iald C (by decide) h30 (jb_in (by omega) (by decide)) dX7_waysOn_39 ?_
  refine jv_ti (y := g (s * 10 + t)) (by rw [jb_cl (by omega)]) ?_
  exact jv_iret C B ⟨rfl, rfl, rfl⟩ ⟨by decide, by decide⟩ dX7_waysOn_40
set_option maxRecDepth 100000 in
set_option maxHeartbeats 8000000 in
theorem c_waysOf (l : Launch) (D : va_G) (kp : Nat → ClassId) {n : Nat} {E : Nat → jv_E} {P T b : Nat} {u0 u1 : Int32} {g : Nat → Int32} (h29 : E 29 = .inr (7, [.int u0, .int u1, .ref 30])) (h30 : E 30 = .inl (0, 2560, .inl g)) (hP : 1 ≤ P) (hP2 : P < 9) (hT : T < 10) (hb : b < 10) (hu : ¬ nI P = u0) :
    jv_M l D vwCl kp yX7_waysOf wsX7_waysOf rm4 [] [.ref 29, .int (nI P), .int (nI b), .int (nI T)] n E 0 0 (fun r n1 E1 => some (.int (nI (jw_W P T P 0 (b : Int)))) = r ∧ n = n1 ∧ (∀ j, j ≠ 29 → j ≠ 30 → E1 j = E j) ∧ E1 29 = .inr (7, [.int (nI P), .int (nI T), .ref 30]) ∧ ∃ g, E1 30 = .inl (0, 2560, .inl g) ∧ jb_I P T 0 g) := by
  refine jv_of (by decide) rfl (Nat.le_of_ble_eq_true rfl) (fun G C B hI hnl => ?_)
  show jv_V l D vwCl kp G 0 0 n E 0 [(0, .ref 29), (1, .int (nI P)), (2, .int (nI b)), (3, .int (nI T))] []
  refine jv_aload_n C dX7_waysOf_0 0 rfl ?_
  refine jv_iload_n C dX7_waysOf_1 1 rfl ?_
  refine jv_iload_n C dX7_waysOf_2 3 rfl ?_
  refine jv_callV (na := 2) (As := [.int (nI P), .int (nI T)]) (st := []) C (c_fill l D kp h29 h30 hP hP2 hT hu) gX7_waysOf_X7_fill rfl (by decide) h29 rfl rfl rfl q_X7_fill rfl ⟨by decide, by decide⟩ ⟨by decide, by decide⟩ (fun _ h => absurd h List.not_mem_nil) (Nat.le_of_ble_eq_true rfl) rfl dX7_waysOf_3 (fun r n1 E1 hp _ => ?_)
  obtain ⟨rfl, rfl, hf, e29, g1, e30, hJ⟩ := hp
  show jv_V l D vwCl kp G 0 0 n E1 6 [(0, .ref 29), (1, .int (nI P)), (2, .int (nI b)), (3, .int (nI T))] []
  refine jv_aload_n C dX7_waysOf_6 0 rfl ?_
  refine jv_iconst (v := 0) C dX7_waysOf_7 (by decide) ?_
  refine jv_iload_n C dX7_waysOf_8 2 rfl ?_
  refine jv_callV (na := 2) (As := [.int 0, .int (nI b)]) (st := []) C (c_waysOn (s := 0) l D kp e29 e30 (by decide) hb) gX7_waysOf_X7_waysOn rfl (by decide) e29 rfl rfl rfl q_X7_waysOn rfl ⟨by decide, by decide⟩ ⟨by decide, by decide⟩ (fun _ h => absurd h List.not_mem_nil) (Nat.le_of_ble_eq_true rfl) rfl dX7_waysOf_9 (fun r n1 E2 hp _ => ?_)
  obtain ⟨rfl, rfl, rfl⟩ := hp
  show jv_V l D vwCl kp G 0 0 n E1 12 [(0, .ref 29), (1, .int (nI P)), (2, .int (nI b)), (3, .int (nI T))] [.int (g1 (0 * 10 + b))]
  have hp2 := jb_p2 P hP2
  refine jv_ti (y := nI (jw_W P T P 0 (b : Int))) (by rw [hJ.1 0 (by omega) (by omega) b hb, (jw_start P hP2).1]) ?_
  exact jv_iret C B ⟨rfl, rfl, hf, e29, g1, e30, hJ⟩ ⟨by decide, by decide⟩ dX7_waysOf_12
def jr_rows (p b t : Int32) : Int64 := if 1 ≤ p.toInt ∧ p.toInt ≤ 8 ∧ 0 ≤ b.toInt ∧ b.toInt ≤ 9 ∧ 0 ≤ t.toInt ∧ t.toInt ≤ 9 then lN (jw_W p.toInt.toNat t.toInt.toNat p.toInt.toNat 0 b.toInt) else -2
theorem jr_rows_in {P B T : Nat} (hP : 1 ≤ P) (hP2 : P < 9) (hB : B < 10) (hT : T < 10) : jr_rows (nI P) (nI B) (nI T) = lN (jw_W P T P 0 (B : Int)) := by
  unfold jr_rows
  rw [nI_toInt (by omega), nI_toInt (by omega), nI_toInt (by omega), if_pos (by omega)]
  rfl
theorem jb_lt {P T : Nat} {t : Int} (hP2 : P < 9) (hT : T < 10) : jw_W P T P 0 t < 2 ^ 31 := by
  have h1 := jw_bd (p := P) (top := T) (by omega) P 0 t
  have h2 : 10 ^ P ≤ 10 ^ 8 := Nat.pow_le_pow_right (by omega) (by omega)
  omega
theorem jb_toN {x : Int32} {P : Nat} (h : x = nI P) (h0 : 0 ≤ x.toInt) (h1 : x.toInt ≤ 9) (hP : P < 2 ^ 31) : (P : Int) = x.toInt := by
  rw [h, nI_toInt hP]
theorem jb_of2 {x : Int32} {m : Nat} (h0 : 0 ≤ x.toInt) (h1 : x.toInt ≤ m) : ∃ P, P ≤ m ∧ x = nI P ∧ x.toInt = P := ⟨x.toInt.toNat, by omega, jb_of h0, by omega⟩
set_option maxRecDepth 100000 in
set_option maxHeartbeats 8000000 in
theorem c_X8_rows (l : Launch) (D : va_G) (kp : Nat → ClassId) {n : Nat} {E : Nat → jv_E} (h0 : E 0 = cx0) (h29 : E 29 = cx29) (h30 : E 30 = cx30) (p1 p2 p3 : Int32) :
    jv_M l D vwCl kp yX8_rows wsX8_rows rm5 [] [.ref 0, .int p1, .int p2, .int p3] n E 0 0 (fun r n1 E1 => some (.long (jr_rows p1 p2 p3)) = r ∧ ∀ j, 58 ≤ j → E1 j = E j) := by
  refine jv_of (by decide) rfl (Nat.le_of_ble_eq_true rfl) (fun G C B hI hnl => ?_)
  show jv_V l D vwCl kp G 0 0 n E 0 [(0, .ref 0), (1, .int p1), (2, .int p2), (3, .int p3)] []
  refine jv_iload_n C dX8_rows_0 1 rfl ?_
  refine jv_iload_n C dX8_rows_1 2 rfl ?_
  refine jv_iload_n C dX8_rows_2 3 rfl ?_
  refine jv_callS (na := 3) (As := [.int p1, .int p2, .int p3]) (st := []) C (c_X8_isRowKind l D kp p1 p2 p3) gX8_rows_X8_isRowKind rfl rfl rfl q_X8_isRowKind rfl ⟨by decide, by decide⟩ ⟨by decide, by decide⟩ (fun _ h => absurd h List.not_mem_nil) (Nat.le_of_ble_eq_true rfl) rfl dX8_rows_3 (fun r n1 E1 hp _ => ?_)
  obtain ⟨⟨rfl, hc⟩ | ⟨rfl, hc⟩, rfl, rfl⟩ := hp
  · show jv_V l D vwCl kp G 0 0 n E 6 [(0, .ref 0), (1, .int p1), (2, .int p2), (3, .int p3)] [.int 1]
    obtain ⟨P, hP1, rfl, hP3⟩ := jb_of2 (x := p1) (m := 8) (by omega) (by omega)
    obtain ⟨b, hb1, rfl, hb3⟩ := jb_of2 (x := p2) (m := 9) (by omega) (by omega)
    obtain ⟨T, hT1, rfl, hT3⟩ := jb_of2 (x := p3) (m := 9) (by omega) (by omega)
    have hP : 1 ≤ P := by omega
    have hP2 : P < 9 := by omega
    have hb : b < 10 := by omega
    have hT : T < 10 := by omega
    refine jv_if_ne (tgt := 13) C dX8_rows_6 (by decide) (fun _ => ?_) (fun h => absurd h (by decide))
    refine jv_aload_n C dX8_rows_13 0 rfl ?_
    refine jv_getf (fk := 8) C (by decide) h0 rfl in_X8_rows_8 (by decide) (by decide +kernel) rfl rfl dX8_rows_14 ?_
    refine jv_iload_n C dX8_rows_17 1 rfl ?_
    refine jv_iload_n C dX8_rows_18 2 rfl ?_
    refine jv_iload_n C dX8_rows_19 3 rfl ?_
    refine jv_callV (na := 3) (As := [.int (nI P), .int (nI b), .int (nI T)]) (st := []) C (c_waysOf l D kp h29 h30 hP hP2 hT hb (jb_ne0 hP (by omega))) gX8_rows_X7_waysOf rfl (by decide) h29 rfl rfl rfl q_X7_waysOf rfl ⟨by decide, by decide⟩ ⟨by decide, by decide⟩ (fun _ h => absurd h List.not_mem_nil) (Nat.le_of_ble_eq_true rfl) rfl dX8_rows_20 (fun r n1 E1 hp _ => ?_)
    obtain ⟨rfl, rfl, hf, -, -⟩ := hp
    show jv_V l D vwCl kp G 0 0 n E1 23 [(0, .ref 0), (1, .int (nI P)), (2, .int (nI b)), (3, .int (nI T))] [.int (nI (jw_W P T P 0 (b : Int)))]
    refine jv_i2l C dX8_rows_23 ?_
    refine jv_tl (nI_l (jb_lt hP2 hT)) ?_
    exact jv_lret C B ⟨by rw [jr_rows_in hP hP2 hb hT], fun j h => hf j (by omega) (by omega)⟩ ⟨by decide, by decide⟩ dX8_rows_24
  · show jv_V l D vwCl kp G 0 0 n E 6 [(0, .ref 0), (1, .int p1), (2, .int p2), (3, .int p3)] [.int 0]
    refine jv_if_ne (tgt := 13) C dX8_rows_6 (by decide) (fun h => absurd (by decide) h) (fun _ => ?_)
    refine jv_ldc2 (v := (-2)) C dX8_rows_9 (by decide +kernel) ?_
    exact jv_lret C B ⟨by unfold jr_rows; rw [if_neg hc], fun _ _ => rfl⟩ ⟨by decide, by decide⟩ dX8_rows_12
