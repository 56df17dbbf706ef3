theorem jv_t64 (x : Int32) : x.toInt64.toInt = x.toInt := Int32.toInt_toInt64 x
theorem jv_vi {i : Int32} {z : Nat} (h : 0 ≤ i.toInt ∧ i.toInt < (z : Int)) : vp_in i z := vp_in_iff.mpr h
abbrev jx_im : Nat → Option Nat := va_up (va_up (va_up (fun _ => none) (0 : Int32).toNatClampNeg (some 37)) (1 : Int32).toNatClampNeg (some 44)) (2 : Int32).toNatClampNeg (some 51)
abbrev jx_w : Nat → Int32 := upd (upd (upd (upd (fun _ => 0) (0 : Int32).toNatClampNeg (-1)) (1 : Int32).toNatClampNeg (-1)) (2 : Int32).toNatClampNeg (-1)) (3 : Int32).toNatClampNeg (-1)
theorem jx_w4 {i : Int32} (h : vp_in i 4) : jx_w i.toNatClampNeg = -1 := by
  obtain ⟨j, hj, rfl⟩ := vp_in_of h (by decide)
  rw [nI_clamp (by omega)]
  match j, hj with
  | 0, _ => decide
  | 1, _ => decide
  | 2, _ => decide
  | 3, _ => decide
abbrev cx0 : jv_E := .inr (8, [.ref 1, .ref 8, .ref 15, .ref 16, .ref 17, .ref 19, .ref 22, .ref 26, .ref 29, .ref 31, .ref 33])
abbrev cx1 : jv_E := .inr (0, [.int 0, .int 0, .int 0, .int 0, .int 0, .ref 2, .ref 3, .ref 4, .ref 5, .ref 6, .ref 7, .int 0, .int 0, .int 0, .int 0, .int 0])
abbrev cx2 : jv_E := .inl (0, 48, .inl (fun _ => 0))
abbrev cx3 : jv_E := .inl (0, 48, .inl (fun _ => 0))
abbrev cx4 : jv_E := .inl (0, 6, .inl (fun _ => 0))
abbrev cx5 : jv_E := .inl (0, 6, .inl (fun _ => 0))
abbrev cx6 : jv_E := .inl (0, 6, .inl (fun _ => 0))
abbrev cx7 : jv_E := .inl (0, 24, .inl (fun _ => 0))
abbrev cx8 : jv_E := .inr (0, [.int 0, .int 0, .int 0, .int 0, .int 0, .ref 9, .ref 10, .ref 11, .ref 12, .ref 13, .ref 14, .int 0, .int 0, .int 0, .int 0, .int 0])
abbrev cx9 : jv_E := .inl (0, 48, .inl (fun _ => 0))
abbrev cx10 : jv_E := .inl (0, 48, .inl (fun _ => 0))
abbrev cx11 : jv_E := .inl (0, 6, .inl (fun _ => 0))
abbrev cx12 : jv_E := .inl (0, 6, .inl (fun _ => 0))
abbrev cx13 : jv_E := .inl (0, 6, .inl (fun _ => 0))
abbrev cx14 : jv_E := .inl (0, 24, .inl (fun _ => 0))
abbrev cx15 : jv_E := .inl (4, 3, .inr (.inr (.inr (.inr jx_im))))
abbrev cx16 : jv_E := .inl (2, 3, .inl (fun _ => 0))
abbrev cx17 : jv_E := .inr (3, [.ref 18, .int 0, .int 0, .int (-1), .ref 8, .int 0, .int 0, .int 0, .int 0, .int 0, .int 0, .int 0])
abbrev cx18 : jv_E := .inl (1, 1600, .inl (fun _ => 0))
abbrev cx19 : jv_E := .inr (1, [.int 0, .int 0, .int 0, .int 0, .int 0, .int 0, .ref 20, .ref 21])
abbrev cx20 : jv_E := .inl (0, 60, .inl (fun _ => 0))
abbrev cx21 : jv_E := .inl (0, 158, .inl (fun _ => 0))
abbrev cx22 : jv_E := .inr (2, [.int 0, .int 0, .int 0, .ref 23, .int 0, .int 0, .int 0, .ref 24, .ref 25])
abbrev cx23 : jv_E := .inl (0, 6, .inl (fun _ => 0))
abbrev cx24 : jv_E := .inl (0, 6, .inl (fun _ => 0))
abbrev cx25 : jv_E := .inl (0, 576, .inl (fun _ => 0))
abbrev cx26 : jv_E := .inr (5, [.ref 27, .ref 28])
abbrev cx27 : jv_E := .inl (0, 512, .inl (fun _ => 0))
abbrev cx28 : jv_E := .inl (0, 512, .inl (fun _ => 0))
abbrev cx29 : jv_E := .inr (7, [.int 0, .int 0, .ref 30])
abbrev cx30 : jv_E := .inl (0, 2560, .inl (fun _ => 0))
abbrev cx31 : jv_E := .inr (6, [.int 0, .int 0, .int 0, .int 0, .ref 32])
abbrev cx32 : jv_E := .inl (0, 6, .inl (fun _ => 0))
abbrev cx33 : jv_E := .inr (4, [.ref 34, .ref 35, .ref 36])
abbrev cx34 : jv_E := .inl (0, 4, .inl (fun _ => 0))
abbrev cx35 : jv_E := .inl (0, 4, .inl jx_w)
abbrev cx36 : jv_E := .inl (3, 240, .inr (.inl (fun _ => 0)))
abbrev cx37 : jv_E := .inr (0, [.int 0, .int 0, .int 0, .int 0, .int 0, .ref 38, .ref 39, .ref 40, .ref 41, .ref 42, .ref 43, .int 0, .int 0, .int 0, .int 0, .int 0])
abbrev cx38 : jv_E := .inl (0, 48, .inl (fun _ => 0))
abbrev cx39 : jv_E := .inl (0, 48, .inl (fun _ => 0))
abbrev cx40 : jv_E := .inl (0, 6, .inl (fun _ => 0))
abbrev cx41 : jv_E := .inl (0, 6, .inl (fun _ => 0))
abbrev cx42 : jv_E := .inl (0, 6, .inl (fun _ => 0))
abbrev cx43 : jv_E := .inl (0, 24, .inl (fun _ => 0))
abbrev cx44 : jv_E := .inr (0, [.int 0, .int 0, .int 0, .int 0, .int 0, .ref 45, .ref 46, .ref 47, .ref 48, .ref 49, .ref 50, .int 0, .int 0, .int 0, .int 0, .int 0])
abbrev cx45 : jv_E := .inl (0, 48, .inl (fun _ => 0))
abbrev cx46 : jv_E := .inl (0, 48, .inl (fun _ => 0))
abbrev cx47 : jv_E := .inl (0, 6, .inl (fun _ => 0))
abbrev cx48 : jv_E := .inl (0, 6, .inl (fun _ => 0))
abbrev cx49 : jv_E := .inl (0, 6, .inl (fun _ => 0))
abbrev cx50 : jv_E := .inl (0, 24, .inl (fun _ => 0))
abbrev cx51 : jv_E := .inr (0, [.int 0, .int 0, .int 0, .int 0, .int 0, .ref 52, .ref 53, .ref 54, .ref 55, .ref 56, .ref 57, .int 0, .int 0, .int 0, .int 0, .int 0])
abbrev cx52 : jv_E := .inl (0, 48, .inl (fun _ => 0))
abbrev cx53 : jv_E := .inl (0, 48, .inl (fun _ => 0))
abbrev cx54 : jv_E := .inl (0, 6, .inl (fun _ => 0))
abbrev cx55 : jv_E := .inl (0, 6, .inl (fun _ => 0))
abbrev cx56 : jv_E := .inl (0, 6, .inl (fun _ => 0))
abbrev cx57 : jv_E := .inl (0, 24, .inl (fun _ => 0))
abbrev cx58 : jv_E := .inr (9, [.int 0, .ref 59, .ref 60, .ref 61, .ref 62, .ref 63, .int 0, .int 0, .int 0, .int 0, .int 0, .long 0, .int 0, .int 0, .int 0, .int (-1), .ref 64, .ref 65, .ref 66, .ref 67, .ref 68, .ref 69, .ref 70, .ref 71, .ref 72, .ref 73, .int 0, .ref 74, .ref 75, .ref 76, .int 0, .int 0, .ref 77, .ref 78, .ref 79, .int 0, .int 0, .int 0, .ref 80, .ref 81, .ref 82, .long 0, .ref 83, .int 0, .int 0, .int 0])
abbrev cx59 : jv_E := .inl (0, 4, .inl jx_w)
abbrev cx60 : jv_E := .inl (0, 4, .inl (fun _ => 0))
abbrev cx61 : jv_E := .inl (3, 240, .inr (.inl (fun _ => 0)))
abbrev cx62 : jv_E := .inl (3, 60, .inr (.inl (fun _ => 0)))
abbrev cx63 : jv_E := .inl (1, 1600, .inl (fun _ => 0))
abbrev cx64 : jv_E := .inl (0, 6, .inl (fun _ => 0))
abbrev cx65 : jv_E := .inl (0, 6, .inl (fun _ => 0))
abbrev cx66 : jv_E := .inl (0, 36, .inl (fun _ => 0))
abbrev cx67 : jv_E := .inl (0, 36, .inl (fun _ => 0))
abbrev cx68 : jv_E := .inl (0, 288, .inl (fun _ => 0))
abbrev cx69 : jv_E := .inl (0, 288, .inl (fun _ => 0))
abbrev cx70 : jv_E := .inl (0, 12, .inl (fun _ => 0))
abbrev cx71 : jv_E := .inl (0, 72, .inl (fun _ => 0))
abbrev cx72 : jv_E := .inl (0, 144, .inl (fun _ => 0))
abbrev cx73 : jv_E := .inl (0, 12, .inl (fun _ => 0))
abbrev cx74 : jv_E := .inl (2, 3, .inl (fun _ => 0))
abbrev cx75 : jv_E := .inl (0, 8, .inl (fun _ => 0))
abbrev cx76 : jv_E := .inl (0, 8, .inl (fun _ => 0))
abbrev cx77 : jv_E := .inl (2, 5040, .inl (fun _ => 0))
abbrev cx78 : jv_E := .inl (2, 32400, .inl (fun _ => 0))
abbrev cx79 : jv_E := .inl (0, 32400, .inl (fun _ => 0))
abbrev cx80 : jv_E := .inl (0, 100, .inl (fun _ => 0))
abbrev cx81 : jv_E := .inl (0, 512, .inl (fun _ => 0))
abbrev cx82 : jv_E := .inl (3, 18688, .inr (.inl (fun _ => 0)))
abbrev cx83 : jv_E := .inl (2, 96, .inl (fun _ => 0))
abbrev rm1 : Room := { frames := 1, cells := 0, slots := 0, locals := 40 }
abbrev rm2 : Room := { frames := 2, cells := 0, slots := 0, locals := 80 }
abbrev rm3 : Room := { frames := 3, cells := 0, slots := 0, locals := 120 }
abbrev rm4 : Room := { frames := 4, cells := 0, slots := 0, locals := 160 }
abbrev rm5 : Room := { frames := 5, cells := 0, slots := 0, locals := 200 }
abbrev rm6 : Room := { frames := 6, cells := 0, slots := 0, locals := 240 }
abbrev rm7 : Room := { frames := 7, cells := 0, slots := 0, locals := 280 }
abbrev rm8 : Room := { frames := 8, cells := 0, slots := 0, locals := 320 }
abbrev rm9 : Room := { frames := 9, cells := 0, slots := 0, locals := 360 }
abbrev rm10 : Room := { frames := 10, cells := 0, slots := 0, locals := 400 }
abbrev rm11 : Room := { frames := 11, cells := 0, slots := 0, locals := 440 }
theorem in_X0_hasRoof_0 : ∀ w ∈ u_ws RX0 TX0 16, w ∈ wsX0_hasRoof := by decide +kernel
set_option maxRecDepth 100000 in
set_option maxHeartbeats 4000000 in
theorem c_X0_hasRoof (l : Launch) (D : va_G) (kp : Nat → ClassId) {n : Nat} {E : Nat → jv_E} (h1 : E 1 = cx1) (p1 : Int32) : jv_M l D vwCl kp yX0_hasRoof wsX0_hasRoof rm1 [] [.ref 1, .int p1] n E 0 0 (fun r n1 E1 => some (.int 0) = r ∧ n = n1 ∧ E = E1) := by
  refine jv_of (by decide) rfl (Nat.le_of_ble_eq_true rfl) (fun G C B hI hnl => ?_)
  show jv_V l D vwCl kp G 0 0 n E 0 [(0, .ref 1), (1, .int p1)] []
  refine jv_iload_n C dX0_hasRoof_0 1 rfl ?_
  refine jv_if_lt (tgt := 16) C dX0_hasRoof_1 (by decide) (fun c1 => ?_) (fun c1 => ?_)
  · refine jv_iconst (v := 0) C dX0_hasRoof_16 (by decide) ?_
    exact jv_zret C B (by decide) ⟨rfl, rfl, rfl⟩ ⟨by decide, by decide⟩ dX0_hasRoof_17
  · refine jv_iload_n C dX0_hasRoof_4 1 rfl ?_
    refine jv_aload_n C dX0_hasRoof_5 0 rfl ?_
    refine jv_getf (fk := 0) C (by decide) h1 rfl in_X0_hasRoof_0 (by decide) (by decide +kernel) rfl rfl dX0_hasRoof_6 ?_
    refine jv_icmp_ge (tgt := 16) C dX0_hasRoof_9 (by decide) (fun _ => ?_) (fun h => absurd (jv_r_le (by have a0 := jv_i_nlt c1; have z0 : (0 : Int32).toInt = 0 := (by decide); omega)) h)
    refine jv_iconst (v := 0) C dX0_hasRoof_16 (by decide) ?_
    exact jv_zret C B (by decide) ⟨rfl, rfl, rfl⟩ ⟨by decide, by decide⟩ dX0_hasRoof_17
theorem in_X0_isTold_0 : ∀ w ∈ u_ws RX0 TX0 16, w ∈ wsX0_isTold := by decide +kernel
set_option maxRecDepth 100000 in
set_option maxHeartbeats 4000000 in
theorem c_X0_isTold (l : Launch) (D : va_G) (kp : Nat → ClassId) {n : Nat} {E : Nat → jv_E} (h1 : E 1 = cx1)  : jv_M l D vwCl kp yX0_isTold wsX0_isTold rm1 [] [.ref 1] n E 0 0 (fun r n1 E1 => some (.int 0) = r ∧ n = n1 ∧ E = E1) := by
  refine jv_of (by decide) rfl (Nat.le_of_ble_eq_true rfl) (fun G C B hI hnl => ?_)
  show jv_V l D vwCl kp G 0 0 n E 0 [(0, .ref 1)] []
  refine jv_aload_n C dX0_isTold_0 0 rfl ?_
  refine jv_getf (fk := 0) C (by decide) h1 rfl in_X0_isTold_0 (by decide) (by decide +kernel) rfl rfl dX0_isTold_1 ?_
  refine jv_if_le (tgt := 11) C dX0_isTold_4 (by decide) (fun _ => ?_) (fun h => absurd (by decide) h)
  refine jv_iconst (v := 0) C dX0_isTold_11 (by decide) ?_
  exact jv_zret C B (by decide) ⟨rfl, rfl, rfl⟩ ⟨by decide, by decide⟩ dX0_isTold_12
theorem q_X0_hasRoof : yX0_hasRoof.cls ≠ "java/lang/invoke/MethodHandle" ∧ yX0_hasRoof.cls ≠ "java/lang/invoke/VarHandle" ∧ (parseMethodDescriptor yX0_hasRoof.desc).map (fun d => d.parameters.length) = some 1 := by decide +kernel
set_option maxRecDepth 100000 in
set_option maxHeartbeats 4000000 in
theorem c_X0_hasThrow (l : Launch) (D : va_G) (kp : Nat → ClassId) {n : Nat} {E : Nat → jv_E} (h1 : E 1 = cx1) (p1 : Int32) (p2 : Int32) : jv_M l D vwCl kp yX0_hasThrow wsX0_hasThrow rm2 [] [.ref 1, .int p1, .int p2] n E 0 0 (fun r n1 E1 => some (.int 0) = r ∧ n = n1 ∧ E = E1) := by
  refine jv_of (by decide) rfl (Nat.le_of_ble_eq_true rfl) (fun G C B hI hnl => ?_)
  show jv_V l D vwCl kp G 0 0 n E 0 [(0, .ref 1), (1, .int p1), (2, .int p2)] []
  refine jv_aload_n C dX0_hasThrow_0 0 rfl ?_
  refine jv_iload_n C dX0_hasThrow_1 1 rfl ?_
  refine jv_callV (na := 1) (As := [.int p1]) (st := []) C (c_X0_hasRoof l D kp h1 p1) gX0_hasThrow_X0_hasRoof rfl (by decide) h1 rfl rfl rfl q_X0_hasRoof rfl ⟨by decide, by decide⟩ ⟨by decide, by decide⟩ (fun _ h => absurd h List.not_mem_nil) (Nat.le_of_ble_eq_true rfl) rfl dX0_hasThrow_2 (fun r n1 E_1 hp _ => ?_)
  obtain ⟨rfl, rfl, rfl⟩ := hp
  show jv_V l D vwCl kp G 0 0 n E 5 [(0, .ref 1), (1, .int p1), (2, .int p2)] [.int 0]
  refine jv_if_eq (tgt := 26) C dX0_hasThrow_5 (by decide) (fun _ => ?_) (fun h => absurd (by decide) h)
  refine jv_iconst (v := 0) C dX0_hasThrow_26 (by decide) ?_
  exact jv_zret C B (by decide) ⟨rfl, rfl, rfl⟩ ⟨by decide, by decide⟩ dX0_hasThrow_27
theorem in_X0_hasLetter_0 : ∀ w ∈ u_ws RX0 TX0 16, w ∈ wsX0_hasLetter := by decide +kernel
set_option maxRecDepth 100000 in
set_option maxHeartbeats 4000000 in
theorem c_X0_hasLetter (l : Launch) (D : va_G) (kp : Nat → ClassId) {n : Nat} {E : Nat → jv_E} (h1 : E 1 = cx1) (p1 : Int32) : jv_M l D vwCl kp yX0_hasLetter wsX0_hasLetter rm1 [] [.ref 1, .int p1] n E 0 0 (fun r n1 E1 => some (.int 0) = r ∧ n = n1 ∧ E = E1) := by
  refine jv_of (by decide) rfl (Nat.le_of_ble_eq_true rfl) (fun G C B hI hnl => ?_)
  show jv_V l D vwCl kp G 0 0 n E 0 [(0, .ref 1), (1, .int p1)] []
  refine jv_iload_n C dX0_hasLetter_0 1 rfl ?_
  refine jv_if_lt (tgt := 16) C dX0_hasLetter_1 (by decide) (fun c1 => ?_) (fun c1 => ?_)
  · refine jv_iconst (v := 0) C dX0_hasLetter_16 (by decide) ?_
    exact jv_zret C B (by decide) ⟨rfl, rfl, rfl⟩ ⟨by decide, by decide⟩ dX0_hasLetter_17
  · refine jv_iload_n C dX0_hasLetter_4 1 rfl ?_
    refine jv_aload_n C dX0_hasLetter_5 0 rfl ?_
    refine jv_getf (fk := 2) C (by decide) h1 rfl in_X0_hasLetter_0 (by decide) (by decide +kernel) rfl rfl dX0_hasLetter_6 ?_
    refine jv_icmp_ge (tgt := 16) C dX0_hasLetter_9 (by decide) (fun _ => ?_) (fun h => absurd (jv_r_le (by have a0 := jv_i_nlt c1; have z0 : (0 : Int32).toInt = 0 := (by decide); omega)) h)
    refine jv_iconst (v := 0) C dX0_hasLetter_16 (by decide) ?_
    exact jv_zret C B (by decide) ⟨rfl, rfl, rfl⟩ ⟨by decide, by decide⟩ dX0_hasLetter_17
set_option maxRecDepth 100000 in
set_option maxHeartbeats 4000000 in
theorem c_X4_isSlot (l : Launch) (D : va_G) (kp : Nat → ClassId) {n : Nat} {E : Nat → jv_E} (h33 : E 33 = cx33) (p1 : Int32) : jv_M l D vwCl kp yX4_isSlot wsX4_isSlot rm1 [] [.ref 33, .int p1] n E 0 0 (fun r n1 E1 => ((some (.int 1) = r ∧ 0 ≤ p1.toInt ∧ p1.toInt ≤ 3) ∨ (some (.int 0) = r ∧ (p1.toInt < 0 ∨ 3 < p1.toInt))) ∧ n = n1 ∧ E = E1) := by
  refine jv_of (by decide) rfl (Nat.le_of_ble_eq_true rfl) (fun G C B hI hnl => ?_)
  show jv_V l D vwCl kp G 0 0 n E 0 [(0, .ref 33), (1, .int p1)] []
  refine jv_iload_n C dX4_isSlot_0 1 rfl ?_
  refine jv_if_lt (tgt := 13) C dX4_isSlot_1 (by decide) (fun c1 => ?_) (fun c1 => ?_)
  · refine jv_iconst (v := 0) C dX4_isSlot_13 (by decide) ?_
    exact jv_zret C B (by decide) ⟨Or.inr ⟨rfl, by have a0 := jv_i_lt c1; have z0 : (0 : Int32).toInt = 0 := (by decide); omega⟩, rfl, rfl⟩ ⟨by decide, by decide⟩ dX4_isSlot_14
  · refine jv_iload_n C dX4_isSlot_4 1 rfl ?_
    refine jv_iconst (v := 4) C dX4_isSlot_5 (by decide) ?_
    refine jv_icmp_ge (tgt := 13) C dX4_isSlot_6 (by decide) (fun c2 => ?_) (fun c2 => ?_)
    · refine jv_iconst (v := 0) C dX4_isSlot_13 (by decide) ?_
      exact jv_zret C B (by decide) ⟨Or.inr ⟨rfl, by have a0 := jv_i_nlt c1; have a1 := jv_i_le c2; have z0 : (0 : Int32).toInt = 0 := (by decide); have z4 : (4 : Int32).toInt = 4 := (by decide); omega⟩, rfl, rfl⟩ ⟨by decide, by decide⟩ dX4_isSlot_14
    · refine jv_iconst (v := 1) C dX4_isSlot_9 (by decide) ?_
      refine jv_goto (tgt := 14) C dX4_isSlot_10 (by decide) ?_
      exact jv_zret C B (by decide) ⟨Or.inl ⟨rfl, by have a0 := jv_i_nlt c1; have a1 := jv_i_nle c2; have z0 : (0 : Int32).toInt = 0 := (by decide); have z4 : (4 : Int32).toInt = 4 := (by decide); omega⟩, rfl, rfl⟩ ⟨by decide, by decide⟩ dX4_isSlot_14
theorem q_X0_isTold : yX0_isTold.cls ≠ "java/lang/invoke/MethodHandle" ∧ yX0_isTold.cls ≠ "java/lang/invoke/VarHandle" ∧ (parseMethodDescriptor yX0_isTold.desc).map (fun d => d.parameters.length) = some 0 := by decide +kernel
theorem in_X8_areGusts_8 : ∀ w ∈ u_ws RX8 TX8 11, w ∈ wsX8_areGusts := by decide +kernel
set_option maxRecDepth 100000 in
set_option maxHeartbeats 4000000 in
theorem c_X8_areGusts (l : Launch) (D : va_G) (kp : Nat → ClassId) {n : Nat} {E : Nat → jv_E} (h0 : E 0 = cx0) (h1 : E 1 = cx1) (p1 : Int32) (p2 : Int32) : jv_M l D vwCl kp yX8_areGusts wsX8_areGusts rm2 [] [.ref 0, .int p1, .int p2] n E 0 0 (fun r n1 E1 => some (.int 0) = r ∧ n = n1 ∧ E = E1) := by
  refine jv_of (by decide) rfl (Nat.le_of_ble_eq_true rfl) (fun G C B hI hnl => ?_)
  show jv_V l D vwCl kp G 0 0 n E 0 [(0, .ref 0), (1, .int p1), (2, .int p2)] []
  refine jv_aload_n C dX8_areGusts_0 0 rfl ?_
  refine jv_getf (fk := 0) C (by decide) h0 rfl in_X8_areGusts_8 (by decide) (by decide +kernel) rfl rfl dX8_areGusts_1 ?_
  refine jv_callV (na := 0) (As := []) (st := []) C (c_X0_isTold l D kp h1 ) gX8_areGusts_X0_isTold rfl (by decide) h1 rfl rfl rfl q_X0_isTold rfl ⟨by decide, by decide⟩ ⟨by decide, by decide⟩ (fun _ h => absurd h List.not_mem_nil) (Nat.le_of_ble_eq_true rfl) rfl dX8_areGusts_4 (fun r n1 E_1 hp _ => ?_)
  obtain ⟨rfl, rfl, rfl⟩ := hp
  show jv_V l D vwCl kp G 0 0 n E 7 [(0, .ref 0), (1, .int p1), (2, .int p2)] [.int 0]
  refine jv_if_eq (tgt := 34) C dX8_areGusts_7 (by decide) (fun _ => ?_) (fun h => absurd (by decide) h)
  refine jv_iconst (v := 0) C dX8_areGusts_34 (by decide) ?_
  exact jv_zret C B (by decide) ⟨rfl, rfl, rfl⟩ ⟨by decide, by decide⟩ dX8_areGusts_35
theorem q_X4_isSlot : yX4_isSlot.cls ≠ "java/lang/invoke/MethodHandle" ∧ yX4_isSlot.cls ≠ "java/lang/invoke/VarHandle" ∧ (parseMethodDescriptor yX4_isSlot.desc).map (fun d => d.parameters.length) = some 1 := by decide +kernel
theorem in_X8_draftFrom_8 : ∀ w ∈ u_ws RX8 TX8 11, w ∈ wsX8_draftFrom := by decide +kernel
set_option maxRecDepth 100000 in
set_option maxHeartbeats 4000000 in
theorem c_X8_draftFrom (l : Launch) (D : va_G) (kp : Nat → ClassId) {n : Nat} {E : Nat → jv_E} (h0 : E 0 = cx0) (h1 : E 1 = cx1) (h33 : E 33 = cx33) (p1 : Int32) (p2 : Int32) : jv_M l D vwCl kp yX8_draftFrom wsX8_draftFrom rm2 [] [.ref 0, .int p1, .int p2] n E 0 0 (fun r n1 E1 => some (.int (-2)) = r ∧ n = n1 ∧ E = E1) := by
  refine jv_of (by decide) rfl (Nat.le_of_ble_eq_true rfl) (fun G C B hI hnl => ?_)
  show jv_V l D vwCl kp G 0 0 n E 0 [(0, .ref 0), (1, .int p1), (2, .int p2)] []
  refine jv_aload_n C dX8_draftFrom_0 0 rfl ?_
  refine jv_getf (fk := 10) C (by decide) h0 rfl in_X8_draftFrom_8 (by decide) (by decide +kernel) rfl rfl dX8_draftFrom_1 ?_
  refine jv_iload_n C dX8_draftFrom_4 1 rfl ?_
  refine jv_callV (na := 1) (As := [.int p1]) (st := []) C (c_X4_isSlot l D kp h33 p1) gX8_draftFrom_X4_isSlot rfl (by decide) h33 rfl rfl rfl q_X4_isSlot rfl ⟨by decide, by decide⟩ ⟨by decide, by decide⟩ (fun _ h => absurd h List.not_mem_nil) (Nat.le_of_ble_eq_true rfl) rfl dX8_draftFrom_5 (fun r n1 E_1 hp _ => ?_)
  obtain ⟨⟨rfl, q2⟩ | ⟨rfl, q2⟩, rfl, rfl⟩ := hp
  · show jv_V l D vwCl kp G 0 0 n E 8 [(0, .ref 0), (1, .int p1), (2, .int p2)] [.int 1]
    refine jv_if_eq (tgt := 22) C dX8_draftFrom_8 (by decide) (fun h => absurd h (by decide)) (fun _ => ?_)
    refine jv_aload_n C dX8_draftFrom_11 0 rfl ?_
    refine jv_getf (fk := 0) C (by decide) h0 rfl in_X8_draftFrom_8 (by decide) (by decide +kernel) rfl rfl dX8_draftFrom_12 ?_
    refine jv_iload_n C dX8_draftFrom_15 2 rfl ?_
    refine jv_callV (na := 1) (As := [.int p2]) (st := []) C (c_X0_hasRoof l D kp h1 p2) gX8_draftFrom_X0_hasRoof rfl (by decide) h1 rfl rfl rfl q_X0_hasRoof rfl ⟨by decide, by decide⟩ ⟨by decide, by decide⟩ (fun _ h => absurd h List.not_mem_nil) (Nat.le_of_ble_eq_true rfl) rfl dX8_draftFrom_16 (fun r n1 E_3 hp _ => ?_)
    obtain ⟨rfl, rfl, rfl⟩ := hp
    show jv_V l D vwCl kp G 0 0 n E 19 [(0, .ref 0), (1, .int p1), (2, .int p2)] [.int 0]
    refine jv_if_ne (tgt := 25) C dX8_draftFrom_19 (by decide) (fun h => absurd h (by decide)) (fun _ => ?_)
    refine jv_bipush (v := (-2)) C dX8_draftFrom_22 (by decide) ?_
    exact jv_iret C B ⟨rfl, rfl, rfl⟩ ⟨by decide, by decide⟩ dX8_draftFrom_24
  · show jv_V l D vwCl kp G 0 0 n E 8 [(0, .ref 0), (1, .int p1), (2, .int p2)] [.int 0]
    refine jv_if_eq (tgt := 22) C dX8_draftFrom_8 (by decide) (fun _ => ?_) (fun h => absurd (by decide) h)
    refine jv_bipush (v := (-2)) C dX8_draftFrom_22 (by decide) ?_
    exact jv_iret C B ⟨rfl, rfl, rfl⟩ ⟨by decide, by decide⟩ dX8_draftFrom_24
theorem in_X8_tosses_8 : ∀ w ∈ u_ws RX8 TX8 11, w ∈ wsX8_tosses := by decide +kernel
set_option maxRecDepth 100000 in
set_option maxHeartbeats 4000000 in
theorem c_X8_tosses (l : Launch) (D : va_G) (kp : Nat → ClassId) {n : Nat} {E : Nat → jv_E} (h0 : E 0 = cx0) (h1 : E 1 = cx1) (p1 : Int32) (p2 : Int32) (p3 : Int32) : jv_M l D vwCl kp yX8_tosses wsX8_tosses rm2 [] [.ref 0, .int p1, .int p2, .int p3] n E 0 0 (fun r n1 E1 => some (.int (-2)) = r ∧ n = n1 ∧ E = E1) := by
  refine jv_of (by decide) rfl (Nat.le_of_ble_eq_true rfl) (fun G C B hI hnl => ?_)
  show jv_V l D vwCl kp G 0 0 n E 0 [(0, .ref 0), (1, .int p1), (2, .int p2), (3, .int p3)] []
  refine jv_aload_n C dX8_tosses_0 0 rfl ?_
  refine jv_getf (fk := 0) C (by decide) h0 rfl in_X8_tosses_8 (by decide) (by decide +kernel) rfl rfl dX8_tosses_1 ?_
  refine jv_iload_n C dX8_tosses_4 1 rfl ?_
  refine jv_callV (na := 1) (As := [.int p1]) (st := []) C (c_X0_hasRoof l D kp h1 p1) gX8_tosses_X0_hasRoof rfl (by decide) h1 rfl rfl rfl q_X0_hasRoof rfl ⟨by decide, by decide⟩ ⟨by decide, by decide⟩ (fun _ h => absurd h List.not_mem_nil) (Nat.le_of_ble_eq_true rfl) rfl dX8_tosses_5 (fun r n1 E_1 hp _ => ?_)
  obtain ⟨rfl, rfl, rfl⟩ := hp
  show jv_V l D vwCl kp G 0 0 n E 8 [(0, .ref 0), (1, .int p1), (2, .int p2), (3, .int p3)] [.int 0]
  refine jv_if_eq (tgt := 26) C dX8_tosses_8 (by decide) (fun _ => ?_) (fun h => absurd (by decide) h)
  refine jv_bipush (v := (-2)) C dX8_tosses_26 (by decide) ?_
  exact jv_iret C B ⟨rfl, rfl, rfl⟩ ⟨by decide, by decide⟩ dX8_tosses_28
theorem in_X8_period_8 : ∀ w ∈ u_ws RX8 TX8 11, w ∈ wsX8_period := by decide +kernel
set_option maxRecDepth 100000 in
set_option maxHeartbeats 4000000 in
theorem c_X8_period (l : Launch) (D : va_G) (kp : Nat → ClassId) {n : Nat} {E : Nat → jv_E} (h0 : E 0 = cx0) (h1 : E 1 = cx1) (p1 : Int32) : jv_M l D vwCl kp yX8_period wsX8_period rm2 [] [.ref 0, .int p1] n E 0 0 (fun r n1 E1 => some (.int (-2)) = r ∧ n = n1 ∧ E = E1) := by
  refine jv_of (by decide) rfl (Nat.le_of_ble_eq_true rfl) (fun G C B hI hnl => ?_)
  show jv_V l D vwCl kp G 0 0 n E 0 [(0, .ref 0), (1, .int p1)] []
  refine jv_aload_n C dX8_period_0 0 rfl ?_
  refine jv_getf (fk := 0) C (by decide) h0 rfl in_X8_period_8 (by decide) (by decide +kernel) rfl rfl dX8_period_1 ?_
  refine jv_iload_n C dX8_period_4 1 rfl ?_
  refine jv_callV (na := 1) (As := [.int p1]) (st := []) C (c_X0_hasRoof l D kp h1 p1) gX8_period_X0_hasRoof rfl (by decide) h1 rfl rfl rfl q_X0_hasRoof rfl ⟨by decide, by decide⟩ ⟨by decide, by decide⟩ (fun _ h => absurd h List.not_mem_nil) (Nat.le_of_ble_eq_true rfl) rfl dX8_period_5 (fun r n1 E_1 hp _ => ?_)
  obtain ⟨rfl, rfl, rfl⟩ := hp
  show jv_V l D vwCl kp G 0 0 n E 8 [(0, .ref 0), (1, .int p1)] [.int 0]
  refine jv_if_eq (tgt := 23) C dX8_period_8 (by decide) (fun _ => ?_) (fun h => absurd (by decide) h)
  refine jv_bipush (v := (-2)) C dX8_period_23 (by decide) ?_
  exact jv_iret C B ⟨rfl, rfl, rfl⟩ ⟨by decide, by decide⟩ dX8_period_25
theorem in_X8_turn_8 : ∀ w ∈ u_ws RX8 TX8 11, w ∈ wsX8_turn := by decide +kernel
set_option maxRecDepth 100000 in
set_option maxHeartbeats 4000000 in
theorem c_X8_turn (l : Launch) (D : va_G) (kp : Nat → ClassId) {n : Nat} {E : Nat → jv_E} (h0 : E 0 = cx0) (h1 : E 1 = cx1)  : jv_M l D vwCl kp yX8_turn wsX8_turn rm2 [] [.ref 0] n E 0 0 (fun r n1 E1 => some (.int (-2)) = r ∧ n = n1 ∧ E = E1) := by
  refine jv_of (by decide) rfl (Nat.le_of_ble_eq_true rfl) (fun G C B hI hnl => ?_)
  show jv_V l D vwCl kp G 0 0 n E 0 [(0, .ref 0)] []
  refine jv_aload_n C dX8_turn_0 0 rfl ?_
  refine jv_getf (fk := 0) C (by decide) h0 rfl in_X8_turn_8 (by decide) (by decide +kernel) rfl rfl dX8_turn_1 ?_
  refine jv_callV (na := 0) (As := []) (st := []) C (c_X0_isTold l D kp h1 ) gX8_turn_X0_isTold rfl (by decide) h1 rfl rfl rfl q_X0_isTold rfl ⟨by decide, by decide⟩ ⟨by decide, by decide⟩ (fun _ h => absurd h List.not_mem_nil) (Nat.le_of_ble_eq_true rfl) rfl dX8_turn_4 (fun r n1 E_1 hp _ => ?_)
  obtain ⟨rfl, rfl, rfl⟩ := hp
  show jv_V l D vwCl kp G 0 0 n E 7 [(0, .ref 0)] [.int 0]
  refine jv_if_eq (tgt := 24) C dX8_turn_7 (by decide) (fun _ => ?_) (fun h => absurd (by decide) h)
  refine jv_bipush (v := (-2)) C dX8_turn_24 (by decide) ?_
  exact jv_iret C B ⟨rfl, rfl, rfl⟩ ⟨by decide, by decide⟩ dX8_turn_26
theorem q_X0_hasThrow : yX0_hasThrow.cls ≠ "java/lang/invoke/MethodHandle" ∧ yX0_hasThrow.cls ≠ "java/lang/invoke/VarHandle" ∧ (parseMethodDescriptor yX0_hasThrow.desc).map (fun d => d.parameters.length) = some 2 := by decide +kernel
theorem in_X8_set_8 : ∀ w ∈ u_ws RX8 TX8 11, w ∈ wsX8_set := by decide +kernel
set_option maxRecDepth 100000 in
set_option maxHeartbeats 4000000 in
theorem c_X8_set (l : Launch) (D : va_G) (kp : Nat → ClassId) {n : Nat} {E : Nat → jv_E} (h0 : E 0 = cx0) (h1 : E 1 = cx1) (p1 : Int32) (p2 : Int32) (p3 : Int32) (p4 : Int32) : jv_M l D vwCl kp yX8_set wsX8_set rm3 [] [.ref 0, .int p1, .int p2, .int p3, .int p4] n E 0 0 (fun r n1 E1 => some (.int (-2)) = r ∧ n = n1 ∧ E = E1) := by
  refine jv_of (by decide) rfl (Nat.le_of_ble_eq_true rfl) (fun G C B hI hnl => ?_)
  show jv_V l D vwCl kp G 0 0 n E 0 [(0, .ref 0), (1, .int p1), (2, .int p2), (3, .int p3), (4, .int p4)] []
  refine jv_aload_n C dX8_set_0 0 rfl ?_
  refine jv_getf (fk := 0) C (by decide) h0 rfl in_X8_set_8 (by decide) (by decide +kernel) rfl rfl dX8_set_1 ?_
  refine jv_iload_n C dX8_set_4 1 rfl ?_
  refine jv_iload_n C dX8_set_5 2 rfl ?_
  refine jv_callV (na := 2) (As := [.int p1, .int p2]) (st := []) C (c_X0_hasThrow l D kp h1 p1 p2) gX8_set_X0_hasThrow rfl (by decide) h1 rfl rfl rfl q_X0_hasThrow rfl ⟨by decide, by decide⟩ ⟨by decide, by decide⟩ (fun _ h => absurd h List.not_mem_nil) (Nat.le_of_ble_eq_true rfl) rfl dX8_set_6 (fun r n1 E_1 hp _ => ?_)
  obtain ⟨rfl, rfl, rfl⟩ := hp
  show jv_V l D vwCl kp G 0 0 n E 9 [(0, .ref 0), (1, .int p1), (2, .int p2), (3, .int p3), (4, .int p4)] [.int 0]
  refine jv_if_eq (tgt := 33) C dX8_set_9 (by decide) (fun _ => ?_) (fun h => absurd (by decide) h)
  refine jv_bipush (v := (-2)) C dX8_set_33 (by decide) ?_
  exact jv_iret C B ⟨rfl, rfl, rfl⟩ ⟨by decide, by decide⟩ dX8_set_35
theorem in_X8_swap_8 : ∀ w ∈ u_ws RX8 TX8 11, w ∈ wsX8_swap := by decide +kernel
set_option maxRecDepth 100000 in
set_option maxHeartbeats 4000000 in
theorem c_X8_swap (l : Launch) (D : va_G) (kp : Nat → ClassId) {n : Nat} {E : Nat → jv_E} (h0 : E 0 = cx0) (h1 : E 1 = cx1) (p1 : Int32) (p2 : Int32) (p3 : Int32) : jv_M l D vwCl kp yX8_swap wsX8_swap rm3 [] [.ref 0, .int p1, .int p2, .int p3] n E 0 0 (fun r n1 E1 => some (.int (-2)) = r ∧ n = n1 ∧ E = E1) := by
  refine jv_of (by decide) rfl (Nat.le_of_ble_eq_true rfl) (fun G C B hI hnl => ?_)
  show jv_V l D vwCl kp G 0 0 n E 0 [(0, .ref 0), (1, .int p1), (2, .int p2), (3, .int p3)] []
  refine jv_aload_n C dX8_swap_0 0 rfl ?_
  refine jv_getf (fk := 0) C (by decide) h0 rfl in_X8_swap_8 (by decide) (by decide +kernel) rfl rfl dX8_swap_1 ?_
  refine jv_iload_n C dX8_swap_4 1 rfl ?_
  refine jv_iload_n C dX8_swap_5 2 rfl ?_
  refine jv_callV (na := 2) (As := [.int p1, .int p2]) (st := []) C (c_X0_hasThrow l D kp h1 p1 p2) gX8_swap_X0_hasThrow rfl (by decide) h1 rfl rfl rfl q_X0_hasThrow rfl ⟨by decide, by decide⟩ ⟨by decide, by decide⟩ (fun _ h => absurd h List.not_mem_nil) (Nat.le_of_ble_eq_true rfl) rfl dX8_swap_6 (fun r n1 E_1 hp _ => ?_)
  obtain ⟨rfl, rfl, rfl⟩ := hp
  show jv_V l D vwCl kp G 0 0 n E 9 [(0, .ref 0), (1, .int p1), (2, .int p2), (3, .int p3)] [.int 0]
  refine jv_if_eq (tgt := 29) C dX8_swap_9 (by decide) (fun _ => ?_) (fun h => absurd (by decide) h)
  refine jv_bipush (v := (-2)) C dX8_swap_29 (by decide) ?_
  exact jv_iret C B ⟨rfl, rfl, rfl⟩ ⟨by decide, by decide⟩ dX8_swap_31
theorem in_X8_shift_8 : ∀ w ∈ u_ws RX8 TX8 11, w ∈ wsX8_shift := by decide +kernel
set_option maxRecDepth 100000 in
set_option maxHeartbeats 4000000 in
theorem c_X8_shift (l : Launch) (D : va_G) (kp : Nat → ClassId) {n : Nat} {E : Nat → jv_E} (h0 : E 0 = cx0) (h1 : E 1 = cx1) (p1 : Int32) (p2 : Int32) : jv_M l D vwCl kp yX8_shift wsX8_shift rm3 [] [.ref 0, .int p1, .int p2] n E 0 0 (fun r n1 E1 => some (.int (-2)) = r ∧ n = n1 ∧ E = E1) := by
  refine jv_of (by decide) rfl (Nat.le_of_ble_eq_true rfl) (fun G C B hI hnl => ?_)
  show jv_V l D vwCl kp G 0 0 n E 0 [(0, .ref 0), (1, .int p1), (2, .int p2)] []
  refine jv_aload_n C dX8_shift_0 0 rfl ?_
  refine jv_getf (fk := 0) C (by decide) h0 rfl in_X8_shift_8 (by decide) (by decide +kernel) rfl rfl dX8_shift_1 ?_
  refine jv_iload_n C dX8_shift_4 1 rfl ?_
  refine jv_iload_n C dX8_shift_5 2 rfl ?_
  refine jv_callV (na := 2) (As := [.int p1, .int p2]) (st := []) C (c_X0_hasThrow l D kp h1 p1 p2) gX8_shift_X0_hasThrow rfl (by decide) h1 rfl rfl rfl q_X0_hasThrow rfl ⟨by decide, by decide⟩ ⟨by decide, by decide⟩ (fun _ h => absurd h List.not_mem_nil) (Nat.le_of_ble_eq_true rfl) rfl dX8_shift_6 (fun r n1 E_1 hp _ => ?_)
  obtain ⟨rfl, rfl, rfl⟩ := hp
  show jv_V l D vwCl kp G 0 0 n E 9 [(0, .ref 0), (1, .int p1), (2, .int p2)] [.int 0]
  refine jv_if_ne (tgt := 15) C dX8_shift_9 (by decide) (fun h => absurd h (by decide)) (fun _ => ?_)
  refine jv_bipush (v := (-2)) C dX8_shift_12 (by decide) ?_
  exact jv_iret C B ⟨rfl, rfl, rfl⟩ ⟨by decide, by decide⟩ dX8_shift_14
theorem in_X8_keeps_8 : ∀ w ∈ u_ws RX8 TX8 11, w ∈ wsX8_keeps := by decide +kernel
set_option maxRecDepth 100000 in
set_option maxHeartbeats 4000000 in
theorem c_X8_keeps (l : Launch) (D : va_G) (kp : Nat → ClassId) {n : Nat} {E : Nat → jv_E} (h0 : E 0 = cx0) (h1 : E 1 = cx1)  : jv_M l D vwCl kp yX8_keeps wsX8_keeps rm2 [] [.ref 0] n E 0 0 (fun r n1 E1 => some (.int (-2)) = r ∧ n = n1 ∧ E = E1) := by
  refine jv_of (by decide) rfl (Nat.le_of_ble_eq_true rfl) (fun G C B hI hnl => ?_)
  show jv_V l D vwCl kp G 0 0 n E 0 [(0, .ref 0)] []
  refine jv_aload_n C dX8_keeps_0 0 rfl ?_
  refine jv_getf (fk := 0) C (by decide) h0 rfl in_X8_keeps_8 (by decide) (by decide +kernel) rfl rfl dX8_keeps_1 ?_
  refine jv_callV (na := 0) (As := []) (st := []) C (c_X0_isTold l D kp h1 ) gX8_keeps_X0_isTold rfl (by decide) h1 rfl rfl rfl q_X0_isTold rfl ⟨by decide, by decide⟩ ⟨by decide, by decide⟩ (fun _ h => absurd h List.not_mem_nil) (Nat.le_of_ble_eq_true rfl) rfl dX8_keeps_4 (fun r n1 E_1 hp _ => ?_)
  obtain ⟨rfl, rfl, rfl⟩ := hp
  show jv_V l D vwCl kp G 0 0 n E 7 [(0, .ref 0)] [.int 0]
  refine jv_if_ne (tgt := 13) C dX8_keeps_7 (by decide) (fun h => absurd h (by decide)) (fun _ => ?_)
  refine jv_bipush (v := (-2)) C dX8_keeps_10 (by decide) ?_
  exact jv_iret C B ⟨rfl, rfl, rfl⟩ ⟨by decide, by decide⟩ dX8_keeps_12
theorem in_X8_clash_8 : ∀ w ∈ u_ws RX8 TX8 11, w ∈ wsX8_clash := by decide +kernel
set_option maxRecDepth 100000 in
set_option maxHeartbeats 4000000 in
theorem c_X8_clash (l : Launch) (D : va_G) (kp : Nat → ClassId) {n : Nat} {E : Nat → jv_E} (h0 : E 0 = cx0) (h1 : E 1 = cx1) (p1 : Int32) : jv_M l D vwCl kp yX8_clash wsX8_clash rm2 [] [.ref 0, .int p1] n E 0 0 (fun r n1 E1 => some (.int (-2)) = r ∧ n = n1 ∧ E = E1) := by
  refine jv_of (by decide) rfl (Nat.le_of_ble_eq_true rfl) (fun G C B hI hnl => ?_)
  show jv_V l D vwCl kp G 0 0 n E 0 [(0, .ref 0), (1, .int p1)] []
  refine jv_aload_n C dX8_clash_0 0 rfl ?_
  refine jv_getf (fk := 0) C (by decide) h0 rfl in_X8_clash_8 (by decide) (by decide +kernel) rfl rfl dX8_clash_1 ?_
  refine jv_callV (na := 0) (As := []) (st := []) C (c_X0_isTold l D kp h1 ) gX8_clash_X0_isTold rfl (by decide) h1 rfl rfl rfl q_X0_isTold rfl ⟨by decide, by decide⟩ ⟨by decide, by decide⟩ (fun _ h => absurd h List.not_mem_nil) (Nat.le_of_ble_eq_true rfl) rfl dX8_clash_4 (fun r n1 E_1 hp _ => ?_)
  obtain ⟨rfl, rfl, rfl⟩ := hp
  show jv_V l D vwCl kp G 0 0 n E 7 [(0, .ref 0), (1, .int p1)] [.int 0]
  refine jv_if_eq (tgt := 18) C dX8_clash_7 (by decide) (fun _ => ?_) (fun h => absurd (by decide) h)
  refine jv_bipush (v := (-2)) C dX8_clash_18 (by decide) ?_
  exact jv_iret C B ⟨rfl, rfl, rfl⟩ ⟨by decide, by decide⟩ dX8_clash_20
theorem in_X8_balls_8 : ∀ w ∈ u_ws RX8 TX8 11, w ∈ wsX8_balls := by decide +kernel
set_option maxRecDepth 100000 in
set_option maxHeartbeats 4000000 in
theorem c_X8_balls (l : Launch) (D : va_G) (kp : Nat → ClassId) {n : Nat} {E : Nat → jv_E} (h0 : E 0 = cx0) (h1 : E 1 = cx1)  : jv_M l D vwCl kp yX8_balls wsX8_balls rm2 [] [.ref 0] n E 0 0 (fun r n1 E1 => some (.int (-2)) = r ∧ n = n1 ∧ E = E1) := by
  refine jv_of (by decide) rfl (Nat.le_of_ble_eq_true rfl) (fun G C B hI hnl => ?_)
  show jv_V l D vwCl kp G 0 0 n E 0 [(0, .ref 0)] []
  refine jv_aload_n C dX8_balls_0 0 rfl ?_
  refine jv_getf (fk := 0) C (by decide) h0 rfl in_X8_balls_8 (by decide) (by decide +kernel) rfl rfl dX8_balls_1 ?_
  refine jv_callV (na := 0) (As := []) (st := []) C (c_X0_isTold l D kp h1 ) gX8_balls_X0_isTold rfl (by decide) h1 rfl rfl rfl q_X0_isTold rfl ⟨by decide, by decide⟩ ⟨by decide, by decide⟩ (fun _ h => absurd h List.not_mem_nil) (Nat.le_of_ble_eq_true rfl) rfl dX8_balls_4 (fun r n1 E_1 hp _ => ?_)
  obtain ⟨rfl, rfl, rfl⟩ := hp
  show jv_V l D vwCl kp G 0 0 n E 7 [(0, .ref 0)] [.int 0]
  refine jv_if_ne (tgt := 13) C dX8_balls_7 (by decide) (fun h => absurd h (by decide)) (fun _ => ?_)
  refine jv_bipush (v := (-2)) C dX8_balls_10 (by decide) ?_
  exact jv_iret C B ⟨rfl, rfl, rfl⟩ ⟨by decide, by decide⟩ dX8_balls_12
theorem in_X8_lands_8 : ∀ w ∈ u_ws RX8 TX8 11, w ∈ wsX8_lands := by decide +kernel
set_option maxRecDepth 100000 in
set_option maxHeartbeats 4000000 in
theorem c_X8_lands (l : Launch) (D : va_G) (kp : Nat → ClassId) {n : Nat} {E : Nat → jv_E} (h0 : E 0 = cx0) (h1 : E 1 = cx1) (p1 : Int32) (p2 : Int32) : jv_M l D vwCl kp yX8_lands wsX8_lands rm2 [] [.ref 0, .int p1, .int p2] n E 0 0 (fun r n1 E1 => some (.int (-2)) = r ∧ n = n1 ∧ E = E1) := by
  refine jv_of (by decide) rfl (Nat.le_of_ble_eq_true rfl) (fun G C B hI hnl => ?_)
  show jv_V l D vwCl kp G 0 0 n E 0 [(0, .ref 0), (1, .int p1), (2, .int p2)] []
  refine jv_aload_n C dX8_lands_0 0 rfl ?_
  refine jv_getf (fk := 0) C (by decide) h0 rfl in_X8_lands_8 (by decide) (by decide +kernel) rfl rfl dX8_lands_1 ?_
  refine jv_iload_n C dX8_lands_4 1 rfl ?_
  refine jv_callV (na := 1) (As := [.int p1]) (st := []) C (c_X0_hasRoof l D kp h1 p1) gX8_lands_X0_hasRoof rfl (by decide) h1 rfl rfl rfl q_X0_hasRoof rfl ⟨by decide, by decide⟩ ⟨by decide, by decide⟩ (fun _ h => absurd h List.not_mem_nil) (Nat.le_of_ble_eq_true rfl) rfl dX8_lands_5 (fun r n1 E_1 hp _ => ?_)
  obtain ⟨rfl, rfl, rfl⟩ := hp
  show jv_V l D vwCl kp G 0 0 n E 8 [(0, .ref 0), (1, .int p1), (2, .int p2)] [.int 0]
  refine jv_if_eq (tgt := 18) C dX8_lands_8 (by decide) (fun _ => ?_) (fun h => absurd (by decide) h)
  refine jv_bipush (v := (-2)) C dX8_lands_18 (by decide) ?_
  exact jv_iret C B ⟨rfl, rfl, rfl⟩ ⟨by decide, by decide⟩ dX8_lands_20
theorem in_X8_air_8 : ∀ w ∈ u_ws RX8 TX8 11, w ∈ wsX8_air := by decide +kernel
set_option maxRecDepth 100000 in
set_option maxHeartbeats 4000000 in
theorem c_X8_air (l : Launch) (D : va_G) (kp : Nat → ClassId) {n : Nat} {E : Nat → jv_E} (h0 : E 0 = cx0) (h1 : E 1 = cx1) (p1 : Int32) : jv_M l D vwCl kp yX8_air wsX8_air rm2 [] [.ref 0, .int p1] n E 0 0 (fun r n1 E1 => some (.int (-2)) = r ∧ n = n1 ∧ E = E1) := by
  refine jv_of (by decide) rfl (Nat.le_of_ble_eq_true rfl) (fun G C B hI hnl => ?_)
  show jv_V l D vwCl kp G 0 0 n E 0 [(0, .ref 0), (1, .int p1)] []
  refine jv_aload_n C dX8_air_0 0 rfl ?_
  refine jv_getf (fk := 0) C (by decide) h0 rfl in_X8_air_8 (by decide) (by decide +kernel) rfl rfl dX8_air_1 ?_
  refine jv_callV (na := 0) (As := []) (st := []) C (c_X0_isTold l D kp h1 ) gX8_air_X0_isTold rfl (by decide) h1 rfl rfl rfl q_X0_isTold rfl ⟨by decide, by decide⟩ ⟨by decide, by decide⟩ (fun _ h => absurd h List.not_mem_nil) (Nat.le_of_ble_eq_true rfl) rfl dX8_air_4 (fun r n1 E_1 hp _ => ?_)
  obtain ⟨rfl, rfl, rfl⟩ := hp
  show jv_V l D vwCl kp G 0 0 n E 7 [(0, .ref 0), (1, .int p1)] [.int 0]
  refine jv_if_eq (tgt := 17) C dX8_air_7 (by decide) (fun _ => ?_) (fun h => absurd (by decide) h)
  refine jv_bipush (v := (-2)) C dX8_air_17 (by decide) ?_
  exact jv_iret C B ⟨rfl, rfl, rfl⟩ ⟨by decide, by decide⟩ dX8_air_19
theorem in_X8_ball_8 : ∀ w ∈ u_ws RX8 TX8 11, w ∈ wsX8_ball := by decide +kernel
set_option maxRecDepth 100000 in
set_option maxHeartbeats 4000000 in
theorem c_X8_ball (l : Launch) (D : va_G) (kp : Nat → ClassId) {n : Nat} {E : Nat → jv_E} (h0 : E 0 = cx0) (h1 : E 1 = cx1) (p1 : Int32) (p2 : Int32) (p3 : Int32) (p4 : Int32) : jv_M l D vwCl kp yX8_ball wsX8_ball rm2 [] [.ref 0, .int p1, .int p2, .int p3, .int p4] n E 0 0 (fun r n1 E1 => some (.int (-2)) = r ∧ n = n1 ∧ E = E1) := by
  refine jv_of (by decide) rfl (Nat.le_of_ble_eq_true rfl) (fun G C B hI hnl => ?_)
  show jv_V l D vwCl kp G 0 0 n E 0 [(0, .ref 0), (1, .int p1), (2, .int p2), (3, .int p3), (4, .int p4)] []
  refine jv_aload_n C dX8_ball_0 0 rfl ?_
  refine jv_getf (fk := 0) C (by decide) h0 rfl in_X8_ball_8 (by decide) (by decide +kernel) rfl rfl dX8_ball_1 ?_
  refine jv_iload_n C dX8_ball_4 1 rfl ?_
  refine jv_callV (na := 1) (As := [.int p1]) (st := []) C (c_X0_hasRoof l D kp h1 p1) gX8_ball_X0_hasRoof rfl (by decide) h1 rfl rfl rfl q_X0_hasRoof rfl ⟨by decide, by decide⟩ ⟨by decide, by decide⟩ (fun _ h => absurd h List.not_mem_nil) (Nat.le_of_ble_eq_true rfl) rfl dX8_ball_5 (fun r n1 E_1 hp _ => ?_)
  obtain ⟨rfl, rfl, rfl⟩ := hp
  show jv_V l D vwCl kp G 0 0 n E 8 [(0, .ref 0), (1, .int p1), (2, .int p2), (3, .int p3), (4, .int p4)] [.int 0]
  refine jv_if_eq (tgt := 37) C dX8_ball_8 (by decide) (fun _ => ?_) (fun h => absurd (by decide) h)
  refine jv_bipush (v := (-2)) C dX8_ball_37 (by decide) ?_
  exact jv_iret C B ⟨rfl, rfl, rfl⟩ ⟨by decide, by decide⟩ dX8_ball_39
theorem in_X8_orbit_8 : ∀ w ∈ u_ws RX8 TX8 11, w ∈ wsX8_orbit := by decide +kernel
set_option maxRecDepth 100000 in
set_option maxHeartbeats 4000000 in
theorem c_X8_orbit (l : Launch) (D : va_G) (kp : Nat → ClassId) {n : Nat} {E : Nat → jv_E} (h0 : E 0 = cx0) (h1 : E 1 = cx1) (p1 : Int32) (p2 : Int32) (p3 : Int32) : jv_M l D vwCl kp yX8_orbit wsX8_orbit rm2 [] [.ref 0, .int p1, .int p2, .int p3] n E 0 0 (fun r n1 E1 => some (.int (-2)) = r ∧ n = n1 ∧ E = E1) := by
  refine jv_of (by decide) rfl (Nat.le_of_ble_eq_true rfl) (fun G C B hI hnl => ?_)
  show jv_V l D vwCl kp G 0 0 n E 0 [(0, .ref 0), (1, .int p1), (2, .int p2), (3, .int p3)] []
  refine jv_aload_n C dX8_orbit_0 0 rfl ?_
  refine jv_getf (fk := 0) C (by decide) h0 rfl in_X8_orbit_8 (by decide) (by decide +kernel) rfl rfl dX8_orbit_1 ?_
  refine jv_iload_n C dX8_orbit_4 1 rfl ?_
  refine jv_callV (na := 1) (As := [.int p1]) (st := []) C (c_X0_hasRoof l D kp h1 p1) gX8_orbit_X0_hasRoof rfl (by decide) h1 rfl rfl rfl q_X0_hasRoof rfl ⟨by decide, by decide⟩ ⟨by decide, by decide⟩ (fun _ h => absurd h List.not_mem_nil) (Nat.le_of_ble_eq_true rfl) rfl dX8_orbit_5 (fun r n1 E_1 hp _ => ?_)
  obtain ⟨rfl, rfl, rfl⟩ := hp
  show jv_V l D vwCl kp G 0 0 n E 8 [(0, .ref 0), (1, .int p1), (2, .int p2), (3, .int p3)] [.int 0]
  refine jv_if_eq (tgt := 26) C dX8_orbit_8 (by decide) (fun _ => ?_) (fun h => absurd (by decide) h)
  refine jv_bipush (v := (-2)) C dX8_orbit_26 (by decide) ?_
  exact jv_iret C B ⟨rfl, rfl, rfl⟩ ⟨by decide, by decide⟩ dX8_orbit_28
theorem in_X8_orbits_8 : ∀ w ∈ u_ws RX8 TX8 11, w ∈ wsX8_orbits := by decide +kernel
set_option maxRecDepth 100000 in
set_option maxHeartbeats 4000000 in
theorem c_X8_orbits (l : Launch) (D : va_G) (kp : Nat → ClassId) {n : Nat} {E : Nat → jv_E} (h0 : E 0 = cx0) (h1 : E 1 = cx1)  : jv_M l D vwCl kp yX8_orbits wsX8_orbits rm2 [] [.ref 0] n E 0 0 (fun r n1 E1 => some (.int (-2)) = r ∧ n = n1 ∧ E = E1) := by
  refine jv_of (by decide) rfl (Nat.le_of_ble_eq_true rfl) (fun G C B hI hnl => ?_)
  show jv_V l D vwCl kp G 0 0 n E 0 [(0, .ref 0)] []
  refine jv_aload_n C dX8_orbits_0 0 rfl ?_
  refine jv_getf (fk := 0) C (by decide) h0 rfl in_X8_orbits_8 (by decide) (by decide +kernel) rfl rfl dX8_orbits_1 ?_
  refine jv_callV (na := 0) (As := []) (st := []) C (c_X0_isTold l D kp h1 ) gX8_orbits_X0_isTold rfl (by decide) h1 rfl rfl rfl q_X0_isTold rfl ⟨by decide, by decide⟩ ⟨by decide, by decide⟩ (fun _ h => absurd h List.not_mem_nil) (Nat.le_of_ble_eq_true rfl) rfl dX8_orbits_4 (fun r n1 E_1 hp _ => ?_)
  obtain ⟨rfl, rfl, rfl⟩ := hp
  show jv_V l D vwCl kp G 0 0 n E 7 [(0, .ref 0)] [.int 0]
  refine jv_if_ne (tgt := 13) C dX8_orbits_7 (by decide) (fun h => absurd h (by decide)) (fun _ => ?_)
  refine jv_bipush (v := (-2)) C dX8_orbits_10 (by decide) ?_
  exact jv_iret C B ⟨rfl, rfl, rfl⟩ ⟨by decide, by decide⟩ dX8_orbits_12
theorem in_X8_same_8 : ∀ w ∈ u_ws RX8 TX8 11, w ∈ wsX8_same := by decide +kernel
set_option maxRecDepth 100000 in
set_option maxHeartbeats 4000000 in
theorem c_X8_same (l : Launch) (D : va_G) (kp : Nat → ClassId) {n : Nat} {E : Nat → jv_E} (h0 : E 0 = cx0) (h1 : E 1 = cx1) (p1 : Int32) (p2 : Int32) (p3 : Int32) (p4 : Int32) : jv_M l D vwCl kp yX8_same wsX8_same rm2 [] [.ref 0, .int p1, .int p2, .int p3, .int p4] n E 0 0 (fun r n1 E1 => some (.int (-2)) = r ∧ n = n1 ∧ E = E1) := by
  refine jv_of (by decide) rfl (Nat.le_of_ble_eq_true rfl) (fun G C B hI hnl => ?_)
  show jv_V l D vwCl kp G 0 0 n E 0 [(0, .ref 0), (1, .int p1), (2, .int p2), (3, .int p3), (4, .int p4)] []
  refine jv_aload_n C dX8_same_0 0 rfl ?_
  refine jv_getf (fk := 0) C (by decide) h0 rfl in_X8_same_8 (by decide) (by decide +kernel) rfl rfl dX8_same_1 ?_
  refine jv_iload_n C dX8_same_4 1 rfl ?_
  refine jv_callV (na := 1) (As := [.int p1]) (st := []) C (c_X0_hasRoof l D kp h1 p1) gX8_same_X0_hasRoof rfl (by decide) h1 rfl rfl rfl q_X0_hasRoof rfl ⟨by decide, by decide⟩ ⟨by decide, by decide⟩ (fun _ h => absurd h List.not_mem_nil) (Nat.le_of_ble_eq_true rfl) rfl dX8_same_5 (fun r n1 E_1 hp _ => ?_)
  obtain ⟨rfl, rfl, rfl⟩ := hp
  show jv_V l D vwCl kp G 0 0 n E 8 [(0, .ref 0), (1, .int p1), (2, .int p2), (3, .int p3), (4, .int p4)] [.int 0]
  refine jv_if_eq (tgt := 37) C dX8_same_8 (by decide) (fun _ => ?_) (fun h => absurd (by decide) h)
  refine jv_bipush (v := (-2)) C dX8_same_37 (by decide) ?_
  exact jv_iret C B ⟨rfl, rfl, rfl⟩ ⟨by decide, by decide⟩ dX8_same_39
theorem in_X8_crossings_8 : ∀ w ∈ u_ws RX8 TX8 11, w ∈ wsX8_crossings := by decide +kernel
set_option maxRecDepth 100000 in
set_option maxHeartbeats 4000000 in
theorem c_X8_crossings (l : Launch) (D : va_G) (kp : Nat → ClassId) {n : Nat} {E : Nat → jv_E} (h0 : E 0 = cx0) (h1 : E 1 = cx1) (p1 : Int32) : jv_M l D vwCl kp yX8_crossings wsX8_crossings rm2 [] [.ref 0, .int p1] n E 0 0 (fun r n1 E1 => some (.int (-2)) = r ∧ n = n1 ∧ E = E1) := by
  refine jv_of (by decide) rfl (Nat.le_of_ble_eq_true rfl) (fun G C B hI hnl => ?_)
  show jv_V l D vwCl kp G 0 0 n E 0 [(0, .ref 0), (1, .int p1)] []
  refine jv_aload_n C dX8_crossings_0 0 rfl ?_
  refine jv_getf (fk := 0) C (by decide) h0 rfl in_X8_crossings_8 (by decide) (by decide +kernel) rfl rfl dX8_crossings_1 ?_
  refine jv_callV (na := 0) (As := []) (st := []) C (c_X0_isTold l D kp h1 ) gX8_crossings_X0_isTold rfl (by decide) h1 rfl rfl rfl q_X0_isTold rfl ⟨by decide, by decide⟩ ⟨by decide, by decide⟩ (fun _ h => absurd h List.not_mem_nil) (Nat.le_of_ble_eq_true rfl) rfl dX8_crossings_4 (fun r n1 E_1 hp _ => ?_)
  obtain ⟨rfl, rfl, rfl⟩ := hp
  show jv_V l D vwCl kp G 0 0 n E 7 [(0, .ref 0), (1, .int p1)] [.int 0]
  refine jv_if_eq (tgt := 18) C dX8_crossings_7 (by decide) (fun _ => ?_) (fun h => absurd (by decide) h)
  refine jv_bipush (v := (-2)) C dX8_crossings_18 (by decide) ?_
  exact jv_iret C B ⟨rfl, rfl, rfl⟩ ⟨by decide, by decide⟩ dX8_crossings_20
theorem in_X8_suits_8 : ∀ w ∈ u_ws RX8 TX8 11, w ∈ wsX8_suits := by decide +kernel
set_option maxRecDepth 100000 in
set_option maxHeartbeats 4000000 in
theorem c_X8_suits (l : Launch) (D : va_G) (kp : Nat → ClassId) {n : Nat} {E : Nat → jv_E} (h0 : E 0 = cx0) (h1 : E 1 = cx1) (p1 : Int32) : jv_M l D vwCl kp yX8_suits wsX8_suits rm2 [] [.ref 0, .int p1] n E 0 0 (fun r n1 E1 => some (.int (-2)) = r ∧ n = n1 ∧ E = E1) := by
  refine jv_of (by decide) rfl (Nat.le_of_ble_eq_true rfl) (fun G C B hI hnl => ?_)
  show jv_V l D vwCl kp G 0 0 n E 0 [(0, .ref 0), (1, .int p1)] []
  refine jv_aload_n C dX8_suits_0 0 rfl ?_
  refine jv_getf (fk := 0) C (by decide) h0 rfl in_X8_suits_8 (by decide) (by decide +kernel) rfl rfl dX8_suits_1 ?_
  refine jv_iload_n C dX8_suits_4 1 rfl ?_
  refine jv_callV (na := 1) (As := [.int p1]) (st := []) C (c_X0_hasRoof l D kp h1 p1) gX8_suits_X0_hasRoof rfl (by decide) h1 rfl rfl rfl q_X0_hasRoof rfl ⟨by decide, by decide⟩ ⟨by decide, by decide⟩ (fun _ h => absurd h List.not_mem_nil) (Nat.le_of_ble_eq_true rfl) rfl dX8_suits_5 (fun r n1 E_1 hp _ => ?_)
  obtain ⟨rfl, rfl, rfl⟩ := hp
  show jv_V l D vwCl kp G 0 0 n E 8 [(0, .ref 0), (1, .int p1)] [.int 0]
  refine jv_if_ne (tgt := 14) C dX8_suits_8 (by decide) (fun h => absurd h (by decide)) (fun _ => ?_)
  refine jv_bipush (v := (-2)) C dX8_suits_11 (by decide) ?_
  exact jv_iret C B ⟨rfl, rfl, rfl⟩ ⟨by decide, by decide⟩ dX8_suits_13
theorem in_X8_unsuited_8 : ∀ w ∈ u_ws RX8 TX8 11, w ∈ wsX8_unsuited := by decide +kernel
set_option maxRecDepth 100000 in
set_option maxHeartbeats 4000000 in
theorem c_X8_unsuited (l : Launch) (D : va_G) (kp : Nat → ClassId) {n : Nat} {E : Nat → jv_E} (h0 : E 0 = cx0) (h1 : E 1 = cx1) (p1 : Int32) : jv_M l D vwCl kp yX8_unsuited wsX8_unsuited rm2 [] [.ref 0, .int p1] n E 0 0 (fun r n1 E1 => some (.int (-2)) = r ∧ n = n1 ∧ E = E1) := by
  refine jv_of (by decide) rfl (Nat.le_of_ble_eq_true rfl) (fun G C B hI hnl => ?_)
  show jv_V l D vwCl kp G 0 0 n E 0 [(0, .ref 0), (1, .int p1)] []
  refine jv_aload_n C dX8_unsuited_0 0 rfl ?_
  refine jv_getf (fk := 0) C (by decide) h0 rfl in_X8_unsuited_8 (by decide) (by decide +kernel) rfl rfl dX8_unsuited_1 ?_
  refine jv_iload_n C dX8_unsuited_4 1 rfl ?_
  refine jv_callV (na := 1) (As := [.int p1]) (st := []) C (c_X0_hasRoof l D kp h1 p1) gX8_unsuited_X0_hasRoof rfl (by decide) h1 rfl rfl rfl q_X0_hasRoof rfl ⟨by decide, by decide⟩ ⟨by decide, by decide⟩ (fun _ h => absurd h List.not_mem_nil) (Nat.le_of_ble_eq_true rfl) rfl dX8_unsuited_5 (fun r n1 E_1 hp _ => ?_)
  obtain ⟨rfl, rfl, rfl⟩ := hp
  show jv_V l D vwCl kp G 0 0 n E 8 [(0, .ref 0), (1, .int p1)] [.int 0]
  refine jv_if_eq (tgt := 19) C dX8_unsuited_8 (by decide) (fun _ => ?_) (fun h => absurd (by decide) h)
  refine jv_bipush (v := (-2)) C dX8_unsuited_19 (by decide) ?_
  exact jv_iret C B ⟨rfl, rfl, rfl⟩ ⟨by decide, by decide⟩ dX8_unsuited_21
theorem in_X8_carries_8 : ∀ w ∈ u_ws RX8 TX8 11, w ∈ wsX8_carries := by decide +kernel
set_option maxRecDepth 100000 in
set_option maxHeartbeats 4000000 in
theorem c_X8_carries (l : Launch) (D : va_G) (kp : Nat → ClassId) {n : Nat} {E : Nat → jv_E} (h0 : E 0 = cx0) (h1 : E 1 = cx1) (p1 : Int32) (p2 : Int32) : jv_M l D vwCl kp yX8_carries wsX8_carries rm2 [] [.ref 0, .int p1, .int p2] n E 0 0 (fun r n1 E1 => some (.int (-2)) = r ∧ n = n1 ∧ E = E1) := by
  refine jv_of (by decide) rfl (Nat.le_of_ble_eq_true rfl) (fun G C B hI hnl => ?_)
  show jv_V l D vwCl kp G 0 0 n E 0 [(0, .ref 0), (1, .int p1), (2, .int p2)] []
  refine jv_aload_n C dX8_carries_0 0 rfl ?_
  refine jv_getf (fk := 0) C (by decide) h0 rfl in_X8_carries_8 (by decide) (by decide +kernel) rfl rfl dX8_carries_1 ?_
  refine jv_iload_n C dX8_carries_4 1 rfl ?_
  refine jv_callV (na := 1) (As := [.int p1]) (st := []) C (c_X0_hasRoof l D kp h1 p1) gX8_carries_X0_hasRoof rfl (by decide) h1 rfl rfl rfl q_X0_hasRoof rfl ⟨by decide, by decide⟩ ⟨by decide, by decide⟩ (fun _ h => absurd h List.not_mem_nil) (Nat.le_of_ble_eq_true rfl) rfl dX8_carries_5 (fun r n1 E_1 hp _ => ?_)
  obtain ⟨rfl, rfl, rfl⟩ := hp
  show jv_V l D vwCl kp G 0 0 n E 8 [(0, .ref 0), (1, .int p1), (2, .int p2)] [.int 0]
  refine jv_if_eq (tgt := 22) C dX8_carries_8 (by decide) (fun _ => ?_) (fun h => absurd (by decide) h)
  refine jv_bipush (v := (-2)) C dX8_carries_22 (by decide) ?_
  exact jv_iret C B ⟨rfl, rfl, rfl⟩ ⟨by decide, by decide⟩ dX8_carries_24
theorem q_X0_hasLetter : yX0_hasLetter.cls ≠ "java/lang/invoke/MethodHandle" ∧ yX0_hasLetter.cls ≠ "java/lang/invoke/VarHandle" ∧ (parseMethodDescriptor yX0_hasLetter.desc).map (fun d => d.parameters.length) = some 1 := by decide +kernel
theorem in_X8_letter_8 : ∀ w ∈ u_ws RX8 TX8 11, w ∈ wsX8_letter := by decide +kernel
set_option maxRecDepth 100000 in
set_option maxHeartbeats 4000000 in
theorem c_X8_letter (l : Launch) (D : va_G) (kp : Nat → ClassId) {n : Nat} {E : Nat → jv_E} (h0 : E 0 = cx0) (h1 : E 1 = cx1) (p1 : Int32) (p2 : Int32) : jv_M l D vwCl kp yX8_letter wsX8_letter rm2 [] [.ref 0, .int p1, .int p2] n E 0 0 (fun r n1 E1 => some (.int (-2)) = r ∧ n = n1 ∧ E = E1) := by
  refine jv_of (by decide) rfl (Nat.le_of_ble_eq_true rfl) (fun G C B hI hnl => ?_)
  show jv_V l D vwCl kp G 0 0 n E 0 [(0, .ref 0), (1, .int p1), (2, .int p2)] []
  refine jv_aload_n C dX8_letter_0 0 rfl ?_
  refine jv_getf (fk := 0) C (by decide) h0 rfl in_X8_letter_8 (by decide) (by decide +kernel) rfl rfl dX8_letter_1 ?_
  refine jv_iload_n C dX8_letter_4 1 rfl ?_
  refine jv_callV (na := 1) (As := [.int p1]) (st := []) C (c_X0_hasLetter l D kp h1 p1) gX8_letter_X0_hasLetter rfl (by decide) h1 rfl rfl rfl q_X0_hasLetter rfl ⟨by decide, by decide⟩ ⟨by decide, by decide⟩ (fun _ h => absurd h List.not_mem_nil) (Nat.le_of_ble_eq_true rfl) rfl dX8_letter_5 (fun r n1 E_1 hp _ => ?_)
  obtain ⟨rfl, rfl, rfl⟩ := hp
  show jv_V l D vwCl kp G 0 0 n E 8 [(0, .ref 0), (1, .int p1), (2, .int p2)] [.int 0]
  refine jv_if_eq (tgt := 35) C dX8_letter_8 (by decide) (fun _ => ?_) (fun h => absurd (by decide) h)
  refine jv_bipush (v := (-2)) C dX8_letter_35 (by decide) ?_
  exact jv_iret C B ⟨rfl, rfl, rfl⟩ ⟨by decide, by decide⟩ dX8_letter_37
theorem in_X8_alone_8 : ∀ w ∈ u_ws RX8 TX8 11, w ∈ wsX8_alone := by decide +kernel
set_option maxRecDepth 100000 in
set_option maxHeartbeats 4000000 in
theorem c_X8_alone (l : Launch) (D : va_G) (kp : Nat → ClassId) {n : Nat} {E : Nat → jv_E} (h0 : E 0 = cx0) (h1 : E 1 = cx1) (p1 : Int32) : jv_M l D vwCl kp yX8_alone wsX8_alone rm2 [] [.ref 0, .int p1] n E 0 0 (fun r n1 E1 => some (.int (-2)) = r ∧ n = n1 ∧ E = E1) := by
  refine jv_of (by decide) rfl (Nat.le_of_ble_eq_true rfl) (fun G C B hI hnl => ?_)
  show jv_V l D vwCl kp G 0 0 n E 0 [(0, .ref 0), (1, .int p1)] []
  refine jv_aload_n C dX8_alone_0 0 rfl ?_
  refine jv_getf (fk := 0) C (by decide) h0 rfl in_X8_alone_8 (by decide) (by decide +kernel) rfl rfl dX8_alone_1 ?_
  refine jv_iload_n C dX8_alone_4 1 rfl ?_
  refine jv_callV (na := 1) (As := [.int p1]) (st := []) C (c_X0_hasLetter l D kp h1 p1) gX8_alone_X0_hasLetter rfl (by decide) h1 rfl rfl rfl q_X0_hasLetter rfl ⟨by decide, by decide⟩ ⟨by decide, by decide⟩ (fun _ h => absurd h List.not_mem_nil) (Nat.le_of_ble_eq_true rfl) rfl dX8_alone_5 (fun r n1 E_1 hp _ => ?_)
  obtain ⟨rfl, rfl, rfl⟩ := hp
  show jv_V l D vwCl kp G 0 0 n E 8 [(0, .ref 0), (1, .int p1)] [.int 0]
  refine jv_if_ne (tgt := 14) C dX8_alone_8 (by decide) (fun h => absurd h (by decide)) (fun _ => ?_)
  refine jv_bipush (v := (-2)) C dX8_alone_11 (by decide) ?_
  exact jv_iret C B ⟨rfl, rfl, rfl⟩ ⟨by decide, by decide⟩ dX8_alone_13
theorem in_X8_soonest_8 : ∀ w ∈ u_ws RX8 TX8 11, w ∈ wsX8_soonest := by decide +kernel
set_option maxRecDepth 100000 in
set_option maxHeartbeats 4000000 in
theorem c_X8_soonest (l : Launch) (D : va_G) (kp : Nat → ClassId) {n : Nat} {E : Nat → jv_E} (h0 : E 0 = cx0) (h1 : E 1 = cx1) (p1 : Int32) (p2 : Int32) : jv_M l D vwCl kp yX8_soonest wsX8_soonest rm2 [] [.ref 0, .int p1, .int p2] n E 0 0 (fun r n1 E1 => some (.int (-2)) = r ∧ n = n1 ∧ E = E1) := by
  refine jv_of (by decide) rfl (Nat.le_of_ble_eq_true rfl) (fun G C B hI hnl => ?_)
  show jv_V l D vwCl kp G 0 0 n E 0 [(0, .ref 0), (1, .int p1), (2, .int p2)] []
  refine jv_aload_n C dX8_soonest_0 0 rfl ?_
  refine jv_getf (fk := 0) C (by decide) h0 rfl in_X8_soonest_8 (by decide) (by decide +kernel) rfl rfl dX8_soonest_1 ?_
  refine jv_iload_n C dX8_soonest_4 1 rfl ?_
  refine jv_callV (na := 1) (As := [.int p1]) (st := []) C (c_X0_hasLetter l D kp h1 p1) gX8_soonest_X0_hasLetter rfl (by decide) h1 rfl rfl rfl q_X0_hasLetter rfl ⟨by decide, by decide⟩ ⟨by decide, by decide⟩ (fun _ h => absurd h List.not_mem_nil) (Nat.le_of_ble_eq_true rfl) rfl dX8_soonest_5 (fun r n1 E_1 hp _ => ?_)
  obtain ⟨rfl, rfl, rfl⟩ := hp
  show jv_V l D vwCl kp G 0 0 n E 8 [(0, .ref 0), (1, .int p1), (2, .int p2)] [.int 0]
  refine jv_if_eq (tgt := 19) C dX8_soonest_8 (by decide) (fun _ => ?_) (fun h => absurd (by decide) h)
  refine jv_bipush (v := (-2)) C dX8_soonest_19 (by decide) ?_
  exact jv_iret C B ⟨rfl, rfl, rfl⟩ ⟨by decide, by decide⟩ dX8_soonest_21
theorem in_X8_way_8 : ∀ w ∈ u_ws RX8 TX8 11, w ∈ wsX8_way := by decide +kernel
set_option maxRecDepth 100000 in
set_option maxHeartbeats 4000000 in
theorem c_X8_way (l : Launch) (D : va_G) (kp : Nat → ClassId) {n : Nat} {E : Nat → jv_E} (h0 : E 0 = cx0) (h1 : E 1 = cx1) (p1 : Int32) (p2 : Int32) : jv_M l D vwCl kp yX8_way wsX8_way rm2 [] [.ref 0, .int p1, .int p2] n E 0 0 (fun r n1 E1 => some (.int (-2)) = r ∧ n = n1 ∧ E = E1) := by
  refine jv_of (by decide) rfl (Nat.le_of_ble_eq_true rfl) (fun G C B hI hnl => ?_)
  show jv_V l D vwCl kp G 0 0 n E 0 [(0, .ref 0), (1, .int p1), (2, .int p2)] []
  refine jv_aload_n C dX8_way_0 0 rfl ?_
  refine jv_getf (fk := 0) C (by decide) h0 rfl in_X8_way_8 (by decide) (by decide +kernel) rfl rfl dX8_way_1 ?_
  refine jv_iload_n C dX8_way_4 1 rfl ?_
  refine jv_callV (na := 1) (As := [.int p1]) (st := []) C (c_X0_hasLetter l D kp h1 p1) gX8_way_X0_hasLetter rfl (by decide) h1 rfl rfl rfl q_X0_hasLetter rfl ⟨by decide, by decide⟩ ⟨by decide, by decide⟩ (fun _ h => absurd h List.not_mem_nil) (Nat.le_of_ble_eq_true rfl) rfl dX8_way_5 (fun r n1 E_1 hp _ => ?_)
  obtain ⟨rfl, rfl, rfl⟩ := hp
  show jv_V l D vwCl kp G 0 0 n E 8 [(0, .ref 0), (1, .int p1), (2, .int p2)] [.int 0]
  refine jv_if_eq (tgt := 15) C dX8_way_8 (by decide) (fun _ => ?_) (fun h => absurd (by decide) h)
  refine jv_bipush (v := (-2)) C dX8_way_15 (by decide) ?_
  exact jv_iret C B ⟨rfl, rfl, rfl⟩ ⟨by decide, by decide⟩ dX8_way_17
theorem in_X8_readers_8 : ∀ w ∈ u_ws RX8 TX8 11, w ∈ wsX8_readers := by decide +kernel
set_option maxRecDepth 100000 in
set_option maxHeartbeats 4000000 in
theorem c_X8_readers (l : Launch) (D : va_G) (kp : Nat → ClassId) {n : Nat} {E : Nat → jv_E} (h0 : E 0 = cx0) (h1 : E 1 = cx1) (p1 : Int32) (p2 : Int32) : jv_M l D vwCl kp yX8_readers wsX8_readers rm2 [] [.ref 0, .int p1, .int p2] n E 0 0 (fun r n1 E1 => some (.int (-2)) = r ∧ n = n1 ∧ E = E1) := by
  refine jv_of (by decide) rfl (Nat.le_of_ble_eq_true rfl) (fun G C B hI hnl => ?_)
  show jv_V l D vwCl kp G 0 0 n E 0 [(0, .ref 0), (1, .int p1), (2, .int p2)] []
  refine jv_aload_n C dX8_readers_0 0 rfl ?_
  refine jv_getf (fk := 0) C (by decide) h0 rfl in_X8_readers_8 (by decide) (by decide +kernel) rfl rfl dX8_readers_1 ?_
  refine jv_iload_n C dX8_readers_4 1 rfl ?_
  refine jv_callV (na := 1) (As := [.int p1]) (st := []) C (c_X0_hasLetter l D kp h1 p1) gX8_readers_X0_hasLetter rfl (by decide) h1 rfl rfl rfl q_X0_hasLetter rfl ⟨by decide, by decide⟩ ⟨by decide, by decide⟩ (fun _ h => absurd h List.not_mem_nil) (Nat.le_of_ble_eq_true rfl) rfl dX8_readers_5 (fun r n1 E_1 hp _ => ?_)
  obtain ⟨rfl, rfl, rfl⟩ := hp
  show jv_V l D vwCl kp G 0 0 n E 8 [(0, .ref 0), (1, .int p1), (2, .int p2)] [.int 0]
  refine jv_if_eq (tgt := 18) C dX8_readers_8 (by decide) (fun _ => ?_) (fun h => absurd (by decide) h)
  refine jv_bipush (v := (-2)) C dX8_readers_18 (by decide) ?_
  exact jv_iret C B ⟨rfl, rfl, rfl⟩ ⟨by decide, by decide⟩ dX8_readers_20
theorem in_X8_misses_8 : ∀ w ∈ u_ws RX8 TX8 11, w ∈ wsX8_misses := by decide +kernel
set_option maxRecDepth 100000 in
set_option maxHeartbeats 4000000 in
theorem c_X8_misses (l : Launch) (D : va_G) (kp : Nat → ClassId) {n : Nat} {E : Nat → jv_E} (h0 : E 0 = cx0) (h1 : E 1 = cx1) (p1 : Int32) (p2 : Int32) (p3 : Int32) : jv_M l D vwCl kp yX8_misses wsX8_misses rm2 [] [.ref 0, .int p1, .int p2, .int p3] n E 0 0 (fun r n1 E1 => some (.int (-2)) = r ∧ n = n1 ∧ E = E1) := by
  refine jv_of (by decide) rfl (Nat.le_of_ble_eq_true rfl) (fun G C B hI hnl => ?_)
  show jv_V l D vwCl kp G 0 0 n E 0 [(0, .ref 0), (1, .int p1), (2, .int p2), (3, .int p3)] []
  refine jv_aload_n C dX8_misses_0 0 rfl ?_
  refine jv_getf (fk := 0) C (by decide) h0 rfl in_X8_misses_8 (by decide) (by decide +kernel) rfl rfl dX8_misses_1 ?_
  refine jv_iload_n C dX8_misses_4 1 rfl ?_
  refine jv_callV (na := 1) (As := [.int p1]) (st := []) C (c_X0_hasRoof l D kp h1 p1) gX8_misses_X0_hasRoof rfl (by decide) h1 rfl rfl rfl q_X0_hasRoof rfl ⟨by decide, by decide⟩ ⟨by decide, by decide⟩ (fun _ h => absurd h List.not_mem_nil) (Nat.le_of_ble_eq_true rfl) rfl dX8_misses_5 (fun r n1 E_1 hp _ => ?_)
  obtain ⟨rfl, rfl, rfl⟩ := hp
  show jv_V l D vwCl kp G 0 0 n E 8 [(0, .ref 0), (1, .int p1), (2, .int p2), (3, .int p3)] [.int 0]
  refine jv_if_eq (tgt := 29) C dX8_misses_8 (by decide) (fun _ => ?_) (fun h => absurd (by decide) h)
  refine jv_bipush (v := (-2)) C dX8_misses_29 (by decide) ?_
  exact jv_iret C B ⟨rfl, rfl, rfl⟩ ⟨by decide, by decide⟩ dX8_misses_31
theorem in_X8_missed_8 : ∀ w ∈ u_ws RX8 TX8 11, w ∈ wsX8_missed := by decide +kernel
set_option maxRecDepth 100000 in
set_option maxHeartbeats 4000000 in
theorem c_X8_missed (l : Launch) (D : va_G) (kp : Nat → ClassId) {n : Nat} {E : Nat → jv_E} (h0 : E 0 = cx0) (h1 : E 1 = cx1) (p1 : Int32) (p2 : Int32) (p3 : Int32) (p4 : Int32) : jv_M l D vwCl kp yX8_missed wsX8_missed rm2 [] [.ref 0, .int p1, .int p2, .int p3, .int p4] n E 0 0 (fun r n1 E1 => some (.int (-2)) = r ∧ n = n1 ∧ E = E1) := by
  refine jv_of (by decide) rfl (Nat.le_of_ble_eq_true rfl) (fun G C B hI hnl => ?_)
  show jv_V l D vwCl kp G 0 0 n E 0 [(0, .ref 0), (1, .int p1), (2, .int p2), (3, .int p3), (4, .int p4)] []
  refine jv_aload_n C dX8_missed_0 0 rfl ?_
  refine jv_getf (fk := 0) C (by decide) h0 rfl in_X8_missed_8 (by decide) (by decide +kernel) rfl rfl dX8_missed_1 ?_
  refine jv_iload_n C dX8_missed_4 1 rfl ?_
  refine jv_callV (na := 1) (As := [.int p1]) (st := []) C (c_X0_hasRoof l D kp h1 p1) gX8_missed_X0_hasRoof rfl (by decide) h1 rfl rfl rfl q_X0_hasRoof rfl ⟨by decide, by decide⟩ ⟨by decide, by decide⟩ (fun _ h => absurd h List.not_mem_nil) (Nat.le_of_ble_eq_true rfl) rfl dX8_missed_5 (fun r n1 E_1 hp _ => ?_)
  obtain ⟨rfl, rfl, rfl⟩ := hp
  show jv_V l D vwCl kp G 0 0 n E 8 [(0, .ref 0), (1, .int p1), (2, .int p2), (3, .int p3), (4, .int p4)] [.int 0]
  refine jv_if_eq (tgt := 40) C dX8_missed_8 (by decide) (fun _ => ?_) (fun h => absurd (by decide) h)
  refine jv_bipush (v := (-2)) C dX8_missed_40 (by decide) ?_
  exact jv_iret C B ⟨rfl, rfl, rfl⟩ ⟨by decide, by decide⟩ dX8_missed_42
theorem in_X8_state_8 : ∀ w ∈ u_ws RX8 TX8 11, w ∈ wsX8_state := by decide +kernel
set_option maxRecDepth 100000 in
set_option maxHeartbeats 4000000 in
theorem c_X8_state (l : Launch) (D : va_G) (kp : Nat → ClassId) {n : Nat} {E : Nat → jv_E} (h0 : E 0 = cx0) (h1 : E 1 = cx1) (p1 : Int32) (p2 : Int32) : jv_M l D vwCl kp yX8_state wsX8_state rm3 [] [.ref 0, .int p1, .int p2] n E 0 0 (fun r n1 E1 => some (.int (-2)) = r ∧ n = n1 ∧ E = E1) := by
  refine jv_of (by decide) rfl (Nat.le_of_ble_eq_true rfl) (fun G C B hI hnl => ?_)
  show jv_V l D vwCl kp G 0 0 n E 0 [(0, .ref 0), (1, .int p1), (2, .int p2)] []
  refine jv_aload_n C dX8_state_0 0 rfl ?_
  refine jv_getf (fk := 0) C (by decide) h0 rfl in_X8_state_8 (by decide) (by decide +kernel) rfl rfl dX8_state_1 ?_
  refine jv_iload_n C dX8_state_4 1 rfl ?_
  refine jv_iload_n C dX8_state_5 2 rfl ?_
  refine jv_callV (na := 2) (As := [.int p1, .int p2]) (st := []) C (c_X0_hasThrow l D kp h1 p1 p2) gX8_state_X0_hasThrow rfl (by decide) h1 rfl rfl rfl q_X0_hasThrow rfl ⟨by decide, by decide⟩ ⟨by decide, by decide⟩ (fun _ h => absurd h List.not_mem_nil) (Nat.le_of_ble_eq_true rfl) rfl dX8_state_6 (fun r n1 E_1 hp _ => ?_)
  obtain ⟨rfl, rfl, rfl⟩ := hp
  show jv_V l D vwCl kp G 0 0 n E 9 [(0, .ref 0), (1, .int p1), (2, .int p2)] [.int 0]
  refine jv_if_eq (tgt := 28) C dX8_state_9 (by decide) (fun _ => ?_) (fun h => absurd (by decide) h)
  refine jv_bipush (v := (-2)) C dX8_state_28 (by decide) ?_
  exact jv_iret C B ⟨rfl, rfl, rfl⟩ ⟨by decide, by decide⟩ dX8_state_30
theorem in_X8_change_8 : ∀ w ∈ u_ws RX8 TX8 11, w ∈ wsX8_change := by decide +kernel
set_option maxRecDepth 100000 in
set_option maxHeartbeats 4000000 in
theorem c_X8_change (l : Launch) (D : va_G) (kp : Nat → ClassId) {n : Nat} {E : Nat → jv_E} (h0 : E 0 = cx0) (h1 : E 1 = cx1) (p1 : Int32) (p2 : Int32) (p3 : Int32) (p4 : Int32) : jv_M l D vwCl kp yX8_change wsX8_change rm3 [] [.ref 0, .int p1, .int p2, .int p3, .int p4] n E 0 0 (fun r n1 E1 => some (.int (-2)) = r ∧ n = n1 ∧ E = E1) := by
  refine jv_of (by decide) rfl (Nat.le_of_ble_eq_true rfl) (fun G C B hI hnl => ?_)
  show jv_V l D vwCl kp G 0 0 n E 0 [(0, .ref 0), (1, .int p1), (2, .int p2), (3, .int p3), (4, .int p4)] []
  refine jv_aload_n C dX8_change_0 0 rfl ?_
  refine jv_getf (fk := 0) C (by decide) h0 rfl in_X8_change_8 (by decide) (by decide +kernel) rfl rfl dX8_change_1 ?_
  refine jv_iload_n C dX8_change_4 1 rfl ?_
  refine jv_iload_n C dX8_change_5 2 rfl ?_
  refine jv_callV (na := 2) (As := [.int p1, .int p2]) (st := []) C (c_X0_hasThrow l D kp h1 p1 p2) gX8_change_X0_hasThrow rfl (by decide) h1 rfl rfl rfl q_X0_hasThrow rfl ⟨by decide, by decide⟩ ⟨by decide, by decide⟩ (fun _ h => absurd h List.not_mem_nil) (Nat.le_of_ble_eq_true rfl) rfl dX8_change_6 (fun r n1 E_1 hp _ => ?_)
  obtain ⟨rfl, rfl, rfl⟩ := hp
  show jv_V l D vwCl kp G 0 0 n E 9 [(0, .ref 0), (1, .int p1), (2, .int p2), (3, .int p3), (4, .int p4)] [.int 0]
  refine jv_if_eq (tgt := 25) C dX8_change_9 (by decide) (fun _ => ?_) (fun h => absurd (by decide) h)
  refine jv_bipush (v := (-2)) C dX8_change_25 (by decide) ?_
  exact jv_iret C B ⟨rfl, rfl, rfl⟩ ⟨by decide, by decide⟩ dX8_change_27
theorem in_X8_changes_8 : ∀ w ∈ u_ws RX8 TX8 11, w ∈ wsX8_changes := by decide +kernel
set_option maxRecDepth 100000 in
set_option maxHeartbeats 4000000 in
theorem c_X8_changes (l : Launch) (D : va_G) (kp : Nat → ClassId) {n : Nat} {E : Nat → jv_E} (h0 : E 0 = cx0) (h1 : E 1 = cx1) (p1 : Int32) (p2 : Int32) (p3 : Int32) (p4 : Int32) (p5 : Int32) : jv_M l D vwCl kp yX8_changes wsX8_changes rm3 [] [.ref 0, .int p1, .int p2, .int p3, .int p4, .int p5] n E 0 0 (fun r n1 E1 => some (.int (-2)) = r ∧ n = n1 ∧ E = E1) := by
  refine jv_of (by decide) rfl (Nat.le_of_ble_eq_true rfl) (fun G C B hI hnl => ?_)
  show jv_V l D vwCl kp G 0 0 n E 0 [(0, .ref 0), (1, .int p1), (2, .int p2), (3, .int p3), (4, .int p4), (5, .int p5)] []
  refine jv_aload_n C dX8_changes_0 0 rfl ?_
  refine jv_getf (fk := 0) C (by decide) h0 rfl in_X8_changes_8 (by decide) (by decide +kernel) rfl rfl dX8_changes_1 ?_
  refine jv_iload_n C dX8_changes_4 1 rfl ?_
  refine jv_iload_n C dX8_changes_5 2 rfl ?_
  refine jv_callV (na := 2) (As := [.int p1, .int p2]) (st := []) C (c_X0_hasThrow l D kp h1 p1 p2) gX8_changes_X0_hasThrow rfl (by decide) h1 rfl rfl rfl q_X0_hasThrow rfl ⟨by decide, by decide⟩ ⟨by decide, by decide⟩ (fun _ h => absurd h List.not_mem_nil) (Nat.le_of_ble_eq_true rfl) rfl dX8_changes_6 (fun r n1 E_1 hp _ => ?_)
  obtain ⟨rfl, rfl, rfl⟩ := hp
  show jv_V l D vwCl kp G 0 0 n E 9 [(0, .ref 0), (1, .int p1), (2, .int p2), (3, .int p3), (4, .int p4), (5, .int p5)] [.int 0]
  refine jv_if_eq (tgt := 30) C dX8_changes_9 (by decide) (fun _ => ?_) (fun h => absurd (by decide) h)
  refine jv_bipush (v := (-2)) C dX8_changes_30 (by decide) ?_
  exact jv_iret C B ⟨rfl, rfl, rfl⟩ ⟨by decide, by decide⟩ dX8_changes_32
theorem in_X8_exchange_8 : ∀ w ∈ u_ws RX8 TX8 11, w ∈ wsX8_exchange := by decide +kernel
set_option maxRecDepth 100000 in
set_option maxHeartbeats 4000000 in
theorem c_X8_exchange (l : Launch) (D : va_G) (kp : Nat → ClassId) {n : Nat} {E : Nat → jv_E} (h0 : E 0 = cx0) (h1 : E 1 = cx1) (p1 : Int32) (p2 : Int32) (p3 : Int32) (p4 : Int32) : jv_M l D vwCl kp yX8_exchange wsX8_exchange rm3 [] [.ref 0, .int p1, .int p2, .int p3, .int p4] n E 0 0 (fun r n1 E1 => some (.int (-2)) = r ∧ n = n1 ∧ E = E1) := by
  refine jv_of (by decide) rfl (Nat.le_of_ble_eq_true rfl) (fun G C B hI hnl => ?_)
  show jv_V l D vwCl kp G 0 0 n E 0 [(0, .ref 0), (1, .int p1), (2, .int p2), (3, .int p3), (4, .int p4)] []
  refine jv_aload_n C dX8_exchange_0 0 rfl ?_
  refine jv_getf (fk := 0) C (by decide) h0 rfl in_X8_exchange_8 (by decide) (by decide +kernel) rfl rfl dX8_exchange_1 ?_
  refine jv_iload_n C dX8_exchange_4 1 rfl ?_
  refine jv_iload_n C dX8_exchange_5 2 rfl ?_
  refine jv_callV (na := 2) (As := [.int p1, .int p2]) (st := []) C (c_X0_hasThrow l D kp h1 p1 p2) gX8_exchange_X0_hasThrow rfl (by decide) h1 rfl rfl rfl q_X0_hasThrow rfl ⟨by decide, by decide⟩ ⟨by decide, by decide⟩ (fun _ h => absurd h List.not_mem_nil) (Nat.le_of_ble_eq_true rfl) rfl dX8_exchange_6 (fun r n1 E_1 hp _ => ?_)
  obtain ⟨rfl, rfl, rfl⟩ := hp
  show jv_V l D vwCl kp G 0 0 n E 9 [(0, .ref 0), (1, .int p1), (2, .int p2), (3, .int p3), (4, .int p4)] [.int 0]
  refine jv_if_eq (tgt := 30) C dX8_exchange_9 (by decide) (fun _ => ?_) (fun h => absurd (by decide) h)
  refine jv_bipush (v := (-2)) C dX8_exchange_30 (by decide) ?_
  exact jv_iret C B ⟨rfl, rfl, rfl⟩ ⟨by decide, by decide⟩ dX8_exchange_32
theorem in_X8_backwards_8 : ∀ w ∈ u_ws RX8 TX8 11, w ∈ wsX8_backwards := by decide +kernel
set_option maxRecDepth 100000 in
set_option maxHeartbeats 4000000 in
theorem c_X8_backwards (l : Launch) (D : va_G) (kp : Nat → ClassId) {n : Nat} {E : Nat → jv_E} (h0 : E 0 = cx0) (h1 : E 1 = cx1)  : jv_M l D vwCl kp yX8_backwards wsX8_backwards rm2 [] [.ref 0] n E 0 0 (fun r n1 E1 => some (.int (-2)) = r ∧ n = n1 ∧ E = E1) := by
  refine jv_of (by decide) rfl (Nat.le_of_ble_eq_true rfl) (fun G C B hI hnl => ?_)
  show jv_V l D vwCl kp G 0 0 n E 0 [(0, .ref 0)] []
  refine jv_aload_n C dX8_backwards_0 0 rfl ?_
  refine jv_getf (fk := 0) C (by decide) h0 rfl in_X8_backwards_8 (by decide) (by decide +kernel) rfl rfl dX8_backwards_1 ?_
  refine jv_callV (na := 0) (As := []) (st := []) C (c_X0_isTold l D kp h1 ) gX8_backwards_X0_isTold rfl (by decide) h1 rfl rfl rfl q_X0_isTold rfl ⟨by decide, by decide⟩ ⟨by decide, by decide⟩ (fun _ h => absurd h List.not_mem_nil) (Nat.le_of_ble_eq_true rfl) rfl dX8_backwards_4 (fun r n1 E_1 hp _ => ?_)
  obtain ⟨rfl, rfl, rfl⟩ := hp
  show jv_V l D vwCl kp G 0 0 n E 7 [(0, .ref 0)] [.int 0]
  refine jv_if_ne (tgt := 13) C dX8_backwards_7 (by decide) (fun h => absurd h (by decide)) (fun _ => ?_)
  refine jv_bipush (v := (-2)) C dX8_backwards_10 (by decide) ?_
  exact jv_iret C B ⟨rfl, rfl, rfl⟩ ⟨by decide, by decide⟩ dX8_backwards_12
theorem in_X8_ground_8 : ∀ w ∈ u_ws RX8 TX8 11, w ∈ wsX8_ground := by decide +kernel
set_option maxRecDepth 100000 in
set_option maxHeartbeats 4000000 in
theorem c_X8_ground (l : Launch) (D : va_G) (kp : Nat → ClassId) {n : Nat} {E : Nat → jv_E} (h0 : E 0 = cx0) (h1 : E 1 = cx1) (p1 : Int32) (p2 : Int32) : jv_M l D vwCl kp yX8_ground wsX8_ground rm3 [] [.ref 0, .int p1, .int p2] n E 0 0 (fun r n1 E1 => some (.int (-2)) = r ∧ n = n1 ∧ E = E1) := by
  refine jv_of (by decide) rfl (Nat.le_of_ble_eq_true rfl) (fun G C B hI hnl => ?_)
  show jv_V l D vwCl kp G 0 0 n E 0 [(0, .ref 0), (1, .int p1), (2, .int p2)] []
  refine jv_aload_n C dX8_ground_0 0 rfl ?_
  refine jv_getf (fk := 0) C (by decide) h0 rfl in_X8_ground_8 (by decide) (by decide +kernel) rfl rfl dX8_ground_1 ?_
  refine jv_iload_n C dX8_ground_4 1 rfl ?_
  refine jv_iload_n C dX8_ground_5 2 rfl ?_
  refine jv_callV (na := 2) (As := [.int p1, .int p2]) (st := []) C (c_X0_hasThrow l D kp h1 p1 p2) gX8_ground_X0_hasThrow rfl (by decide) h1 rfl rfl rfl q_X0_hasThrow rfl ⟨by decide, by decide⟩ ⟨by decide, by decide⟩ (fun _ h => absurd h List.not_mem_nil) (Nat.le_of_ble_eq_true rfl) rfl dX8_ground_6 (fun r n1 E_1 hp _ => ?_)
  obtain ⟨rfl, rfl, rfl⟩ := hp
  show jv_V l D vwCl kp G 0 0 n E 9 [(0, .ref 0), (1, .int p1), (2, .int p2)] [.int 0]
  refine jv_if_ne (tgt := 15) C dX8_ground_9 (by decide) (fun h => absurd h (by decide)) (fun _ => ?_)
  refine jv_bipush (v := (-2)) C dX8_ground_12 (by decide) ?_
  exact jv_iret C B ⟨rfl, rfl, rfl⟩ ⟨by decide, by decide⟩ dX8_ground_14
theorem in_X8_latest_8 : ∀ w ∈ u_ws RX8 TX8 11, w ∈ wsX8_latest := by decide +kernel
set_option maxRecDepth 100000 in
set_option maxHeartbeats 4000000 in
theorem c_X8_latest (l : Launch) (D : va_G) (kp : Nat → ClassId) {n : Nat} {E : Nat → jv_E} (h0 : E 0 = cx0) (h1 : E 1 = cx1) (p1 : Int32) (p2 : Int32) : jv_M l D vwCl kp yX8_latest wsX8_latest rm2 [] [.ref 0, .int p1, .int p2] n E 0 0 (fun r n1 E1 => some (.int (-2)) = r ∧ n = n1 ∧ E = E1) := by
  refine jv_of (by decide) rfl (Nat.le_of_ble_eq_true rfl) (fun G C B hI hnl => ?_)
  show jv_V l D vwCl kp G 0 0 n E 0 [(0, .ref 0), (1, .int p1), (2, .int p2)] []
  refine jv_aload_n C dX8_latest_0 0 rfl ?_
  refine jv_getf (fk := 0) C (by decide) h0 rfl in_X8_latest_8 (by decide) (by decide +kernel) rfl rfl dX8_latest_1 ?_
  refine jv_iload_n C dX8_latest_4 1 rfl ?_
  refine jv_callV (na := 1) (As := [.int p1]) (st := []) C (c_X0_hasLetter l D kp h1 p1) gX8_latest_X0_hasLetter rfl (by decide) h1 rfl rfl rfl q_X0_hasLetter rfl ⟨by decide, by decide⟩ ⟨by decide, by decide⟩ (fun _ h => absurd h List.not_mem_nil) (Nat.le_of_ble_eq_true rfl) rfl dX8_latest_5 (fun r n1 E_1 hp _ => ?_)
  obtain ⟨rfl, rfl, rfl⟩ := hp
  show jv_V l D vwCl kp G 0 0 n E 8 [(0, .ref 0), (1, .int p1), (2, .int p2)] [.int 0]
  refine jv_if_eq (tgt := 18) C dX8_latest_8 (by decide) (fun _ => ?_) (fun h => absurd (by decide) h)
  refine jv_bipush (v := (-2)) C dX8_latest_18 (by decide) ?_
  exact jv_iret C B ⟨rfl, rfl, rfl⟩ ⟨by decide, by decide⟩ dX8_latest_20
theorem in_X8_busiest_8 : ∀ w ∈ u_ws RX8 TX8 11, w ∈ wsX8_busiest := by decide +kernel
set_option maxRecDepth 100000 in
set_option maxHeartbeats 4000000 in
theorem c_X8_busiest (l : Launch) (D : va_G) (kp : Nat → ClassId) {n : Nat} {E : Nat → jv_E} (h0 : E 0 = cx0) (h1 : E 1 = cx1) (p1 : Int32) : jv_M l D vwCl kp yX8_busiest wsX8_busiest rm2 [] [.ref 0, .int p1] n E 0 0 (fun r n1 E1 => some (.int (-2)) = r ∧ n = n1 ∧ E = E1) := by
  refine jv_of (by decide) rfl (Nat.le_of_ble_eq_true rfl) (fun G C B hI hnl => ?_)
  show jv_V l D vwCl kp G 0 0 n E 0 [(0, .ref 0), (1, .int p1)] []
  refine jv_aload_n C dX8_busiest_0 0 rfl ?_
  refine jv_getf (fk := 0) C (by decide) h0 rfl in_X8_busiest_8 (by decide) (by decide +kernel) rfl rfl dX8_busiest_1 ?_
  refine jv_callV (na := 0) (As := []) (st := []) C (c_X0_isTold l D kp h1 ) gX8_busiest_X0_isTold rfl (by decide) h1 rfl rfl rfl q_X0_isTold rfl ⟨by decide, by decide⟩ ⟨by decide, by decide⟩ (fun _ h => absurd h List.not_mem_nil) (Nat.le_of_ble_eq_true rfl) rfl dX8_busiest_4 (fun r n1 E_1 hp _ => ?_)
  obtain ⟨rfl, rfl, rfl⟩ := hp
  show jv_V l D vwCl kp G 0 0 n E 7 [(0, .ref 0), (1, .int p1)] [.int 0]
  refine jv_if_eq (tgt := 18) C dX8_busiest_7 (by decide) (fun _ => ?_) (fun h => absurd (by decide) h)
  refine jv_bipush (v := (-2)) C dX8_busiest_18 (by decide) ?_
  exact jv_iret C B ⟨rfl, rfl, rfl⟩ ⟨by decide, by decide⟩ dX8_busiest_20
theorem in_X8_silent_8 : ∀ w ∈ u_ws RX8 TX8 11, w ∈ wsX8_silent := by decide +kernel
set_option maxRecDepth 100000 in
set_option maxHeartbeats 4000000 in
theorem c_X8_silent (l : Launch) (D : va_G) (kp : Nat → ClassId) {n : Nat} {E : Nat → jv_E} (h0 : E 0 = cx0) (h1 : E 1 = cx1) (p1 : Int32) : jv_M l D vwCl kp yX8_silent wsX8_silent rm2 [] [.ref 0, .int p1] n E 0 0 (fun r n1 E1 => some (.int (-2)) = r ∧ n = n1 ∧ E = E1) := by
  refine jv_of (by decide) rfl (Nat.le_of_ble_eq_true rfl) (fun G C B hI hnl => ?_)
  show jv_V l D vwCl kp G 0 0 n E 0 [(0, .ref 0), (1, .int p1)] []
  refine jv_aload_n C dX8_silent_0 0 rfl ?_
  refine jv_getf (fk := 0) C (by decide) h0 rfl in_X8_silent_8 (by decide) (by decide +kernel) rfl rfl dX8_silent_1 ?_
  refine jv_iload_n C dX8_silent_4 1 rfl ?_
  refine jv_callV (na := 1) (As := [.int p1]) (st := []) C (c_X0_hasRoof l D kp h1 p1) gX8_silent_X0_hasRoof rfl (by decide) h1 rfl rfl rfl q_X0_hasRoof rfl ⟨by decide, by decide⟩ ⟨by decide, by decide⟩ (fun _ h => absurd h List.not_mem_nil) (Nat.le_of_ble_eq_true rfl) rfl dX8_silent_5 (fun r n1 E_1 hp _ => ?_)
  obtain ⟨rfl, rfl, rfl⟩ := hp
  show jv_V l D vwCl kp G 0 0 n E 8 [(0, .ref 0), (1, .int p1)] [.int 0]
  refine jv_if_ne (tgt := 14) C dX8_silent_8 (by decide) (fun h => absurd h (by decide)) (fun _ => ?_)
  refine jv_bipush (v := (-2)) C dX8_silent_11 (by decide) ?_
  exact jv_iret C B ⟨rfl, rfl, rfl⟩ ⟨by decide, by decide⟩ dX8_silent_13
theorem q_X8_areGusts : yX8_areGusts.cls ≠ "java/lang/invoke/MethodHandle" ∧ yX8_areGusts.cls ≠ "java/lang/invoke/VarHandle" ∧ (parseMethodDescriptor yX8_areGusts.desc).map (fun d => d.parameters.length) = some 2 := by decide +kernel
set_option maxRecDepth 100000 in
set_option maxHeartbeats 4000000 in
theorem c_X8_gusts (l : Launch) (D : va_G) (kp : Nat → ClassId) {n : Nat} {E : Nat → jv_E} (h0 : E 0 = cx0) (h1 : E 1 = cx1) (p1 : Int32) (p2 : Int32) (p3 : Int32) : jv_M l D vwCl kp yX8_gusts wsX8_gusts rm3 [] [.ref 0, .int p1, .int p2, .int p3] n E 0 0 (fun r n1 E1 => some (.int (-2)) = r ∧ n = n1 ∧ E = E1) := by
  refine jv_of (by decide) rfl (Nat.le_of_ble_eq_true rfl) (fun G C B hI hnl => ?_)
  show jv_V l D vwCl kp G 0 0 n E 0 [(0, .ref 0), (1, .int p1), (2, .int p2), (3, .int p3)] []
  refine jv_aload_n C dX8_gusts_0 0 rfl ?_
  refine jv_iload_n C dX8_gusts_1 1 rfl ?_
  refine jv_iload_n C dX8_gusts_2 2 rfl ?_
  refine jv_callV (na := 2) (As := [.int p1, .int p2]) (st := []) C (c_X8_areGusts l D kp h0 h1 p1 p2) gX8_gusts_X8_areGusts rfl (by decide) h0 rfl rfl rfl q_X8_areGusts rfl ⟨by decide, by decide⟩ ⟨by decide, by decide⟩ (fun _ h => absurd h List.not_mem_nil) (Nat.le_of_ble_eq_true rfl) rfl dX8_gusts_3 (fun r n1 E_1 hp _ => ?_)
  obtain ⟨rfl, rfl, rfl⟩ := hp
  show jv_V l D vwCl kp G 0 0 n E 6 [(0, .ref 0), (1, .int p1), (2, .int p2), (3, .int p3)] [.int 0]
  refine jv_if_eq (tgt := 17) C dX8_gusts_6 (by decide) (fun _ => ?_) (fun h => absurd (by decide) h)
  refine jv_bipush (v := (-2)) C dX8_gusts_17 (by decide) ?_
  exact jv_iret C B ⟨rfl, rfl, rfl⟩ ⟨by decide, by decide⟩ dX8_gusts_19
set_option maxRecDepth 100000 in
set_option maxHeartbeats 4000000 in
theorem c_X8_years (l : Launch) (D : va_G) (kp : Nat → ClassId) {n : Nat} {E : Nat → jv_E} (h0 : E 0 = cx0) (h1 : E 1 = cx1) (p1 : Int32) (p2 : Int32) (p3 : Int32) : jv_M l D vwCl kp yX8_years wsX8_years rm3 [] [.ref 0, .int p1, .int p2, .int p3] n E 0 0 (fun r n1 E1 => some (.int (-2)) = r ∧ n = n1 ∧ E = E1) := by
  refine jv_of (by decide) rfl (Nat.le_of_ble_eq_true rfl) (fun G C B hI hnl => ?_)
  show jv_V l D vwCl kp G 0 0 n E 0 [(0, .ref 0), (1, .int p1), (2, .int p2), (3, .int p3)] []
  refine jv_aload_n C dX8_years_0 0 rfl ?_
  refine jv_iload_n C dX8_years_1 1 rfl ?_
  refine jv_iload_n C dX8_years_2 3 rfl ?_
  refine jv_callV (na := 2) (As := [.int p1, .int p3]) (st := []) C (c_X8_areGusts l D kp h0 h1 p1 p3) gX8_years_X8_areGusts rfl (by decide) h0 rfl rfl rfl q_X8_areGusts rfl ⟨by decide, by decide⟩ ⟨by decide, by decide⟩ (fun _ h => absurd h List.not_mem_nil) (Nat.le_of_ble_eq_true rfl) rfl dX8_years_3 (fun r n1 E_1 hp _ => ?_)
  obtain ⟨rfl, rfl, rfl⟩ := hp
  show jv_V l D vwCl kp G 0 0 n E 6 [(0, .ref 0), (1, .int p1), (2, .int p2), (3, .int p3)] [.int 0]
  refine jv_if_eq (tgt := 20) C dX8_years_6 (by decide) (fun _ => ?_) (fun h => absurd (by decide) h)
  refine jv_bipush (v := (-2)) C dX8_years_20 (by decide) ?_
  exact jv_iret C B ⟨rfl, rfl, rfl⟩ ⟨by decide, by decide⟩ dX8_years_22
theorem q_X8_draftFrom : yX8_draftFrom.cls ≠ "java/lang/invoke/MethodHandle" ∧ yX8_draftFrom.cls ≠ "java/lang/invoke/VarHandle" ∧ (parseMethodDescriptor yX8_draftFrom.desc).map (fun d => d.parameters.length) = some 2 := by decide +kernel
set_option maxRecDepth 100000 in
set_option maxHeartbeats 4000000 in
theorem c_X8_judge (l : Launch) (D : va_G) (kp : Nat → ClassId) {n : Nat} {E : Nat → jv_E} (h0 : E 0 = cx0) (h1 : E 1 = cx1) (h33 : E 33 = cx33) (p1 : Int32) (p2 : Int32) : jv_M l D vwCl kp yX8_judge wsX8_judge rm3 [] [.ref 0, .int p1, .int p2] n E 0 0 (fun r n1 E1 => some (.int (-2)) = r ∧ n = n1 ∧ E = E1) := by
  refine jv_of (by decide) rfl (Nat.le_of_ble_eq_true rfl) (fun G C B hI hnl => ?_)
  show jv_V l D vwCl kp G 0 0 n E 0 [(0, .ref 0), (1, .int p1), (2, .int p2)] []
  refine jv_aload_n C dX8_judge_0 0 rfl ?_
  refine jv_iload_n C dX8_judge_1 1 rfl ?_
  refine jv_iload_n C dX8_judge_2 2 rfl ?_
  refine jv_callV (na := 2) (As := [.int p1, .int p2]) (st := []) C (c_X8_draftFrom l D kp h0 h1 h33 p1 p2) gX8_judge_X8_draftFrom rfl (by decide) h0 rfl rfl rfl q_X8_draftFrom rfl ⟨by decide, by decide⟩ ⟨by decide, by decide⟩ (fun _ h => absurd h List.not_mem_nil) (Nat.le_of_ble_eq_true rfl) rfl dX8_judge_3 (fun r n1 E_1 hp _ => ?_)
  obtain ⟨rfl, rfl, rfl⟩ := hp
  show jv_V l D vwCl kp G 0 0 n E 6 [(0, .ref 0), (1, .int p1), (2, .int p2)] [.int (-2)]
  refine jv_istore_n (lv2 := [(3, .int (-2)), (0, .ref 0), (1, .int p1), (2, .int p2)]) C dX8_judge_6 rfl hnl (by decide) rfl ?_
  refine jv_iload_n C dX8_judge_7 0 rfl ?_
  refine jv_if_ge (tgt := 13) C dX8_judge_8 (by decide) (fun h => absurd h (by decide)) (fun _ => ?_)
  refine jv_iload_n C dX8_judge_11 0 rfl ?_
  exact jv_iret C B ⟨rfl, rfl, rfl⟩ ⟨by decide, by decide⟩ dX8_judge_12
set_option maxRecDepth 100000 in
set_option maxHeartbeats 4000000 in
theorem c_X8_takes (l : Launch) (D : va_G) (kp : Nat → ClassId) {n : Nat} {E : Nat → jv_E} (h0 : E 0 = cx0) (h1 : E 1 = cx1) (h33 : E 33 = cx33) (p1 : Int32) (p2 : Int32) : jv_M l D vwCl kp yX8_takes wsX8_takes rm3 [] [.ref 0, .int p1, .int p2] n E 0 0 (fun r n1 E1 => some (.int (-2)) = r ∧ n = n1 ∧ E = E1) := by
  refine jv_of (by decide) rfl (Nat.le_of_ble_eq_true rfl) (fun G C B hI hnl => ?_)
  show jv_V l D vwCl kp G 0 0 n E 0 [(0, .ref 0), (1, .int p1), (2, .int p2)] []
  refine jv_aload_n C dX8_takes_0 0 rfl ?_
  refine jv_iload_n C dX8_takes_1 1 rfl ?_
  refine jv_iload_n C dX8_takes_2 2 rfl ?_
  refine jv_callV (na := 2) (As := [.int p1, .int p2]) (st := []) C (c_X8_draftFrom l D kp h0 h1 h33 p1 p2) gX8_takes_X8_draftFrom rfl (by decide) h0 rfl rfl rfl q_X8_draftFrom rfl ⟨by decide, by decide⟩ ⟨by decide, by decide⟩ (fun _ h => absurd h List.not_mem_nil) (Nat.le_of_ble_eq_true rfl) rfl dX8_takes_3 (fun r n1 E_1 hp _ => ?_)
  obtain ⟨rfl, rfl, rfl⟩ := hp
  show jv_V l D vwCl kp G 0 0 n E 6 [(0, .ref 0), (1, .int p1), (2, .int p2)] [.int (-2)]
  refine jv_istore_n (lv2 := [(3, .int (-2)), (0, .ref 0), (1, .int p1), (2, .int p2)]) C dX8_takes_6 rfl hnl (by decide) rfl ?_
  refine jv_iload_n C dX8_takes_7 0 rfl ?_
  refine jv_if_lt (tgt := 22) C dX8_takes_8 (by decide) (fun _ => ?_) (fun h => absurd (by decide) h)
  refine jv_iload_n C dX8_takes_22 0 rfl ?_
  exact jv_iret C B ⟨rfl, rfl, rfl⟩ ⟨by decide, by decide⟩ dX8_takes_23
theorem in_X8_wages_8 : ∀ w ∈ u_ws RX8 TX8 11, w ∈ wsX8_wages := by decide +kernel
set_option maxRecDepth 100000 in
set_option maxHeartbeats 4000000 in
theorem c_X8_wages (l : Launch) (D : va_G) (kp : Nat → ClassId) {n : Nat} {E : Nat → jv_E} (h0 : E 0 = cx0) (h1 : E 1 = cx1) (p1 : Int32) (p2 : Int32) : jv_M l D vwCl kp yX8_wages wsX8_wages rm2 [] [.ref 0, .int p1, .int p2] n E 0 0 (fun r n1 E1 => some (.long (-2)) = r ∧ n = n1 ∧ E = E1) := by
  refine jv_of (by decide) rfl (Nat.le_of_ble_eq_true rfl) (fun G C B hI hnl => ?_)
  show jv_V l D vwCl kp G 0 0 n E 0 [(0, .ref 0), (1, .int p1), (2, .int p2)] []
  refine jv_aload_n C dX8_wages_0 0 rfl ?_
  refine jv_getf (fk := 0) C (by decide) h0 rfl in_X8_wages_8 (by decide) (by decide +kernel) rfl rfl dX8_wages_1 ?_
  refine jv_iload_n C dX8_wages_4 1 rfl ?_
  refine jv_callV (na := 1) (As := [.int p1]) (st := []) C (c_X0_hasRoof l D kp h1 p1) gX8_wages_X0_hasRoof rfl (by decide) h1 rfl rfl rfl q_X0_hasRoof rfl ⟨by decide, by decide⟩ ⟨by decide, by decide⟩ (fun _ h => absurd h List.not_mem_nil) (Nat.le_of_ble_eq_true rfl) rfl dX8_wages_5 (fun r n1 E_1 hp _ => ?_)
  obtain ⟨rfl, rfl, rfl⟩ := hp
  show jv_V l D vwCl kp G 0 0 n E 8 [(0, .ref 0), (1, .int p1), (2, .int p2)] [.int 0]
  refine jv_if_eq (tgt := 21) C dX8_wages_8 (by decide) (fun _ => ?_) (fun h => absurd (by decide) h)
  refine jv_ldc2 (v := (-2)) C dX8_wages_21 (by decide +kernel) ?_
  exact jv_lret C B ⟨rfl, rfl, rfl⟩ ⟨by decide, by decide⟩ dX8_wages_24
