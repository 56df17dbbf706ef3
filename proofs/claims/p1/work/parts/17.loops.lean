theorem in_X4_open_4 : ∀ w ∈ u_ws RX4 TX4 3, w ∈ wsX4_open := by decide +kernel
theorem in_X9_row_9 : ∀ w ∈ u_ws RX9 TX9 46, w ∈ wsX9_row := by decide +kernel
theorem fb_bmod {z : Int} (h1 : -2147483648 ≤ z) (h2 : z < 2147483648) : z.bmod (2 ^ 32) = z := by
  rw [Int.bmod_eq_of_le (by omega) (by omega)]
theorem fb_addI {x y : Int32} (h1 : -2147483648 ≤ x.toInt + y.toInt) (h2 : x.toInt + y.toInt < 2147483648) : (x + y).toInt = x.toInt + y.toInt := by
  rw [Int32.toInt_add, fb_bmod h1 h2]
theorem fb_subI {x y : Int32} (h1 : -2147483648 ≤ x.toInt - y.toInt) (h2 : x.toInt - y.toInt < 2147483648) : (x - y).toInt = x.toInt - y.toInt := by
  rw [Int32.toInt_sub, fb_bmod h1 h2]
theorem fb_mulI {x y : Int32} (h1 : -2147483648 ≤ x.toInt * y.toInt) (h2 : x.toInt * y.toInt < 2147483648) : (x * y).toInt = x.toInt * y.toInt := by
  rw [Int32.toInt_mul, fb_bmod h1 h2]
theorem jv_idx {x i : Int32} {z : Nat} (h0 : 0 ≤ x.toInt) (h1 : 0 ≤ i.toInt) (h2 : x.toInt + i.toInt < z) (h3 : z ≤ 100000) : vp_in (x + i) z := by
  refine vp_in_iff.mpr ?_
  rw [fb_addI (by omega) (by omega)]
  omega
theorem jv_inc {i : Int32} (h1 : 0 ≤ i.toInt) (h2 : i.toInt < 1000000) : (i + 1).toInt = i.toInt + 1 := by
  rw [fb_addI (by have z0 : (1 : Int32).toInt = 1 := (by decide); omega) (by have z0 : (1 : Int32).toInt = 1 := (by decide); omega)]
  rfl
theorem jv_upd0 {g : Nat → Int32} {k : Nat} (h : ∀ j, g j = 0) : ∀ j, upd g k (g k) j = 0 := fun j => by
  by_cases hj : j = k
  · rw [hj, pk_us]; exact h k
  · rw [pk_un hj]; exact h j
theorem jv_upd0' {g : Nat → Int32} {k k2 : Nat} (h : ∀ j, g j = 0) : ∀ j, upd g k (g k2) j = 0 := fun j => by
  by_cases hj : j = k
  · rw [hj, pk_us]; exact h k2
  · rw [pk_un hj]; exact h j
set_option maxRecDepth 100000 in
set_option maxHeartbeats 8000000 in
theorem lp_copyRow {l : Launch} {D : va_G} {kp : Nat → ClassId} {G : jv_G} {n : Nat} {E0 : Nat → jv_E} {kc z : Nat} {mm aa bb : Int32} {g0 : Nat → Int32} (C : jv_C D vwCl kp G cX9_copyRow yX9_copyRow.cls wsX9_copyRow rm1 []) (hnl : jv_nL G = 5)
    (B : jv_R D vwCl kp G E0 none 0 0 (fun r n1 E1 => none = r ∧ n = n1 ∧ (∀ j, j ≠ kc → E1 j = E0 j) ∧ ∃ g, E1 kc = .inl (0, z, .inl g) ∧ ((∀ j, g0 j = 0) → ∀ j, g j = 0)))
    (hk : kc < 1000000) (hz : z ≤ 1000) (hm : 0 ≤ mm.toInt) (ha : 0 ≤ (mm * aa).toInt ∧ (mm * aa).toInt + mm.toInt ≤ z) (hb : 0 ≤ (mm * bb).toInt ∧ (mm * bb).toInt + mm.toInt ≤ z) :
    ∀ (f : Nat) (i : Int32) (E : Nat → jv_E) (g : Nat → Int32), i.toInt + f = mm.toInt → 0 ≤ i.toInt → E kc = .inl (0, z, .inl g) → (∀ j, j ≠ kc → E j = E0 j) → ((∀ j, g0 j = 0) → ∀ j, g j = 0) → jv_V l D vwCl kp G 0 0 n E 3 [(4, .int i), (0, .ref kc), (1, .int mm), (2, .int aa), (3, .int bb)] [] := by
  intro f
  induction f with
  | zero =>
    intro i E g h1 h2 he hfr hg
    refine jv_iload C dX9_copyRow_3 0 rfl ?_
    refine jv_iload_n C dX9_copyRow_5 2 rfl ?_
    refine jv_icmp_ge (tgt := 31) C dX9_copyRow_6 (by decide) (fun _ => ?_) (fun h => absurd (jv_r_le (by omega)) h)
    exact jv_vret C B ⟨rfl, rfl, hfr, g, he, hg⟩ ⟨by decide, by decide⟩ dX9_copyRow_31
  | succ f ih =>
    intro i E g h1 h2 he hfr hg
    refine jv_iload C dX9_copyRow_3 0 rfl ?_
    refine jv_iload_n C dX9_copyRow_5 2 rfl ?_
    refine jv_icmp_ge (tgt := 31) C dX9_copyRow_6 (by decide) (fun h => absurd h (jv_r_nle (by omega))) (fun _ => ?_)
    refine jv_aload_n C dX9_copyRow_9 1 rfl ?_
    refine jv_iload_n C dX9_copyRow_10 2 rfl ?_
    refine jv_iload_n C dX9_copyRow_11 4 rfl ?_
    refine jv_imul C dX9_copyRow_12 ?_
    refine jv_iload C dX9_copyRow_13 0 rfl ?_
    refine jv_iadd C dX9_copyRow_15 ?_
    refine jv_aload_n C dX9_copyRow_16 1 rfl ?_
    refine jv_iload_n C dX9_copyRow_17 2 rfl ?_
    refine jv_iload_n C dX9_copyRow_18 3 rfl ?_
    refine jv_imul C dX9_copyRow_19 ?_
    refine jv_iload C dX9_copyRow_20 0 rfl ?_
    refine jv_iadd C dX9_copyRow_22 ?_
    refine jv_iald C hk he (jv_idx ha.1 h2 (by omega) (by omega)) dX9_copyRow_23 ?_
    refine jv_iast C hk he (jv_idx hb.1 h2 (by omega) (by omega)) dX9_copyRow_24 ?_
    have hi1 : (i + 1).toInt = i.toInt + 1 := jv_inc h2 (by omega)
    refine jv_iinc (lv2 := [(4, .int (i + 1)), (0, .ref kc), (1, .int mm), (2, .int aa), (3, .int bb)]) C dX9_copyRow_25 hnl 0 rfl rfl (by decide) rfl ?_
    refine jv_goto (tgt := 3) C dX9_copyRow_28 (by decide) ?_
    exact ih (i + 1) _ _ (by omega) (by omega) (va_up_self _ _ _) (fun j hj => (va_up_ne _ _ hj).trans (hfr j hj)) (fun h => jv_upd0' (hg h))
set_option maxRecDepth 100000 in
set_option maxHeartbeats 8000000 in
theorem c_X9_copyRow (l : Launch) (D : va_G) (kp : Nat → ClassId) {n : Nat} {E : Nat → jv_E} {kc z : Nat} {g0 : Nat → Int32} (he : E kc = .inl (0, z, .inl g0)) (mm aa bb : Int32) (hk : kc < 1000000) (hz : z ≤ 1000) (hm : 0 ≤ mm.toInt) (ha : 0 ≤ (mm * aa).toInt ∧ (mm * aa).toInt + mm.toInt ≤ z) (hb : 0 ≤ (mm * bb).toInt ∧ (mm * bb).toInt + mm.toInt ≤ z) :
    jv_M l D vwCl kp yX9_copyRow wsX9_copyRow rm1 [] [.ref kc, .int mm, .int aa, .int bb] n E 0 0 (fun r n1 E1 => none = r ∧ n = n1 ∧ (∀ j, j ≠ kc → E1 j = E j) ∧ ∃ g, E1 kc = .inl (0, z, .inl g) ∧ ((∀ j, g0 j = 0) → ∀ j, g j = 0)) := by
  refine jv_of (by decide) rfl (Nat.le_of_ble_eq_true rfl) (fun G C B hI hnl => ?_)
  show jv_V l D vwCl kp G 0 0 n E 0 [(0, .ref kc), (1, .int mm), (2, .int aa), (3, .int bb)] []
  refine jv_iconst (v := 0) C dX9_copyRow_0 (by decide) ?_
  refine jv_istore (lv2 := [(4, .int 0), (0, .ref kc), (1, .int mm), (2, .int aa), (3, .int bb)]) C dX9_copyRow_1 hnl (by decide) rfl ?_
  exact lp_copyRow C hnl B hk hz hm ha hb mm.toInt.toNat 0 E g0 (by have z0 : (0 : Int32).toInt = 0 := (by decide); omega) (by decide) he (fun _ _ => rfl) id
theorem jv_upL0 {g : Nat → Int64} : True := trivial
set_option maxRecDepth 100000 in
set_option maxHeartbeats 8000000 in
theorem lp_open {l : Launch} {D : va_G} {kp : Nat → ClassId} {G : jv_G} {n : Nat} {E0 : Nat → jv_E} {p1 p2 p3 : Int32} (C : jv_C D vwCl kp G cX4_open yX4_open.cls wsX4_open rm2 []) (hnl : jv_nL G = 5)
    (B : jv_R D vwCl kp G E0 none 0 0 (fun r n1 E1 => none = r ∧ n = n1 ∧ (∀ j, j ≠ 34 → j ≠ 35 → j ≠ 36 → E1 j = E0 j)))
    (b1 : 0 ≤ p1.toInt ∧ p1.toInt ≤ 3) (b3 : 0 ≤ p3.toInt ∧ p3.toInt ≤ 60) :
    ∀ (f : Nat) (i : Int32) (E : Nat → jv_E) (g : Nat → Int64), i.toInt + f = p3.toInt → 0 ≤ i.toInt → E 33 = cx33 → E 36 = .inl (3, 240, .inr (.inl g)) → (∀ j, j ≠ 34 → j ≠ 35 → j ≠ 36 → E j = E0 j) → jv_V l D vwCl kp G 0 0 n E 35 [(4, .int i), (0, .ref 33), (1, .int p1), (2, .int p2), (3, .int p3)] [] := by
  have hm : (p1 * 60).toInt = p1.toInt * 60 := by
    have : (60 : Int32).toInt = 60 := by decide
    rw [fb_mulI (by rw [this]; omega) (by rw [this]; omega), this]
  intro f
  induction f with
  | zero =>
    intro i E g h1 h2 h33 he hfr
    refine jv_iload C dX4_open_35 0 rfl ?_
    refine jv_iload_n C dX4_open_37 4 rfl ?_
    refine jv_icmp_ge (tgt := 60) C dX4_open_38 (by decide) (fun _ => ?_) (fun h => absurd (jv_r_le (by omega)) h)
    exact jv_vret C B ⟨rfl, rfl, hfr⟩ ⟨by decide, by decide⟩ dX4_open_60
  | succ f ih =>
    intro i E g h1 h2 h33 he hfr
    refine jv_iload C dX4_open_35 0 rfl ?_
    refine jv_iload_n C dX4_open_37 4 rfl ?_
    refine jv_icmp_ge (tgt := 60) C dX4_open_38 (by decide) (fun h => absurd h (jv_r_nle (by omega))) (fun _ => ?_)
    refine jv_aload_n C dX4_open_41 1 rfl ?_
    refine jv_getf (fk := 2) C (by decide) h33 rfl in_X4_open_4 (by decide) (by decide +kernel) rfl rfl dX4_open_42 ?_
    refine jv_iload_n C dX4_open_45 2 rfl ?_
    refine jv_bipush (v := 60) C dX4_open_46 (by decide) ?_
    refine jv_imul C dX4_open_48 ?_
    refine jv_iload C dX4_open_49 0 rfl ?_
    refine jv_iadd C dX4_open_51 ?_
    refine jv_lconst (v := 0) C dX4_open_52 (by decide) ?_
    refine jv_last C (by decide) he (jv_idx (by omega) h2 (by omega) (by decide)) dX4_open_53 ?_
    have hi1 : (i + 1).toInt = i.toInt + 1 := jv_inc h2 (by omega)
    refine jv_iinc (lv2 := [(4, .int (i + 1)), (0, .ref 33), (1, .int p1), (2, .int p2), (3, .int p3)]) C dX4_open_54 hnl 0 rfl rfl (by decide) rfl ?_
    refine jv_goto (tgt := 35) C dX4_open_57 (by decide) ?_
    exact ih (i + 1) _ _ (by omega) (by omega) (jv_n (by decide) h33) (va_up_self _ _ _) (fun j q1 q2 q3 => (va_up_ne _ _ q3).trans (hfr j q1 q2 q3))
set_option maxRecDepth 100000 in
set_option maxHeartbeats 8000000 in
theorem c_X4_open (l : Launch) (D : va_G) (kp : Nat → ClassId) {n : Nat} {E : Nat → jv_E} (h33 : E 33 = cx33) (h34 : E 34 = cx34) (h35 : E 35 = cx35) (h36 : E 36 = cx36) (p1 p2 p3 : Int32) (b1 : 0 ≤ p1.toInt ∧ p1.toInt ≤ 3) (b3 : 0 ≤ p3.toInt ∧ p3.toInt ≤ 60) :
    jv_M l D vwCl kp yX4_open wsX4_open rm2 [] [.ref 33, .int p1, .int p2, .int p3] n E 0 0 (fun r n1 E1 => none = r ∧ n = n1 ∧ (∀ j, j ≠ 34 → j ≠ 35 → j ≠ 36 → E1 j = E j)) := by
  refine jv_of (by decide) rfl (Nat.le_of_ble_eq_true rfl) (fun G C B hI hnl => ?_)
  show jv_V l D vwCl kp G 0 0 n E 0 [(0, .ref 33), (1, .int p1), (2, .int p2), (3, .int p3)] []
  have hin : vp_in p1 4 := vp_in_iff.mpr (by omega)
  refine jv_aload_n C dX4_open_0 0 rfl ?_
  refine jv_iload_n C dX4_open_1 1 rfl ?_
  refine jv_callV (na := 1) (As := [.int p1]) (st := []) C (c_X4_isSlot l D kp h33 p1) gX4_open_X4_isSlot rfl (by decide) h33 rfl rfl rfl q_X4_isSlot rfl ⟨by decide, by decide⟩ ⟨by decide, by decide⟩ (fun _ h => absurd h List.not_mem_nil) (Nat.le_of_ble_eq_true rfl) rfl dX4_open_2 (fun r n1 E1 hp _ => ?_)
  obtain ⟨hq, rfl, rfl⟩ := hp
  obtain ⟨rfl, -⟩ := hq.resolve_right (fun h => absurd h.2 (by omega))
  show jv_V l D vwCl kp G 0 0 n E 5 [(0, .ref 33), (1, .int p1), (2, .int p2), (3, .int p3)] [.int 1]
  refine jv_if_eq (tgt := 60) C dX4_open_5 (by decide) (fun h => absurd h (by decide)) (fun _ => ?_)
  refine jv_iload_n C dX4_open_8 3 rfl ?_
  refine jv_if_lt (tgt := 60) C dX4_open_9 (by decide) (fun h => absurd h (jv_r_nlt (by have z0 : (0 : Int32).toInt = 0 := (by decide); omega))) (fun _ => ?_)
  refine jv_iload_n C dX4_open_12 3 rfl ?_
  refine jv_bipush (v := 60) C dX4_open_13 (by decide) ?_
  refine jv_icmp_gt (tgt := 60) C dX4_open_15 (by decide) (fun h => absurd h (jv_r_nlt (by have z0 : (60 : Int32).toInt = 60 := (by decide); omega))) (fun _ => ?_)
  refine jv_aload_n C dX4_open_18 0 rfl ?_
  refine jv_getf (fk := 0) C (by decide) h33 rfl in_X4_open_4 (by decide) (by decide +kernel) rfl rfl dX4_open_19 ?_
  refine jv_iload_n C dX4_open_22 1 rfl ?_
  refine jv_iload_n C dX4_open_23 2 rfl ?_
  refine jv_iast C (by decide) h34 hin dX4_open_24 ?_
  refine jv_aload_n C dX4_open_25 0 rfl ?_
  refine jv_getf (fk := 1) C (by decide) (jv_n (by decide) h33) rfl in_X4_open_4 (by decide) (by decide +kernel) rfl rfl dX4_open_26 ?_
  refine jv_iload_n C dX4_open_29 1 rfl ?_
  refine jv_iload_n C dX4_open_30 3 rfl ?_
  refine jv_iast C (by decide) (jv_n (by decide) h35) hin dX4_open_31 ?_
  refine jv_iconst (v := 0) C dX4_open_32 (by decide) ?_
  refine jv_istore (lv2 := [(4, .int 0), (0, .ref 33), (1, .int p1), (2, .int p2), (3, .int p3)]) C dX4_open_33 hnl (by decide) rfl ?_
  exact lp_open C hnl B b1 b3 p3.toInt.toNat 0 _ _ (by have z0 : (0 : Int32).toInt = 0 := (by decide); omega) (by decide) (jv_n (by decide) (jv_n (by decide) h33)) (jv_n (by decide) (jv_n (by decide) h36)) (fun j q1 q2 q3 => (va_up_ne _ _ q2).trans (va_up_ne _ _ q1))
set_option maxRecDepth 100000 in
set_option maxHeartbeats 8000000 in
theorem lp_row9 {l : Launch} {D : va_G} {kp : Nat → ClassId} {G : jv_G} {n : Nat} {E0 : Nat → jv_E} {p1 p2 p3 : Int32} {rd : Room} {post : Option Value → Nat → (Nat → jv_E) → Prop} {ob : List Value} (C : jv_C D vwCl kp G cX9_row yX9_row.cls wsX9_row rd []) (hnl : jv_nL G = 5)
    (B : jv_R D vwCl kp G E0 (some .int) 0 0 post) (hpost : ∀ n1 E1, post (some (.int 0)) n1 E1) (hob : ob[3]? = some (.ref 61))
    (b1 : 0 ≤ p1.toInt ∧ p1.toInt ≤ 3) (b3 : 0 ≤ p3.toInt ∧ p3.toInt ≤ 60) :
    ∀ (f : Nat) (i : Int32) (E : Nat → jv_E) (g : Nat → Int64), i.toInt + f = p3.toInt → 0 ≤ i.toInt → E 58 = .inr (9, ob) → E 61 = .inl (3, 240, .inr (.inl g)) → jv_V l D vwCl kp G 0 0 n E 57 [(4, .int i), (0, .ref 58), (1, .int p1), (2, .int p2), (3, .int p3)] [] := by
  have hm : (60 * p1).toInt = 60 * p1.toInt := by
    have : (60 : Int32).toInt = 60 := by decide
    rw [fb_mulI (by rw [this]; omega) (by rw [this]; omega), this]
  intro f
  induction f with
  | zero =>
    intro i E g h1 h2 h58 he
    refine jv_iload C dX9_row_57 0 rfl ?_
    refine jv_iload_n C dX9_row_59 4 rfl ?_
    refine jv_icmp_ge (tgt := 82) C dX9_row_60 (by decide) (fun _ => ?_) (fun h => absurd (jv_r_le (by omega)) h)
    refine jv_iconst (v := 0) C dX9_row_82 (by decide) ?_
    exact jv_iret C B (hpost _ _) ⟨by decide, by decide⟩ dX9_row_83
  | succ f ih =>
    intro i E g h1 h2 h58 he
    refine jv_iload C dX9_row_57 0 rfl ?_
    refine jv_iload_n C dX9_row_59 4 rfl ?_
    refine jv_icmp_ge (tgt := 82) C dX9_row_60 (by decide) (fun h => absurd h (jv_r_nle (by omega))) (fun _ => ?_)
    refine jv_aload_n C dX9_row_63 1 rfl ?_
    refine jv_getf (fk := 3) C (by decide) h58 rfl in_X9_row_9 (by decide) (by decide +kernel) rfl hob dX9_row_64 ?_
    refine jv_bipush (v := 60) C dX9_row_67 (by decide) ?_
    refine jv_iload_n C dX9_row_69 2 rfl ?_
    refine jv_imul C dX9_row_70 ?_
    refine jv_iload C dX9_row_71 0 rfl ?_
    refine jv_iadd C dX9_row_73 ?_
    refine jv_lconst (v := 0) C dX9_row_74 (by decide) ?_
    refine jv_last C (by decide) he (jv_idx (by omega) h2 (by omega) (by decide)) dX9_row_75 ?_
    have hi1 : (i + 1).toInt = i.toInt + 1 := jv_inc h2 (by omega)
    refine jv_iinc (lv2 := [(4, .int (i + 1)), (0, .ref 58), (1, .int p1), (2, .int p2), (3, .int p3)]) C dX9_row_76 hnl 0 rfl rfl (by decide) rfl ?_
    refine jv_goto (tgt := 57) C dX9_row_79 (by decide) ?_
    exact ih (i + 1) _ _ (by omega) (by omega) (jv_n (by decide) h58) (va_up_self _ _ _)
