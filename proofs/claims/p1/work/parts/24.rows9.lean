theorem in_X9_laysRows_9 : ∀ w ∈ u_ws RX9 TX9 46, w ∈ wsX9_laysRows := by decide +kernel
theorem in_X9_rows_9 : ∀ w ∈ u_ws RX9 TX9 46, w ∈ wsX9_rows := by decide +kernel
theorem in_X9_least_9 : ∀ w ∈ u_ws RX9 TX9 46, w ∈ wsX9_least := by decide +kernel
theorem q_X9_areRows : yX9_areRows.cls ≠ "java/lang/invoke/MethodHandle" ∧ yX9_areRows.cls ≠ "java/lang/invoke/VarHandle" ∧ (parseMethodDescriptor yX9_areRows.desc).map (fun d => d.parameters.length) = some 3 := by decide +kernel
theorem q_X9_bitsOf : yX9_bitsOf.cls ≠ "java/lang/invoke/MethodHandle" ∧ yX9_bitsOf.cls ≠ "java/lang/invoke/VarHandle" ∧ (parseMethodDescriptor yX9_bitsOf.desc).map (fun d => d.parameters.length) = some 1 := by decide +kernel
theorem q_X9_at : yX9_at.cls ≠ "java/lang/invoke/MethodHandle" ∧ yX9_at.cls ≠ "java/lang/invoke/VarHandle" ∧ (parseMethodDescriptor yX9_at.desc).map (fun d => d.parameters.length) = some 2 := by decide +kernel
theorem q_X9_laysRows : yX9_laysRows.cls ≠ "java/lang/invoke/MethodHandle" ∧ yX9_laysRows.cls ≠ "java/lang/invoke/VarHandle" ∧ (parseMethodDescriptor yX9_laysRows.desc).map (fun d => d.parameters.length) = some 3 := by decide +kernel
set_option maxRecDepth 100000 in
set_option maxHeartbeats 4000000 in
theorem c_X9_areRows (l : Launch) (D : va_G) (kp : Nat → ClassId) {n : Nat} {E : Nat → jv_E}  (p1 : Int32) (p2 : Int32) (p3 : Int32) : jv_M l D vwCl kp yX9_areRows wsX9_areRows rm2 [] [.int p1, .int p2, .int p3] n E 0 0 (fun r n1 E1 => ((some (.int 1) = r ∧ (1 ≤ p1.toInt ∧ p1.toInt ≤ 8 ∧ 0 ≤ p2.toInt ∧ p2.toInt ≤ 9 ∧ 0 ≤ p3.toInt ∧ p3.toInt ≤ 9)) ∨ (some (.int 0) = r ∧ ¬ (1 ≤ p1.toInt ∧ p1.toInt ≤ 8 ∧ 0 ≤ p2.toInt ∧ p2.toInt ≤ 9 ∧ 0 ≤ p3.toInt ∧ p3.toInt ≤ 9))) ∧ n = n1 ∧ E = E1) := by
  refine jv_of (by decide) rfl (Nat.le_of_ble_eq_true rfl) (fun G C B hI hnl => ?_)
  show jv_V l D vwCl kp G 0 0 n E 0 [(0, .int p1), (1, .int p2), (2, .int p3)] []
  refine jv_iload_n C dX9_areRows_0 0 rfl ?_
  refine jv_i2l C dX9_areRows_1 ?_
  refine jv_lconst (v := 1) C dX9_areRows_2 (by decide) ?_
  refine jv_ldc2 (v := 8) C dX9_areRows_3 (by decide +kernel) ?_
  refine jv_callS (na := 3) (As := [.long p1.toInt64, .long 1, .long 8]) (st := []) C (c_X9_in l D kp p1.toInt64 1 8 p1.toInt 1 8 (jv_t64 p1) (by decide) (by decide)) gX9_areRows_X9_in rfl rfl rfl q_X9_in rfl ⟨by decide, by decide⟩ ⟨by decide, by decide⟩ (fun _ h => absurd h List.not_mem_nil) (Nat.le_of_ble_eq_true rfl) rfl dX9_areRows_6 (fun r n1 E_1 hp _ => ?_)
  obtain ⟨⟨rfl, q2⟩ | ⟨rfl, q2⟩, rfl, rfl⟩ := hp
  · show jv_V l D vwCl kp G 0 0 n E 9 [(0, .int p1), (1, .int p2), (2, .int p3)] [.int 1]
    refine jv_if_eq (tgt := 40) C dX9_areRows_9 (by decide) (fun h => absurd h (by decide)) (fun _ => ?_)
    refine jv_iload_n C dX9_areRows_12 1 rfl ?_
    refine jv_i2l C dX9_areRows_13 ?_
    refine jv_lconst (v := 0) C dX9_areRows_14 (by decide) ?_
    refine jv_ldc2 (v := 9) C dX9_areRows_15 (by decide +kernel) ?_
    refine jv_callS (na := 3) (As := [.long p2.toInt64, .long 0, .long 9]) (st := []) C (c_X9_in l D kp p2.toInt64 0 9 p2.toInt 0 9 (jv_t64 p2) (by decide) (by decide)) gX9_areRows_X9_in rfl rfl rfl q_X9_in rfl ⟨by decide, by decide⟩ ⟨by decide, by decide⟩ (fun _ h => absurd h List.not_mem_nil) (Nat.le_of_ble_eq_true rfl) rfl dX9_areRows_18 (fun r n1 E_3 hp _ => ?_)
    obtain ⟨⟨rfl, q4⟩ | ⟨rfl, q4⟩, rfl, rfl⟩ := hp
    · show jv_V l D vwCl kp G 0 0 n E 21 [(0, .int p1), (1, .int p2), (2, .int p3)] [.int 1]
      refine jv_if_eq (tgt := 40) C dX9_areRows_21 (by decide) (fun h => absurd h (by decide)) (fun _ => ?_)
      refine jv_iload_n C dX9_areRows_24 2 rfl ?_
      refine jv_i2l C dX9_areRows_25 ?_
      refine jv_lconst (v := 0) C dX9_areRows_26 (by decide) ?_
      refine jv_ldc2 (v := 9) C dX9_areRows_27 (by decide +kernel) ?_
      refine jv_callS (na := 3) (As := [.long p3.toInt64, .long 0, .long 9]) (st := []) C (c_X9_in l D kp p3.toInt64 0 9 p3.toInt 0 9 (jv_t64 p3) (by decide) (by decide)) gX9_areRows_X9_in rfl rfl rfl q_X9_in rfl ⟨by decide, by decide⟩ ⟨by decide, by decide⟩ (fun _ h => absurd h List.not_mem_nil) (Nat.le_of_ble_eq_true rfl) rfl dX9_areRows_30 (fun r n1 E_5 hp _ => ?_)
      obtain ⟨⟨rfl, q6⟩ | ⟨rfl, q6⟩, rfl, rfl⟩ := hp
      · show jv_V l D vwCl kp G 0 0 n E 33 [(0, .int p1), (1, .int p2), (2, .int p3)] [.int 1]
        refine jv_if_eq (tgt := 40) C dX9_areRows_33 (by decide) (fun h => absurd h (by decide)) (fun _ => ?_)
        refine jv_iconst (v := 1) C dX9_areRows_36 (by decide) ?_
        refine jv_goto (tgt := 41) C dX9_areRows_37 (by decide) ?_
        exact jv_zret C B (by decide) ⟨Or.inl ⟨rfl, by have a0 := q2; have a1 := q4; have a2 := q6; omega⟩, rfl, rfl⟩ ⟨by decide, by decide⟩ dX9_areRows_41
      · show jv_V l D vwCl kp G 0 0 n E 33 [(0, .int p1), (1, .int p2), (2, .int p3)] [.int 0]
        refine jv_if_eq (tgt := 40) C dX9_areRows_33 (by decide) (fun _ => ?_) (fun h => absurd (by decide) h)
        refine jv_iconst (v := 0) C dX9_areRows_40 (by decide) ?_
        exact jv_zret C B (by decide) ⟨Or.inr ⟨rfl, by have a0 := q2; have a1 := q4; have a2 := q6; omega⟩, rfl, rfl⟩ ⟨by decide, by decide⟩ dX9_areRows_41
    · show jv_V l D vwCl kp G 0 0 n E 21 [(0, .int p1), (1, .int p2), (2, .int p3)] [.int 0]
      refine jv_if_eq (tgt := 40) C dX9_areRows_21 (by decide) (fun _ => ?_) (fun h => absurd (by decide) h)
      refine jv_iconst (v := 0) C dX9_areRows_40 (by decide) ?_
      exact jv_zret C B (by decide) ⟨Or.inr ⟨rfl, by have a0 := q2; have a1 := q4; omega⟩, rfl, rfl⟩ ⟨by decide, by decide⟩ dX9_areRows_41
  · show jv_V l D vwCl kp G 0 0 n E 9 [(0, .int p1), (1, .int p2), (2, .int p3)] [.int 0]
    refine jv_if_eq (tgt := 40) C dX9_areRows_9 (by decide) (fun _ => ?_) (fun h => absurd (by decide) h)
    refine jv_iconst (v := 0) C dX9_areRows_40 (by decide) ?_
    exact jv_zret C B (by decide) ⟨Or.inr ⟨rfl, by have a0 := q2; omega⟩, rfl, rfl⟩ ⟨by decide, by decide⟩ dX9_areRows_41
theorem jm_sub {a b : Nat} (h : b ≤ a) : nI a - nI b = nI (a - b) := by
  have e : nI a = nI (a - b) + nI b := by rw [nI_add]; congr 1; omega
  rw [e, Int32.add_sub_cancel]
theorem jm_low : ∀ v, v < 256 → 0 < v → (nI v &&& (nI v - 1)) = nI (v &&& (v - 1)) ∧ (v &&& (v - 1)) < 256 ∧ jw_bc (v &&& (v - 1)) + 1 = jw_bc v := by decide +kernel
theorem jm_bc0 : ∀ v, v < 256 → jw_bc v = 0 → v = 0 := by decide +kernel
theorem jm_bcp : ∀ v, v < 256 → 0 < jw_bc v → 0 < v := by decide +kernel
theorem jm_and : ∀ s, s < 256 → ∀ m, m < 8 → (nI s &&& nI (2 ^ m) = 0 ↔ s.testBit m = false) := by decide +kernel
set_option maxRecDepth 100000 in
set_option maxHeartbeats 8000000 in
theorem lp_bits {l : Launch} {D : va_G} {kp : Nat → ClassId} {G : jv_G} {n t : Nat} {E E0 : Nat → jv_E} {x0 : Int32} {rd : Room} {post : Option Value → Nat → (Nat → jv_E) → Prop} (C : jv_C D vwCl kp G cX9_bitsOf yX9_bitsOf.cls wsX9_bitsOf rd []) (hnl : jv_nL G = 3)
    (B : jv_R D vwCl kp G E0 (some .int) 0 0 post) (hp : post (some (.int (nI t))) n E) :
    ∀ (f c v : Nat), v < 256 → jw_bc v = f → c + f = t → jv_V l D vwCl kp G 0 0 n E 4 [(2, .int (nI v)), (1, .int (nI c)), (0, .int x0)] [] := by
  intro f
  induction f with
  | zero =>
    intro c v hv hb hc
    have h0 := jm_bc0 v hv hb
    subst h0
    have hc2 : c = t := by omega
    subst hc2
    refine jv_iload_n C dX9_bitsOf_4 0 rfl ?_
    refine jv_if_eq (tgt := 20) C dX9_bitsOf_5 (by decide) (fun _ => ?_) (fun h => absurd nI_0 h)
    refine jv_iload_n C dX9_bitsOf_20 1 rfl ?_
    exact jv_iret C B hp ⟨by decide, by decide⟩ dX9_bitsOf_21
  | succ f ih =>
    intro c v hv hb hc
    have h0 := jm_bcp v hv (by omega)
    obtain ⟨e1, e2, e3⟩ := jm_low v hv h0
    refine jv_iload_n C dX9_bitsOf_4 0 rfl ?_
    refine jv_if_eq (tgt := 20) C dX9_bitsOf_5 (by decide) (fun h => absurd h (nI_ne0 h0 (by omega))) (fun _ => ?_)
    refine jv_iinc (v := nI (c + 1)) (lv2 := [(1, .int (nI (c + 1))), (2, .int (nI v)), (0, .int x0)]) C dX9_bitsOf_8 hnl 1 rfl (nI_1 c) (by decide) rfl ?_
    refine jv_iload_n C dX9_bitsOf_11 1 rfl ?_
    refine jv_iload_n C dX9_bitsOf_12 1 rfl ?_
    refine jv_iconst (v := 1) C dX9_bitsOf_13 (by decide) ?_
    refine jv_isub C dX9_bitsOf_14 ?_
    refine jv_iand C dX9_bitsOf_15 ?_
    refine jv_ti e1 ?_
    refine jv_istore_n (lv2 := [(2, .int (nI (v &&& (v - 1)))), (1, .int (nI (c + 1))), (0, .int x0)]) C dX9_bitsOf_16 rfl hnl (by decide) rfl ?_
    refine jv_goto (tgt := 4) C dX9_bitsOf_17 (by decide) ?_
    exact ih (c + 1) _ e2 (by omega) (by omega)
set_option maxRecDepth 100000 in
set_option maxHeartbeats 8000000 in
theorem c_X9_bitsOf (l : Launch) (D : va_G) (kp : Nat → ClassId) {n : Nat} {E : Nat → jv_E} {s : Nat} (hs : s < 256) :
    jv_M l D vwCl kp yX9_bitsOf wsX9_bitsOf rm1 [] [.int (nI s)] n E 0 0 (fun r n1 E1 => some (.int (nI (jw_bc s))) = r ∧ n = n1 ∧ E = E1) := by
  refine jv_of (by decide) rfl (Nat.le_of_ble_eq_true rfl) (fun G C B hI hnl => ?_)
  show jv_V l D vwCl kp G 0 0 n E 0 [(0, .int (nI s))] []
  refine jv_iconst (v := 0) C dX9_bitsOf_0 (by decide) ?_
  refine jv_istore_n (lv2 := [(1, .int 0), (0, .int (nI s))]) C dX9_bitsOf_1 rfl hnl (by decide) rfl ?_
  refine jv_iload_n C dX9_bitsOf_2 1 rfl ?_
  refine jv_istore_n (lv2 := [(2, .int (nI s)), (1, .int 0), (0, .int (nI s))]) C dX9_bitsOf_3 rfl hnl (by decide) rfl ?_
  exact lp_bits C hnl B ⟨rfl, rfl, rfl⟩ (jw_bc s) 0 s hs rfl (by omega)
set_option maxRecDepth 100000 in
set_option maxHeartbeats 8000000 in
theorem c_X9_at (l : Launch) (D : va_G) (kp : Nat → ClassId) {n : Nat} {E : Nat → jv_E} (s x : Nat) :
    jv_M l D vwCl kp yX9_at wsX9_at rm1 [] [.int (nI s), .int (nI x)] n E 0 0 (fun r n1 E1 => some (.int (nI (73 * s + x))) = r ∧ n = n1 ∧ E = E1) := by
  refine jv_of (by decide) rfl (Nat.le_of_ble_eq_true rfl) (fun G C B hI hnl => ?_)
  show jv_V l D vwCl kp G 0 0 n E 0 [(0, .int (nI s)), (1, .int (nI x))] []
  refine jv_bipush (v := nI 73) C dX9_at_0 (by decide) ?_
  refine jv_iload_n C dX9_at_2 0 rfl ?_
  refine jv_imul C dX9_at_3 ?_
  refine jv_ti (pk_mul 73 s) ?_
  refine jv_iload_n C dX9_at_4 1 rfl ?_
  refine jv_iadd C dX9_at_5 ?_
  refine jv_ti (nI_add (73 * s) x) ?_
  exact jv_iret C B ⟨rfl, rfl, rfl⟩ ⟨by decide, by decide⟩ dX9_at_6
/-! the table of the reference -/
def jm_term (P T k x : Nat) : Nat → Nat := fun h => if k.testBit ((P - jw_U P k + h) % P) then 0 else jw_M P T (jw_U P k - 1) (k ||| 2 ^ ((P - jw_U P k + h) % P)) ((x : Int) - (h : Int))
theorem jm_M {P T k x : Nat} (h : 0 < jw_U P k) : jw_M P T (jw_U P k) k (x : Int) = jw_sum (jm_term P T k x) (T + 1) := by
  obtain ⟨r, hr⟩ : ∃ r, jw_U P k = r + 1 := ⟨jw_U P k - 1, by omega⟩
  unfold jm_term
  rw [hr, jw_M]
  rfl
theorem jm_ext {f : Nat → Nat} {h : Nat} : ∀ {m : Nat}, h ≤ m → (∀ j, h ≤ j → j < m → f j = 0) → jw_sum f m = jw_sum f h
  | 0, h1, _ => by have e : h = 0 := by omega
                   rw [e]
  | m + 1, h1, h2 => by
    by_cases e : h = m + 1
    · rw [e]
    · rw [jw_sum, h2 m (by omega) (by omega), Nat.add_zero]
      exact jm_ext (by omega) (fun j a b => h2 j a (by omega))
theorem jm_over {P T k x h : Nat} (hx : x < h) : jm_term P T k x h = 0 := by
  unfold jm_term
  by_cases q : k.testBit ((P - jw_U P k + h) % P) = true
  · rw [if_pos q]
  · rw [if_neg q]
    exact jw_Mneg _ _ _ _ _ (by omega)
def jm_I (P T X k : Nat) (gl : Nat → Int64) : Prop := ∀ s, k ≤ s → s < 2 ^ P → ∀ x, x ≤ X → gl (73 * s + x) = lN (jw_M P T (jw_U P s) s (x : Int))
def jm_J (P T X k x : Nat) (gl : Nat → Int64) : Prop := jm_I P T X (k + 1) gl ∧ ∀ y, y < x → gl (73 * k + y) = lN (jw_M P T (jw_U P k) k (y : Int))
theorem jm_JI {P T X k : Nat} {gl : Nat → Int64} (h : jm_J P T X k (X + 1) gl) : jm_I P T X k gl := fun s h1 h2 x hx => by
  by_cases e : s = k
  · subst e; exact h.2 x (by omega)
  · exact h.1 s (by omega) h2 x hx
theorem jm_upd {P T X k x : Nat} {gl : Nat → Int64} (hX : X ≤ 72) (hx : x ≤ X) (h : jm_J P T X k x gl) : jm_J P T X k (x + 1) (vp_updL gl (73 * k + x) (lN (jw_M P T (jw_U P k) k (x : Int)))) := by
  refine ⟨fun s h1 h2 y hy => ?_, fun y hy => ?_⟩
  · unfold vp_updL
    rw [if_neg (by omega)]
    exact h.1 s h1 h2 y hy
  · unfold vp_updL
    by_cases e : y = x
    · subst e; rw [if_pos rfl]
    · rw [if_neg (by omega)]
      exact h.2 y (by omega)
set_option maxRecDepth 100000 in
set_option maxHeartbeats 8000000 in
theorem lp_M124 {l : Launch} {D : va_G} {kp : Nat → ClassId} {G : jv_G} {n : Nat} {P T B X k x : Nat} {fv bv hv : Int32} (C : jv_C D vwCl kp G cX9_laysRows yX9_laysRows.cls wsX9_laysRows rm2 []) (hnl : jv_nL G = 12) (hX : X ≤ 72) (hx : x ≤ X) (hk : k < 256)
    (kk : ∀ (E : Nat → jv_E) (gl : Nat → Int64), E 58 = cx58 → E 82 = .inl (3, 18688, .inr (.inl gl)) → jm_J P T X k (x + 1) gl → jv_V l D vwCl kp G 0 0 n E 26 [(7, .int (nI (x + 1))), (6, .int bv), (5, .int (nI k)), (4, .int fv), (0, .ref 58), (1, .int (nI P)), (2, .int (nI B)), (3, .int (nI T))] []) {E : Nat → jv_E} {gl : Nat → Int64} (h58 : E 58 = cx58) (h82 : E 82 = .inl (3, 18688, .inr (.inl gl))) (hJ : jm_J P T X k x gl) :
    jv_V l D vwCl kp G 0 0 n E 124 [(10, .int hv), (8, .long (lN (jw_M P T (jw_U P k) k (x : Int)))), (7, .int (nI x)), (6, .int bv), (5, .int (nI k)), (4, .int fv), (0, .ref 58), (1, .int (nI P)), (2, .int (nI B)), (3, .int (nI T))] [] := by
  refine jv_aload_n C dX9_laysRows_124 6 rfl ?_
  refine jv_getf (fk := 40) C (by decide) h58 rfl in_X9_laysRows_9 (by decide) (by decide +kernel) rfl rfl dX9_laysRows_125 ?_
  refine jv_iload C dX9_laysRows_128 4 rfl ?_
  refine jv_iload C dX9_laysRows_130 2 rfl ?_
  refine jv_callS (na := 2) (As := [.int (nI k), .int (nI x)]) (st := [.ref 82]) C (c_X9_at l D kp k x) gX9_laysRows_X9_at rfl rfl rfl q_X9_at rfl ⟨by decide, by decide⟩ ⟨by decide, by decide⟩ (fun _ h => absurd h List.not_mem_nil) (Nat.le_of_ble_eq_true rfl) rfl dX9_laysRows_132 (fun r n1 E1 hp _ => ?_)
  obtain ⟨rfl, rfl, rfl⟩ := hp
  show jv_V l D vwCl kp G 0 0 n E 135 [(10, .int hv), (8, .long (lN (jw_M P T (jw_U P k) k (x : Int)))), (7, .int (nI x)), (6, .int bv), (5, .int (nI k)), (4, .int fv), (0, .ref 58), (1, .int (nI P)), (2, .int (nI B)), (3, .int (nI T))] [.int (nI (73 * k + x)), .ref 82]
  refine jv_lload C dX9_laysRows_135 1 rfl ?_
  refine jv_last C (by decide) h82 (jb_in (by omega) (by decide)) dX9_laysRows_137 ?_
  refine jv_iinc (v := nI (x + 1)) (lv2 := [(7, .int (nI (x + 1))), (10, .int hv), (8, .long (lN (jw_M P T (jw_U P k) k (x : Int)))), (6, .int bv), (5, .int (nI k)), (4, .int fv), (0, .ref 58), (1, .int (nI P)), (2, .int (nI B)), (3, .int (nI T))]) C dX9_laysRows_138 hnl 2 rfl (nI_1 x) (by decide) rfl ?_
  refine jv_goto (tgt := 26) C dX9_laysRows_141 (by decide) ?_
  refine jv_lpk [0, 3, 4, 5, 6, 7, 8, 9] rfl ?_
  refine kk _ _ ((va_up_ne _ _ (by decide)).trans h58) (va_up_self _ _ _) ?_
  rw [jb_cl (by omega)]
  exact jm_upd hX hx hJ
set_option maxRecDepth 100000 in
set_option maxHeartbeats 8000000 in
theorem lp_M56 {l : Launch} {D : va_G} {kp : Nat → ClassId} {G : jv_G} {n : Nat} {P T B X k x : Nat} {E : Nat → jv_E} {gl : Nat → Int64} (C : jv_C D vwCl kp G cX9_laysRows yX9_laysRows.cls wsX9_laysRows rm2 []) (hnl : jv_nL G = 12) (hP : 1 ≤ P) (hP2 : P < 9) (hT : T < 10) (hX : X ≤ 72) (hx : x ≤ X) (hk : k < 2 ^ P - 1) (h58 : E 58 = cx58) (h82 : E 82 = .inl (3, 18688, .inr (.inl gl))) (hJ : jm_J P T X k x gl)
    (kk : ∀ (hv : Int32), jv_V l D vwCl kp G 0 0 n E 124 [(10, .int hv), (8, .long (lN (jw_M P T (jw_U P k) k (x : Int)))), (7, .int (nI x)), (6, .int (nI (jw_bc k))), (5, .int (nI k)), (4, .int (nI (2 ^ P - 1))), (0, .ref 58), (1, .int (nI P)), (2, .int (nI B)), (3, .int (nI T))] []) :
    ∀ (f h : Nat), h + f = T + 1 → h ≤ x + 1 → jv_V l D vwCl kp G 0 0 n E 56 [(10, .int (nI h)), (8, .long (lN (jw_sum (jm_term P T k x) h))), (7, .int (nI x)), (6, .int (nI (jw_bc k))), (5, .int (nI k)), (4, .int (nI (2 ^ P - 1))), (0, .ref 58), (1, .int (nI P)), (2, .int (nI B)), (3, .int (nI T))] [] := by
  have hU := jb_U0 P hP2 k hk
  have hp2 := jb_p2 P hP2
  have hUb := jb_U P hP2 k (by omega)
  intro f
  induction f with
  | zero =>
    intro h h1 h2
    have e : h = T + 1 := by omega
    subst e
    refine jv_iload C dX9_laysRows_56 0 rfl ?_
    refine jv_iload_n C dX9_laysRows_58 9 rfl ?_
    refine jv_icmp_gt (tgt := 124) C dX9_laysRows_59 (by decide) (fun _ => ?_) (fun h => absurd (nI_lt (by omega) (by omega)) h)
    rw [← jm_M hU]
    exact kk _
  | succ f ih =>
    intro h h1 h2
    refine jv_iload C dX9_laysRows_56 0 rfl ?_
    refine jv_iload_n C dX9_laysRows_58 9 rfl ?_
    refine jv_icmp_gt (tgt := 124) C dX9_laysRows_59 (by decide) (fun q => absurd q (nI_nlt (by omega) (by omega))) (fun _ => ?_)
    refine jv_iload C dX9_laysRows_62 0 rfl ?_
    refine jv_iload C dX9_laysRows_64 2 rfl ?_
    by_cases hh : h = x + 1
    · refine jv_icmp_gt (tgt := 124) C dX9_laysRows_66 (by decide) (fun _ => ?_) (fun q => absurd (nI_lt (by omega) (by omega)) q)
      rw [← jm_ext (m := T + 1) (by omega) (fun j a _ => jm_over (by omega)), ← jm_M hU]
      exact kk _
    have hm : (jw_bc k + h) % P < P := Nat.mod_lt _ (by omega)
    have eb : jw_bc k = P - jw_U P k := by omega
    have h8 : jw_bc k ≤ 8 := by omega
    obtain ⟨o1, o2, o3⟩ := jb_or P hP2 k (by omega) _ hm
    have ha := jm_and k (by omega) _ (Nat.lt_of_lt_of_le hm (by omega))
    refine jv_icmp_gt (tgt := 124) C dX9_laysRows_66 (by decide) (fun q => absurd q (nI_nlt (by omega) (by omega))) (fun _ => ?_)
    refine jv_iload C dX9_laysRows_69 4 rfl ?_
    refine jv_iload C dX9_laysRows_71 5 rfl ?_
    refine jv_icmp_eq (tgt := 124) C dX9_laysRows_73 (by decide) (fun q => absurd ((nI_eq (by omega) (by omega)).mp q) (by omega)) (fun _ => ?_)
    refine jv_iconst (v := 1) C dX9_laysRows_76 (by decide) ?_
    refine jv_iload C dX9_laysRows_77 3 rfl ?_
    refine jv_iload C dX9_laysRows_79 0 rfl ?_
    refine jv_iadd C dX9_laysRows_81 ?_
    refine jv_ti (nI_add (jw_bc k) h) ?_
    refine jv_iload_n C dX9_laysRows_82 7 rfl ?_
    refine jv_irem C dX9_laysRows_83 (jb_ne0 hP (by omega)) ?_
    refine jv_ti (pk_rem (by omega) (by omega) (by omega)) ?_
    refine jv_ishl C dX9_laysRows_84 ?_
    refine jv_ti (jb_sh ((jw_bc k + h) % P) (by omega)) ?_
    obtain ⟨m, em⟩ : ∃ m, (jw_bc k + h) % P = m := ⟨_, rfl⟩
    have et : jm_term P T k x h = if k.testBit m then 0 else jw_M P T (jw_U P k - 1) (k ||| 2 ^ m) ((x : Int) - (h : Int)) := by
      unfold jm_term
      rw [← eb, em]
    rw [em] at hm o1 o2 o3 ha ⊢
    refine jv_istore (lv2 := [(11, .int (nI (2 ^ m))), (10, .int (nI h)), (8, .long (lN (jw_sum (jm_term P T k x) h))), (7, .int (nI x)), (6, .int (nI (jw_bc k))), (5, .int (nI k)), (4, .int (nI (2 ^ P - 1))), (0, .ref 58), (1, .int (nI P)), (2, .int (nI B)), (3, .int (nI T))]) C dX9_laysRows_85 hnl (by decide) rfl ?_
    refine jv_iload C dX9_laysRows_87 5 rfl ?_
    refine jv_iload C dX9_laysRows_89 0 rfl ?_
    refine jv_iand C dX9_laysRows_91 ?_
    refine jv_if_ne (tgt := 118) C dX9_laysRows_92 (by decide) (fun q => ?_) (fun q => ?_)
    · refine jv_iinc (v := nI (h + 1)) (lv2 := [(10, .int (nI (h + 1))), (11, .int (nI (2 ^ m))), (8, .long (lN (jw_sum (jm_term P T k x) h))), (7, .int (nI x)), (6, .int (nI (jw_bc k))), (5, .int (nI k)), (4, .int (nI (2 ^ P - 1))), (0, .ref 58), (1, .int (nI P)), (2, .int (nI B)), (3, .int (nI T))]) C dX9_laysRows_118 hnl 1 rfl (nI_1 h) (by decide) rfl ?_
      refine jv_goto (tgt := 56) C dX9_laysRows_121 (by decide) ?_
      refine jv_lpk [0, 2, 3, 4, 5, 6, 7, 8, 9, 10] rfl ?_
      have tb : k.testBit m = true := by
        cases e : k.testBit m
        · exact absurd (ha.mpr e) q
        · rfl
      have es : jw_sum (jm_term P T k x) h = jw_sum (jm_term P T k x) (h + 1) := by rw [jw_sum, et, if_pos tb, Nat.add_zero]
      rw [es]
      exact ih (h + 1) (by omega) (by omega)
    · have tb : k.testBit m = false := ha.mp q
      have tb2 := o3 tb
      obtain ⟨f1, f2, f3⟩ := jw_fin P hP2 k (by omega) _ hm tb
      refine jv_lload C dX9_laysRows_95 2 rfl ?_
      refine jv_aload_n C dX9_laysRows_97 7 rfl ?_
      refine jv_getf (fk := 40) C (by decide) h58 rfl in_X9_laysRows_9 (by decide) (by decide +kernel) rfl rfl dX9_laysRows_98 ?_
      refine jv_iload C dX9_laysRows_101 5 rfl ?_
      refine jv_iload C dX9_laysRows_103 0 rfl ?_
      refine jv_ior C dX9_laysRows_105 ?_
      refine jv_ti (jb_nor k (2 ^ m)) ?_
      refine jv_iload C dX9_laysRows_106 3 rfl ?_
      refine jv_iload C dX9_laysRows_108 1 rfl ?_
      refine jv_isub C dX9_laysRows_110 ?_
      refine jv_ti (jm_sub (a := x) (b := h) (by omega)) ?_
      refine jv_callS (na := 2) (As := [.int (nI (k ||| 2 ^ m)), .int (nI (x - h))]) (st := [.ref 82, .long (lN (jw_sum (jm_term P T k x) h))]) C (c_X9_at l D kp (k ||| 2 ^ m) (x - h)) gX9_laysRows_X9_at rfl rfl rfl q_X9_at rfl ⟨by decide, by decide⟩ ⟨by decide, by decide⟩ (fun _ h => absurd h List.not_mem_nil) (Nat.le_of_ble_eq_true rfl) rfl dX9_laysRows_111 (fun r n1 E1 hp _ => ?_)
      obtain ⟨rfl, rfl, rfl⟩ := hp
      show jv_V l D vwCl kp G 0 0 n E 114 [(11, .int (nI (2 ^ m))), (10, .int (nI h)), (8, .long (lN (jw_sum (jm_term P T k x) h))), (7, .int (nI x)), (6, .int (nI (jw_bc k))), (5, .int (nI k)), (4, .int (nI (2 ^ P - 1))), (0, .ref 58), (1, .int (nI P)), (2, .int (nI B)), (3, .int (nI T))] [.int (nI (73 * (k ||| 2 ^ m) + (x - h))), .ref 82, .long (lN (jw_sum (jm_term P T k x) h))]
      refine jv_lald C (by decide) h82 (jb_in (by omega) (by decide)) dX9_laysRows_114 ?_
      refine jv_tl (y := lN (jm_term P T k x h)) (by
        rw [jb_cl (by omega), hJ.1 _ (by omega) o1 _ (by omega), et, if_neg (by rw [tb]; decide)]
        congr 2
        · omega
        · exact Int.ofNat_sub (by omega)) ?_
      refine jv_ladd C dX9_laysRows_115 ?_
      refine jv_tl (y := lN (jw_sum (jm_term P T k x) (h + 1))) (by rw [lN_add]; rfl) ?_
      refine jv_lstore (lv2 := [(8, .long (lN (jw_sum (jm_term P T k x) (h + 1)))), (11, .int (nI (2 ^ m))), (10, .int (nI h)), (7, .int (nI x)), (6, .int (nI (jw_bc k))), (5, .int (nI k)), (4, .int (nI (2 ^ P - 1))), (0, .ref 58), (1, .int (nI P)), (2, .int (nI B)), (3, .int (nI T))]) C dX9_laysRows_116 hnl (by decide) rfl ?_
      refine jv_iinc (v := nI (h + 1)) (lv2 := [(10, .int (nI (h + 1))), (8, .long (lN (jw_sum (jm_term P T k x) (h + 1)))), (11, .int (nI (2 ^ m))), (7, .int (nI x)), (6, .int (nI (jw_bc k))), (5, .int (nI k)), (4, .int (nI (2 ^ P - 1))), (0, .ref 58), (1, .int (nI P)), (2, .int (nI B)), (3, .int (nI T))]) C dX9_laysRows_118 hnl 2 rfl (nI_1 h) (by decide) rfl ?_
      refine jv_goto (tgt := 56) C dX9_laysRows_121 (by decide) ?_
      refine jv_lpk [0, 1, 3, 4, 5, 6, 7, 8, 9, 10] rfl ?_
      exact ih (h + 1) (by omega) (by omega)
set_option maxRecDepth 100000 in
set_option maxHeartbeats 8000000 in
/-- one cell of the table, from the first value on -/
theorem lp_M51 {l : Launch} {D : va_G} {kp : Nat → ClassId} {G : jv_G} {n : Nat} {P T B X k x : Nat} {E : Nat → jv_E} {gl : Nat → Int64} (C : jv_C D vwCl kp G cX9_laysRows yX9_laysRows.cls wsX9_laysRows rm2 []) (hnl : jv_nL G = 12) (hP : 1 ≤ P) (hP2 : P < 9) (hT : T < 10) (hX : X ≤ 72) (hx : x ≤ X) (hk : k < 2 ^ P) (h58 : E 58 = cx58) (h82 : E 82 = .inl (3, 18688, .inr (.inl gl))) (hJ : jm_J P T X k x gl)
    (kk : ∀ (E : Nat → jv_E) (gl : Nat → Int64), E 58 = cx58 → E 82 = .inl (3, 18688, .inr (.inl gl)) → jm_J P T X k (x + 1) gl → jv_V l D vwCl kp G 0 0 n E 26 [(7, .int (nI (x + 1))), (6, .int (nI (jw_bc k))), (5, .int (nI k)), (4, .int (nI (2 ^ P - 1))), (0, .ref 58), (1, .int (nI P)), (2, .int (nI B)), (3, .int (nI T))] []) :
    jv_V l D vwCl kp G 0 0 n E 51 [(7, .int (nI x)), (6, .int (nI (jw_bc k))), (5, .int (nI k)), (4, .int (nI (2 ^ P - 1))), (0, .ref 58), (1, .int (nI P)), (2, .int (nI B)), (3, .int (nI T))] [.long (lN (if k = 2 ^ P - 1 ∧ x = 0 then 1 else 0))] := by
  have hp2 := jb_p2 P hP2
  have K := fun hv => lp_M124 (hv := hv) (E := E) C hnl hX hx (by omega) kk h58 h82 hJ
  by_cases hf : k = 2 ^ P - 1
  · have ev : (if k = 2 ^ P - 1 ∧ x = 0 then 1 else 0) = jw_M P T (jw_U P k) k (x : Int) := by
      have hu : jw_U P k = 0 := by rw [hf]; exact jb_Uf P hP2
      rw [hu, jw_M]
      by_cases e : x = 0
      · rw [if_pos ⟨hf, e⟩, if_pos (by omega)]
      · rw [if_neg (fun q => e q.2), if_neg (by omega)]
    rw [ev]
    refine jv_lstore (lv2 := [(8, .long (lN (jw_M P T (jw_U P k) k (x : Int)))), (7, .int (nI x)), (6, .int (nI (jw_bc k))), (5, .int (nI k)), (4, .int (nI (2 ^ P - 1))), (0, .ref 58), (1, .int (nI P)), (2, .int (nI B)), (3, .int (nI T))]) C dX9_laysRows_51 hnl (by decide) rfl ?_
    refine jv_iconst (v := nI 0) C dX9_laysRows_53 (by decide) ?_
    refine jv_istore (lv2 := [(10, .int (nI 0)), (8, .long (lN (jw_M P T (jw_U P k) k (x : Int)))), (7, .int (nI x)), (6, .int (nI (jw_bc k))), (5, .int (nI k)), (4, .int (nI (2 ^ P - 1))), (0, .ref 58), (1, .int (nI P)), (2, .int (nI B)), (3, .int (nI T))]) C dX9_laysRows_54 hnl (by decide) rfl ?_
    refine jv_iload C dX9_laysRows_56 0 rfl ?_
    refine jv_iload_n C dX9_laysRows_58 9 rfl ?_
    refine jv_icmp_gt (tgt := 124) C dX9_laysRows_59 (by decide) (fun q => absurd q (nI_nlt (by omega) (by omega))) (fun _ => ?_)
    refine jv_iload C dX9_laysRows_62 0 rfl ?_
    refine jv_iload C dX9_laysRows_64 2 rfl ?_
    refine jv_icmp_gt (tgt := 124) C dX9_laysRows_66 (by decide) (fun q => absurd q (nI_nlt (by omega) (by omega))) (fun _ => ?_)
    refine jv_iload C dX9_laysRows_69 4 rfl ?_
    refine jv_iload C dX9_laysRows_71 5 rfl ?_
    refine jv_icmp_eq (tgt := 124) C dX9_laysRows_73 (by decide) (fun _ => K _) (fun q => absurd (by rw [hf]) q)
  · have ev : (if k = 2 ^ P - 1 ∧ x = 0 then 1 else 0) = jw_sum (jm_term P T k x) 0 := by rw [if_neg (fun q => hf q.1)]; rfl
    rw [ev]
    refine jv_lstore (lv2 := [(8, .long (lN (jw_sum (jm_term P T k x) 0))), (7, .int (nI x)), (6, .int (nI (jw_bc k))), (5, .int (nI k)), (4, .int (nI (2 ^ P - 1))), (0, .ref 58), (1, .int (nI P)), (2, .int (nI B)), (3, .int (nI T))]) C dX9_laysRows_51 hnl (by decide) rfl ?_
    refine jv_iconst (v := nI 0) C dX9_laysRows_53 (by decide) ?_
    refine jv_istore (lv2 := [(10, .int (nI 0)), (8, .long (lN (jw_sum (jm_term P T k x) 0))), (7, .int (nI x)), (6, .int (nI (jw_bc k))), (5, .int (nI k)), (4, .int (nI (2 ^ P - 1))), (0, .ref 58), (1, .int (nI P)), (2, .int (nI B)), (3, .int (nI T))]) C dX9_laysRows_54 hnl (by decide) rfl ?_
    exact lp_M56 C hnl hP hP2 hT hX hx (by omega) h58 h82 hJ K (T + 1) 0 (by omega) (by omega)
set_option maxRecDepth 100000 in
set_option maxHeartbeats 8000000 in
theorem lp_M26 {l : Launch} {D : va_G} {kp : Nat → ClassId} {G : jv_G} {n : Nat} {P T B k : Nat} (C : jv_C D vwCl kp G cX9_laysRows yX9_laysRows.cls wsX9_laysRows rm2 []) (hnl : jv_nL G = 12) (hP : 1 ≤ P) (hP2 : P < 9) (hB : B < 10) (hT : T < 10) (hX : P * B ≤ 72) (hk : k < 2 ^ P)
    (kk : ∀ (E : Nat → jv_E) (gl : Nat → Int64) (xv : Int32), E 58 = cx58 → E 82 = .inl (3, 18688, .inr (.inl gl)) → jm_I P T (P * B) k gl → jv_V l D vwCl kp G 0 0 n E 144 [(7, .int xv), (6, .int (nI (jw_bc k))), (5, .int (nI k)), (4, .int (nI (2 ^ P - 1))), (0, .ref 58), (1, .int (nI P)), (2, .int (nI B)), (3, .int (nI T))] []) :
    ∀ (f x : Nat) (E : Nat → jv_E) (gl : Nat → Int64), x + f = P * B + 1 → E 58 = cx58 → E 82 = .inl (3, 18688, .inr (.inl gl)) → jm_J P T (P * B) k x gl → jv_V l D vwCl kp G 0 0 n E 26 [(7, .int (nI x)), (6, .int (nI (jw_bc k))), (5, .int (nI k)), (4, .int (nI (2 ^ P - 1))), (0, .ref 58), (1, .int (nI P)), (2, .int (nI B)), (3, .int (nI T))] [] := by
  have hp2 := jb_p2 P hP2
  intro f
  induction f with
  | zero =>
    intro x E gl h1 h58 h82 hJ
    have e : x = P * B + 1 := by omega
    subst e
    refine jv_iload C dX9_laysRows_26 0 rfl ?_
    refine jv_iload_n C dX9_laysRows_28 5 rfl ?_
    refine jv_iload_n C dX9_laysRows_29 6 rfl ?_
    refine jv_imul C dX9_laysRows_30 ?_
    refine jv_ti (pk_mul P B) ?_
    refine jv_icmp_gt (tgt := 144) C dX9_laysRows_31 (by decide) (fun _ => ?_) (fun h => absurd (nI_lt (by omega) (by omega)) h)
    exact kk E gl _ h58 h82 (jm_JI hJ)
  | succ f ih =>
    intro x E gl h1 h58 h82 hJ
    have K := fun E1 gl1 a b c => ih (x + 1) E1 gl1 (by omega) a b c
    have W := lp_M51 C hnl hP hP2 hT hX (x := x) (by omega) hk h58 h82 hJ K
    refine jv_iload C dX9_laysRows_26 0 rfl ?_
    refine jv_iload_n C dX9_laysRows_28 5 rfl ?_
    refine jv_iload_n C dX9_laysRows_29 6 rfl ?_
    refine jv_imul C dX9_laysRows_30 ?_
    refine jv_ti (pk_mul P B) ?_
    refine jv_icmp_gt (tgt := 144) C dX9_laysRows_31 (by decide) (fun q => absurd q (nI_nlt (by omega) (by omega))) (fun _ => ?_)
    refine jv_iload C dX9_laysRows_34 2 rfl ?_
    refine jv_iload C dX9_laysRows_36 3 rfl ?_
    refine jv_icmp_ne (tgt := 50) C dX9_laysRows_38 (by decide) (fun q => ?_) (fun q => ?_)
    · rw [if_neg (fun z => q (by rw [z.1]))] at W
      exact jv_lconst (v := lN 0) C dX9_laysRows_50 (by decide) W
    · have q2 := (nI_eq (by omega) (by omega)).mp q
      refine jv_iload C dX9_laysRows_41 0 rfl ?_
      refine jv_if_ne (tgt := 50) C dX9_laysRows_43 (by decide) (fun z => ?_) (fun z => ?_)
      · rw [if_neg (fun a => z (by rw [a.2]; exact nI_0))] at W
        exact jv_lconst (v := lN 0) C dX9_laysRows_50 (by decide) W
      · have z2 : x = 0 := (nI_eq (a := x) (b := 0) (by omega) (by omega)).mp (z.trans nI_0.symm)
        rw [if_pos ⟨q2, z2⟩] at W
        refine jv_lconst (v := lN 1) C dX9_laysRows_46 (by decide) ?_
        exact jv_goto (tgt := 51) C dX9_laysRows_47 (by decide) W
set_option maxRecDepth 100000 in
set_option maxHeartbeats 8000000 in
theorem lp_M11 {l : Launch} {D : va_G} {kp : Nat → ClassId} {G : jv_G} {n : Nat} {E0 : Nat → jv_E} {P T B : Nat} {post : Option Value → Nat → (Nat → jv_E) → Prop} (C : jv_C D vwCl kp G cX9_laysRows yX9_laysRows.cls wsX9_laysRows rm2 []) (hnl : jv_nL G = 12) (Bk : jv_R D vwCl kp G E0 none 0 0 post)
    (hpost : ∀ (E : Nat → jv_E) (gl : Nat → Int64), E 58 = cx58 → E 82 = .inl (3, 18688, .inr (.inl gl)) → jm_I P T (P * B) 0 gl → post none n E) (hP : 1 ≤ P) (hP2 : P < 9) (hB : B < 10) (hT : T < 10) (hX : P * B ≤ 72) :
    ∀ (k : Nat) (E : Nat → jv_E) (gl : Nat → Int64), k ≤ 2 ^ P → E 58 = cx58 → E 82 = .inl (3, 18688, .inr (.inl gl)) → jm_I P T (P * B) k gl → jv_V l D vwCl kp G 0 0 n E 11 [(5, .int (nI k + (-1))), (4, .int (nI (2 ^ P - 1))), (0, .ref 58), (1, .int (nI P)), (2, .int (nI B)), (3, .int (nI T))] [] := by
  have hp2 := jb_p2 P hP2
  intro k
  induction k with
  | zero =>
    intro E gl hk h58 h82 hI
    refine jv_iload C dX9_laysRows_11 0 rfl ?_
    refine jv_ti (y := -1) (by decide) ?_
    refine jv_if_lt (tgt := 150) C dX9_laysRows_13 (by decide) (fun _ => ?_) (fun h => absurd (by decide) h)
    exact jv_vret C Bk (hpost E gl h58 h82 hI) ⟨by decide, by decide⟩ dX9_laysRows_150
  | succ k ih =>
    intro E gl hk h58 h82 hI
    rw [pk_m1]
    refine jv_iload C dX9_laysRows_11 0 rfl ?_
    refine jv_if_lt (tgt := 150) C dX9_laysRows_13 (by decide) (fun h => absurd h (nI_pos (by omega))) (fun _ => ?_)
    refine jv_iload C dX9_laysRows_16 0 rfl ?_
    refine jv_callS (na := 1) (As := [.int (nI k)]) (st := []) C (c_X9_bitsOf l D kp (s := k) (by omega)) gX9_laysRows_X9_bitsOf rfl rfl rfl q_X9_bitsOf rfl ⟨by decide, by decide⟩ ⟨by decide, by decide⟩ (fun _ h => absurd h List.not_mem_nil) (Nat.le_of_ble_eq_true rfl) rfl dX9_laysRows_18 (fun r n1 E1 hp _ => ?_)
    obtain ⟨rfl, rfl, rfl⟩ := hp
    show jv_V l D vwCl kp G 0 0 n E 21 [(5, .int (nI k)), (4, .int (nI (2 ^ P - 1))), (0, .ref 58), (1, .int (nI P)), (2, .int (nI B)), (3, .int (nI T))] [.int (nI (jw_bc k))]
    refine jv_istore (lv2 := [(6, .int (nI (jw_bc k))), (5, .int (nI k)), (4, .int (nI (2 ^ P - 1))), (0, .ref 58), (1, .int (nI P)), (2, .int (nI B)), (3, .int (nI T))]) C dX9_laysRows_21 hnl (by decide) rfl ?_
    refine jv_iconst (v := nI 0) C dX9_laysRows_23 (by decide) ?_
    refine jv_istore (lv2 := [(7, .int (nI 0)), (6, .int (nI (jw_bc k))), (5, .int (nI k)), (4, .int (nI (2 ^ P - 1))), (0, .ref 58), (1, .int (nI P)), (2, .int (nI B)), (3, .int (nI T))]) C dX9_laysRows_24 hnl (by decide) rfl ?_
    refine lp_M26 C hnl hP hP2 hB hT hX (by omega) (fun E1 gl1 xv k58 k82 kI => ?_) (P * B + 1) 0 E gl (by omega) h58 h82 ⟨hI, fun y hy => absurd hy (Nat.not_lt_zero y)⟩
    refine jv_iinc (v := nI k + (-1)) (lv2 := [(5, .int (nI k + (-1))), (7, .int xv), (6, .int (nI (jw_bc k))), (4, .int (nI (2 ^ P - 1))), (0, .ref 58), (1, .int (nI P)), (2, .int (nI B)), (3, .int (nI T))]) C dX9_laysRows_144 hnl 2 rfl rfl (by decide) rfl ?_
    refine jv_goto (tgt := 11) C dX9_laysRows_147 (by decide) ?_
    refine jv_lpk [0, 3, 4, 5, 6, 7] rfl ?_
    exact ih E1 gl1 (by omega) k58 k82 kI
theorem jm_72 {P B : Nat} (hP : P < 9) (hB : B < 10) : P * B ≤ 72 := Nat.mul_le_mul (show P ≤ 8 by omega) (show B ≤ 9 by omega)
set_option maxRecDepth 100000 in
set_option maxHeartbeats 8000000 in
theorem c_X9_laysRows (l : Launch) (D : va_G) (kp : Nat → ClassId) {n : Nat} {E : Nat → jv_E} {P B T : Nat} {gl : Nat → Int64} (h58 : E 58 = cx58) (h82 : E 82 = .inl (3, 18688, .inr (.inl gl))) (hP : 1 ≤ P) (hP2 : P < 9) (hB : B < 10) (hT : T < 10) :
    jv_M l D vwCl kp yX9_laysRows wsX9_laysRows rm2 [] [.ref 58, .int (nI P), .int (nI B), .int (nI T)] n E 0 0 (fun r n1 E1 => none = r ∧ n = n1 ∧ E1 58 = cx58 ∧ ∃ gl, E1 82 = .inl (3, 18688, .inr (.inl gl)) ∧ jm_I P T (P * B) 0 gl) := by
  have hp2 := jb_p2 P hP2
  refine jv_of (by decide) rfl (Nat.le_of_ble_eq_true rfl) (fun G C Bk hI hnl => ?_)
  show jv_V l D vwCl kp G 0 0 n E 0 [(0, .ref 58), (1, .int (nI P)), (2, .int (nI B)), (3, .int (nI T))] []
  refine jv_iconst (v := 1) C dX9_laysRows_0 (by decide) ?_
  refine jv_iload_n C dX9_laysRows_1 1 rfl ?_
  refine jv_ishl C dX9_laysRows_2 ?_
  refine jv_ti (jb_sh P hP2) ?_
  refine jv_iconst (v := 1) C dX9_laysRows_3 (by decide) ?_
  refine jv_isub C dX9_laysRows_4 ?_
  refine jv_ti (jm_sub (a := 2 ^ P) (b := 1) hp2.1) ?_
  refine jv_istore (lv2 := [(4, .int (nI (2 ^ P - 1))), (0, .ref 58), (1, .int (nI P)), (2, .int (nI B)), (3, .int (nI T))]) C dX9_laysRows_5 hnl (by decide) rfl ?_
  refine jv_iload C dX9_laysRows_7 0 rfl ?_
  have e : nI (2 ^ P - 1) = nI (2 ^ P) + (-1) := by
    have h := pk_m1 (2 ^ P - 1)
    rw [show 2 ^ P - 1 + 1 = 2 ^ P by omega] at h
    exact h.symm
  refine jv_ti e ?_
  refine jv_istore (lv2 := [(5, .int (nI (2 ^ P) + (-1))), (4, .int (nI (2 ^ P - 1))), (0, .ref 58), (1, .int (nI P)), (2, .int (nI B)), (3, .int (nI T))]) C dX9_laysRows_9 hnl (by decide) rfl ?_
  exact lp_M11 C hnl Bk (fun E1 g1 a b c => ⟨rfl, rfl, a, g1, b, c⟩) hP hP2 hB hT (jm_72 hP2 hB) (2 ^ P) E gl (Nat.le_refl _) h58 h82 (fun s h1 h2 => absurd h2 (by omega))
set_option maxRecDepth 100000 in
set_option maxHeartbeats 8000000 in
theorem c_X9_rows (l : Launch) (D : va_G) (kp : Nat → ClassId) {n : Nat} {E : Nat → jv_E} (h58 : E 58 = cx58) (h82 : E 82 = cx82) (p1 p2 p3 : Int32) :
    jv_M l D vwCl kp yX9_rows wsX9_rows rm3 [] [.ref 58, .int p1, .int p2, .int p3] n E 0 0 (fun r n1 E1 => some (.long (jr_rows p1 p2 p3)) = r) := by
  refine jv_of (by decide) rfl (Nat.le_of_ble_eq_true rfl) (fun G C B hI hnl => ?_)
  show jv_V l D vwCl kp G 0 0 n E 0 [(0, .ref 58), (1, .int p1), (2, .int p2), (3, .int p3)] []
  refine jv_aload_n C dX9_rows_0 0 rfl ?_
  refine jv_iconst (v := 0) C dX9_rows_1 (by decide) ?_
  refine jv_putf (fk := 0) (ty := .int) (fs2 := [.int 0, .ref 59, .ref 60, .ref 61, .ref 62, .ref 63, .int 0, .int 0, .int 0, .int 0, .int 0, .long 0, .int 0, .int 0, .int 0, .int (-1), .ref 64, .ref 65, .ref 66, .ref 67, .ref 68, .ref 69, .ref 70, .ref 71, .ref 72, .ref 73, .int 0, .ref 74, .ref 75, .ref 76, .int 0, .int 0, .ref 77, .ref 78, .ref 79, .int 0, .int 0, .int 0, .ref 80, .ref 81, .ref 82, .long 0, .ref 83, .int 0, .int 0, .int 0]) C (by decide) h58 rfl in_X9_rows_9 tyX9 tyX9_ok nmX9 (by decide) (by decide +kernel) rfl rfl rfl (fun _ => rfl) (fun _ => rfl) (Nat.le_of_ble_eq_true rfl) dX9_rows_2 rfl ?_
  refine jv_iload_n C dX9_rows_5 1 rfl ?_
  refine jv_iload_n C dX9_rows_6 2 rfl ?_
  refine jv_iload_n C dX9_rows_7 3 rfl ?_
  refine jv_callS (na := 3) (As := [.int p1, .int p2, .int p3]) (st := []) C (c_X9_areRows l D kp p1 p2 p3) gX9_rows_X9_areRows rfl rfl rfl q_X9_areRows rfl ⟨by decide, by decide⟩ ⟨by decide, by decide⟩ (fun _ h => absurd h List.not_mem_nil) (Nat.le_of_ble_eq_true rfl) rfl dX9_rows_8 (fun r n1 E1 hp _ => ?_)
  obtain ⟨⟨rfl, hc⟩ | ⟨rfl, hc⟩, rfl, rfl⟩ := hp
  · obtain ⟨P, hP1, rfl, hP3⟩ := jb_of2 (x := p1) (m := 8) (by omega) (by omega)
    obtain ⟨b, hb1, rfl, hb3⟩ := jb_of2 (x := p2) (m := 9) (by omega) (by omega)
    obtain ⟨T, hT1, rfl, hT3⟩ := jb_of2 (x := p3) (m := 9) (by omega) (by omega)
    have hP : 1 ≤ P := by omega
    have hP2 : P < 9 := by omega
    have hb : b < 10 := by omega
    have hT : T < 10 := by omega
    have hX := jm_72 hP2 hb
    show jv_V l D vwCl kp G 0 0 n (va_up E 58 cx58) 11 [(0, .ref 58), (1, .int (nI P)), (2, .int (nI b)), (3, .int (nI T))] [.int 1]
    refine jv_if_ne (tgt := 18) C dX9_rows_11 (by decide) (fun _ => ?_) (fun h => absurd h (by decide))
    refine jv_aload_n C dX9_rows_18 0 rfl ?_
    refine jv_iload_n C dX9_rows_19 1 rfl ?_
    refine jv_iload_n C dX9_rows_20 2 rfl ?_
    refine jv_iload_n C dX9_rows_21 3 rfl ?_
    refine jv_callV (na := 3) (As := [.int (nI P), .int (nI b), .int (nI T)]) (st := []) C (c_X9_laysRows l D kp (va_up_self _ _ _) (jv_n (by decide) h82) hP hP2 hb hT) gX9_rows_X9_laysRows rfl (by decide) (va_up_self _ _ _) rfl rfl rfl q_X9_laysRows rfl ⟨by decide, by decide⟩ ⟨by decide, by decide⟩ (fun _ h => absurd h List.not_mem_nil) (Nat.le_of_ble_eq_true rfl) rfl dX9_rows_22 (fun r n1 E1 hp _ => ?_)
    obtain ⟨rfl, rfl, k58, gl, k82, kI⟩ := hp
    show jv_V l D vwCl kp G 0 0 n E1 25 [(0, .ref 58), (1, .int (nI P)), (2, .int (nI b)), (3, .int (nI T))] []
    refine jv_aload_n C dX9_rows_25 0 rfl ?_
    refine jv_getf (fk := 40) C (by decide) k58 rfl in_X9_rows_9 (by decide) (by decide +kernel) rfl rfl dX9_rows_26 ?_
    refine jv_iconst (v := nI 0) C dX9_rows_29 (by decide) ?_
    refine jv_iload_n C dX9_rows_30 1 rfl ?_
    refine jv_iload_n C dX9_rows_31 2 rfl ?_
    refine jv_imul C dX9_rows_32 ?_
    refine jv_ti (pk_mul P b) ?_
    refine jv_callS (na := 2) (As := [.int (nI 0), .int (nI (P * b))]) (st := [.ref 82]) C (c_X9_at l D kp 0 (P * b)) gX9_rows_X9_at rfl rfl rfl q_X9_at rfl ⟨by decide, by decide⟩ ⟨by decide, by decide⟩ (fun _ h => absurd h List.not_mem_nil) (Nat.le_of_ble_eq_true rfl) rfl dX9_rows_33 (fun r n1 E2 hp _ => ?_)
    obtain ⟨rfl, rfl, rfl⟩ := hp
    show jv_V l D vwCl kp G 0 0 n E1 36 [(0, .ref 58), (1, .int (nI P)), (2, .int (nI b)), (3, .int (nI T))] [.int (nI (73 * 0 + P * b)), .ref 82]
    refine jv_lald C (by decide) k82 (jb_in (by omega) (by decide)) dX9_rows_36 ?_
    have hp2 := jb_p2 P hP2
    refine jv_tl (y := jr_rows (nI P) (nI b) (nI T)) (by rw [jr_rows_in hP hP2 hb hT, jw_eq hP hP2, jb_cl (by omega), kI 0 (by omega) (by omega) _ (Nat.le_refl _), (jw_start P hP2).1]) ?_
    exact jv_lret C B rfl ⟨by decide, by decide⟩ dX9_rows_37
  · show jv_V l D vwCl kp G 0 0 n (va_up E 58 cx58) 11 [(0, .ref 58), (1, .int p1), (2, .int p2), (3, .int p3)] [.int 0]
    refine jv_if_ne (tgt := 18) C dX9_rows_11 (by decide) (fun h => absurd (by decide) h) (fun _ => ?_)
    refine jv_ldc2 (v := (-2)) C dX9_rows_14 (by decide +kernel) ?_
    exact jv_lret C B (by unfold jr_rows; rw [if_neg hc]) ⟨by decide, by decide⟩ dX9_rows_17
