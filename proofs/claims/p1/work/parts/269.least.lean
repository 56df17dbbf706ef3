/-! least: the least row, throw by throw -/
def jl_first (F : Nat → Nat) : Nat → Nat → Nat
  | 0, h => h
  | f + 1, h => if F h = 0 then jl_first F f (h + 1) else h
theorem jl_first_ok {F : Nat → Nat} {T : Nat} : ∀ (f h : Nat), h + f = T → (∃ j, h ≤ j ∧ j ≤ T ∧ F j ≠ 0) → jl_first F f h ≤ T ∧ F (jl_first F f h) ≠ 0 ∧ ∀ j, h ≤ j → j < jl_first F f h → F j = 0
  | 0, h, e, ⟨j, h1, h2, h3⟩ => by
    have ej : j = h := by omega
    subst ej
    rw [jl_first]
    exact ⟨by omega, h3, fun i a b => absurd a (by omega)⟩
  | f + 1, h, e, ⟨j, h1, h2, h3⟩ => by
    rw [jl_first]
    by_cases q : F h = 0
    · rw [if_pos q]
      have hj : h ≠ j := fun z => h3 (z ▸ q)
      obtain ⟨a, b, c⟩ := jl_first_ok f (h + 1) (by omega) ⟨j, by omega, h2, h3⟩
      refine ⟨a, b, fun i i1 i2 => ?_⟩
      by_cases z : i = h
      · rw [z]; exact q
      · exact c i (by omega) i2
    · rw [if_neg q]
      exact ⟨by omega, q, fun i a b => absurd a (by omega)⟩
theorem jl_pos {f : Nat → Nat} : ∀ {n : Nat}, 0 < jw_sum f n → ∃ j, j < n ∧ f j ≠ 0
  | 0, h => by rw [jw_sum] at h; omega
  | n + 1, h => by
    by_cases q : f n = 0
    · rw [jw_sum, q] at h
      obtain ⟨j, a, b⟩ := jl_pos (n := n) (by omega)
      exact ⟨j, by omega, b⟩
    · exact ⟨n, by omega, q⟩
def jl_inv (P T i s t : Nat) : Prop := s < 2 ^ P ∧ jw_U P s + i = P ∧ t < 10 ∧ 0 < jw_W P T (jw_U P s) s (t : Int)
def jl_x (P s t x : Nat) : Prop := (x : Int) = (P : Int) * (t : Int) + (jw_D P s : Int) - (jw_I P (jw_U P s) : Int)
theorem jl_term {P T i s t h : Nat} (hu : jw_U P s + i = P) : jb_term P T s t h = if s.testBit ((i + h) % P) then 0 else jw_W P T (jw_U P s - 1) (s ||| 2 ^ ((i + h) % P)) ((t : Int) - (((i + h) / P : Nat) : Int)) := by
  unfold jb_term
  rw [show P - jw_U P s = i by omega]
theorem jl_termM {P T i s x h : Nat} (hu : jw_U P s + i = P) : jm_term P T s x h = if s.testBit ((i + h) % P) then 0 else jw_M P T (jw_U P s - 1) (s ||| 2 ^ ((i + h) % P)) ((x : Int) - (h : Int)) := by
  unfold jm_term
  rw [show P - jw_U P s = i by omega]
theorem jl_bd {P T s t h : Nat} (hP2 : P < 9) (hT : T < 10) (hu : jw_U P s ≤ P) : jb_term P T s t h < 2 ^ 31 := by
  unfold jb_term
  by_cases q : s.testBit ((P - jw_U P s + h) % P) = true
  · rw [if_pos q]; omega
  · rw [if_neg q]
    have h1 := jw_bd (p := P) (top := T) (by omega) (jw_U P s - 1) (s ||| 2 ^ ((P - jw_U P s + h) % P)) ((t : Int) - (((P - jw_U P s + h) / P : Nat) : Int))
    have h2 : 10 ^ (jw_U P s - 1) ≤ 10 ^ 8 := Nat.pow_le_pow_right (by omega) (by omega)
    omega
theorem jl_eq {P T i s t x h : Nat} (hP : 1 ≤ P) (hP2 : P < 9) (hi : i < P) (hs : s < 2 ^ P) (hu : jw_U P s + i = P) (hx : jl_x P s t x) : jm_term P T s x h = jb_term P T s t h := by
  have hp2 := jb_p2 P hP2
  rw [jl_term hu, jl_termM hu]
  by_cases q : s.testBit ((i + h) % P) = true
  · rw [if_pos q, if_pos q]
  · rw [if_neg q, if_neg q]
    have hm : (i + h) % P < P := Nat.mod_lt _ hP
    obtain ⟨f1, f2, f3⟩ := jw_fin P hP2 s (by omega) _ hm (by simpa using q)
    rw [jw_WM hP hP2 (jw_U P s - 1) _ _ f1 (by omega) (by omega)]
    have hd : (P : Int) * (((i + h) / P : Nat) : Int) + (((i + h) % P : Nat) : Int) = ((i + h : Nat) : Int) := by exact_mod_cast Nat.div_add_mod (i + h) P
    congr 1
    rw [Int.mul_sub]
    have hI : jw_I P (jw_U P s) = jw_I P (jw_U P s - 1) + i := by
      obtain ⟨r, hr⟩ : ∃ r, jw_U P s = r + 1 := ⟨jw_U P s - 1, by omega⟩
      rw [hr]
      show jw_I P r + (P - (r + 1)) = jw_I P r + i
      omega
    unfold jl_x at hx
    omega
/-- one throw of the least row -/
theorem jl_step {P T i s t : Nat} (hP : 1 ≤ P) (hP2 : P < 9) (hi : i < P) (h : jl_inv P T i s t) : ∃ r, jl_first (jb_term P T s t) T 0 = r ∧ r ≤ T ∧ s.testBit ((i + r) % P) = false ∧ (i + r) / P ≤ t ∧ jb_term P T s t r ≠ 0 ∧ (∀ j, j < r → jb_term P T s t j = 0) ∧ jl_inv P T (i + 1) (s ||| 2 ^ ((i + r) % P)) (t - (i + r) / P) := by
  obtain ⟨h1, h2, h3, h4⟩ := h
  have hp2 := jb_p2 P hP2
  rw [jb_W (by omega)] at h4
  obtain ⟨j, j1, j2⟩ := jl_pos h4
  obtain ⟨a, b, c⟩ := jl_first_ok (F := jb_term P T s t) (T := T) T 0 (by omega) ⟨j, by omega, by omega, j2⟩
  obtain ⟨r, er⟩ : ∃ r, jl_first (jb_term P T s t) T 0 = r := ⟨_, rfl⟩
  rw [er] at a b c
  have hb := b
  rw [jl_term h2] at hb
  have hm : (i + r) % P < P := Nat.mod_lt _ hP
  by_cases q : s.testBit ((i + r) % P) = true
  · rw [if_pos q] at hb; exact absurd rfl hb
  · rw [if_neg q] at hb
    have q0 : s.testBit ((i + r) % P) = false := by simpa using q
    obtain ⟨f1, f2, f3⟩ := jw_fin P hP2 s (by omega) _ hm q0
    obtain ⟨o1, o2, o3⟩ := jb_or P hP2 s h1 _ hm
    have ht : (i + r) / P ≤ t := by
      rcases Nat.lt_or_ge t ((i + r) / P) with z | z
      · exact absurd (jw_neg _ _ _ _ _ (by omega)) hb
      · exact z
    refine ⟨r, er, a, q0, ht, b, fun j hj => c j (Nat.zero_le _) hj, o1, by omega, Nat.lt_of_le_of_lt (Nat.sub_le _ _) h3, ?_⟩
    rw [Int.ofNat_sub ht, show jw_U P (s ||| 2 ^ ((i + r) % P)) = jw_U P s - 1 by omega]
    exact Nat.pos_of_ne_zero hb
theorem jl_xs {P T i s t x r : Nat} (hP : 1 ≤ P) (hP2 : P < 9) (hi : i < P) (hs : s < 2 ^ P) (hu : jw_U P s + i = P) (hq : s.testBit ((i + r) % P) = false) (ht : (i + r) / P ≤ t) (hb : jb_term P T s t r ≠ 0) (hx : jl_x P s t x) : r ≤ x ∧ jl_x P (s ||| 2 ^ ((i + r) % P)) (t - (i + r) / P) (x - r) := by
  have hp2 := jb_p2 P hP2
  have hm : (i + r) % P < P := Nat.mod_lt _ hP
  obtain ⟨f1, f2, f3⟩ := jw_fin P hP2 s (by omega) _ hm hq
  have hr : r ≤ x := by
    rcases Nat.lt_or_ge x r with z | z
    · rw [← jl_eq hP hP2 hi hs hu hx] at hb
      exact absurd (jm_over z) hb
    · exact z
  refine ⟨hr, ?_⟩
  have hd : (P : Int) * (((i + r) / P : Nat) : Int) + (((i + r) % P : Nat) : Int) = ((i + r : Nat) : Int) := by exact_mod_cast Nat.div_add_mod (i + r) P
  have hI : jw_I P (jw_U P s) = jw_I P (jw_U P s - 1) + i := by
    obtain ⟨r, hr⟩ : ∃ r, jw_U P s = r + 1 := ⟨jw_U P s - 1, by omega⟩
    rw [hr]
    show jw_I P r + (P - (r + 1)) = jw_I P r + i
    omega
  unfold jl_x at hx ⊢
  rw [show jw_U P (s ||| 2 ^ ((i + r) % P)) = jw_U P s - 1 by omega, Int.ofNat_sub ht, Int.ofNat_sub hr, Int.mul_sub]
  omega
def jl_run (P T b : Nat) : Nat → Nat × Nat × Nat
  | 0 => (0, b, 0)
  | i + 1 => ((jl_run P T b i).1 ||| 2 ^ ((i + jl_first (jb_term P T (jl_run P T b i).1 (jl_run P T b i).2.1) T 0) % P), (jl_run P T b i).2.1 - (i + jl_first (jb_term P T (jl_run P T b i).1 (jl_run P T b i).2.1) T 0) / P, jl_first (jb_term P T (jl_run P T b i).1 (jl_run P T b i).2.1) T 0)
def jr_least (p b t n : Int32) : Int32 := if (1 ≤ p.toInt ∧ p.toInt ≤ 8 ∧ 0 ≤ b.toInt ∧ b.toInt ≤ 9 ∧ 0 ≤ t.toInt ∧ t.toInt ≤ 9) ∧ 0 ≤ n.toInt ∧ n.toInt < p.toInt then (if jw_W p.toInt.toNat t.toInt.toNat p.toInt.toNat 0 b.toInt = 0 then -1 else nI (jl_run p.toInt.toNat t.toInt.toNat b.toInt.toNat (n.toInt.toNat + 1)).2.2) else -2
theorem jr_least_in {P B T m : Nat} (hP2 : P < 9) (hP : 1 ≤ P) (hB : B < 10) (hT : T < 10) (hm : m < P) : jr_least (nI P) (nI B) (nI T) (nI m) = if jw_W P T P 0 (B : Int) = 0 then -1 else nI (jl_run P T B (m + 1)).2.2 := by
  unfold jr_least
  rw [nI_toInt (by omega), nI_toInt (by omega), nI_toInt (by omega), nI_toInt (by omega), if_pos (by omega)]
  rfl
theorem jl_neg : ∀ t, t < 10 → ∀ q, q < 20 → t < q → (nI t - nI q).toInt < 0 := by decide +kernel
set_option maxRecDepth 100000 in
set_option maxHeartbeats 8000000 in
theorem c_fill_same (l : Launch) (D : va_G) (kp : Nat → ClassId) {n : Nat} {E : Nat → jv_E} {P T : Int32} (h29 : E 29 = .inr (7, [.int P, .int T, .ref 30])) :
    jv_M l D vwCl kp yX7_fill wsX7_fill rm3 [] [.ref 29, .int P, .int T] n E 0 0 (fun r n1 E1 => none = r ∧ n = n1 ∧ E = E1) := by
  refine jv_of (by decide) rfl (Nat.le_of_ble_eq_true rfl) (fun G C B hI hnl => ?_)
  show jv_V l D vwCl kp G 0 0 n E 0 [(0, .ref 29), (1, .int P), (2, .int T)] []
  refine jv_iload_n C dX7_fill_0 1 rfl ?_
  refine jv_aload_n C dX7_fill_1 0 rfl ?_
  refine jv_getf (fk := 0) C (by decide) h29 rfl in_X7_fill_7 (by decide) (by decide +kernel) rfl rfl dX7_fill_2 ?_
  refine jv_icmp_ne (tgt := 17) C dX7_fill_5 (by decide) (fun h => absurd rfl h) (fun _ => ?_)
  refine jv_iload_n C dX7_fill_8 2 rfl ?_
  refine jv_aload_n C dX7_fill_9 0 rfl ?_
  refine jv_getf (fk := 1) C (by decide) h29 rfl in_X7_fill_7 (by decide) (by decide +kernel) rfl rfl dX7_fill_10 ?_
  refine jv_icmp_ne (tgt := 17) C dX7_fill_13 (by decide) (fun h => absurd rfl h) (fun _ => ?_)
  exact jv_vret C B ⟨rfl, rfl, rfl⟩ ⟨by decide, by decide⟩ dX7_fill_16
set_option maxRecDepth 100000 in
set_option maxHeartbeats 8000000 in
theorem lp_lh {l : Launch} {D : va_G} {kp : Nat → ClassId} {G : jv_G} {n : Nat} {E E0 : Nat → jv_E} {P T i s t : Nat} {g : Nat → Int32} {post : Option Value → Nat → (Nat → jv_E) → Prop} (C : jv_C D vwCl kp G cX7_leastHeight yX7_leastHeight.cls wsX7_leastHeight rm2 []) (hnl : jv_nL G = 6) (B : jv_R D vwCl kp G E0 (some .int) 0 0 post)
    (h29 : E 29 = .inr (7, [.int (nI P), .int (nI T), .ref 30])) (h30 : E 30 = .inl (0, 2560, .inl g)) (hg : jb_I P T 0 g) (hP : 1 ≤ P) (hP2 : P < 9) (hT : T < 10) (hi : i < P) (hs : s < 2 ^ P) (hu : jw_U P s + i = P) (ht : t < 10) {R : Nat} (hp : post (some (.int (nI R))) n E) :
    ∀ (f h : Nat), h + f = T → jl_first (jb_term P T s t) f h = R → jv_V l D vwCl kp G 0 0 n E 3 [(4, .int (nI h)), (0, .ref 29), (1, .int (nI s)), (2, .int (nI t)), (3, .int (nI i))] [] := by
  have hp2 := jb_p2 P hP2
  intro f
  induction f with
  | zero =>
    intro h h1 h2
    have e : h = T := by omega
    subst e
    rw [jl_first] at h2
    subst h2
    refine jv_iload C dX7_leastHeight_3 0 rfl ?_
    refine jv_aload_n C dX7_leastHeight_5 1 rfl ?_
    refine jv_getf (fk := 1) C (by decide) h29 rfl in_X7_leastHeight_7 (by decide) (by decide +kernel) rfl rfl dX7_leastHeight_6 ?_
    refine jv_icmp_ge (tgt := 58) C dX7_leastHeight_9 (by decide) (fun _ => ?_) (fun q => absurd (nI_le (Nat.le_refl _) (by omega)) q)
    refine jv_aload_n C dX7_leastHeight_58 1 rfl ?_
    refine jv_getf (fk := 1) C (by decide) h29 rfl in_X7_leastHeight_7 (by decide) (by decide +kernel) rfl rfl dX7_leastHeight_59 ?_
    exact jv_iret C B hp ⟨by decide, by decide⟩ dX7_leastHeight_62
  | succ f ih =>
    intro h h1 h2
    rw [jl_first] at h2
    have hm : (i + h) % P < P := Nat.mod_lt _ hP
    obtain ⟨o1, o2, o3⟩ := jb_or P hP2 s hs _ hm
    have hq20 : (i + h) / P < 20 := Nat.lt_of_le_of_lt (Nat.div_le_self _ _) (by omega)
    have et := jl_term (T := T) (t := t) (h := h) hu
    have hbd := jl_bd (T := T) (s := s) (t := t) (h := h) hP2 hT (by omega)
    refine jv_iload C dX7_leastHeight_3 0 rfl ?_
    refine jv_aload_n C dX7_leastHeight_5 1 rfl ?_
    refine jv_getf (fk := 1) C (by decide) h29 rfl in_X7_leastHeight_7 (by decide) (by decide +kernel) rfl rfl dX7_leastHeight_6 ?_
    refine jv_icmp_ge (tgt := 58) C dX7_leastHeight_9 (by decide) (fun q => absurd q (nI_ge (by omega) (by omega))) (fun _ => ?_)
    refine jv_iload_n C dX7_leastHeight_12 2 rfl ?_
    refine jv_aload_n C dX7_leastHeight_13 1 rfl ?_
    refine jv_iload_n C dX7_leastHeight_14 4 rfl ?_
    refine jv_iload C dX7_leastHeight_15 0 rfl ?_
    refine jv_iadd C dX7_leastHeight_17 ?_
    refine jv_ti (nI_add i h) ?_
    refine jv_callV (na := 1) (As := [.int (nI (i + h))]) (st := [.int (nI s)]) C (c_bitOf l D kp h29 hP hP2 (d := i + h) (by omega)) gX7_leastHeight_X7_bitOf rfl (by decide) h29 rfl rfl rfl q_X7_bitOf rfl ⟨by decide, by decide⟩ ⟨by decide, by decide⟩ (fun _ h => absurd h List.not_mem_nil) (Nat.le_of_ble_eq_true rfl) rfl dX7_leastHeight_18 (fun r n1 E1 hp1 _ => ?_)
    obtain ⟨rfl, rfl, rfl⟩ := hp1
    show jv_V l D vwCl kp G 0 0 n E 21 [(4, .int (nI h)), (0, .ref 29), (1, .int (nI s)), (2, .int (nI t)), (3, .int (nI i))] [.int (nI (2 ^ ((i + h) % P))), .int (nI s)]
    obtain ⟨m, em⟩ : ∃ m, (i + h) % P = m := ⟨_, rfl⟩
    rw [em] at hm o1 o2 o3 et ⊢
    refine jv_ior C dX7_leastHeight_21 ?_
    refine jv_ti (jb_nor s (2 ^ m)) ?_
    refine jv_istore (lv2 := [(5, .int (nI (s ||| 2 ^ m))), (4, .int (nI h)), (0, .ref 29), (1, .int (nI s)), (2, .int (nI t)), (3, .int (nI i))]) C dX7_leastHeight_22 hnl (by decide) rfl ?_
    refine jv_iload C dX7_leastHeight_24 0 rfl ?_
    refine jv_iload_n C dX7_leastHeight_26 3 rfl ?_
    have go : jb_term P T s t h = 0 → jv_V l D vwCl kp G 0 0 n E 52 [(5, .int (nI (s ||| 2 ^ m))), (4, .int (nI h)), (0, .ref 29), (1, .int (nI s)), (2, .int (nI t)), (3, .int (nI i))] [] := fun z => by
      rw [if_pos z] at h2
      refine jv_iinc (v := nI (h + 1)) (lv2 := [(4, .int (nI (h + 1))), (5, .int (nI (s ||| 2 ^ m))), (0, .ref 29), (1, .int (nI s)), (2, .int (nI t)), (3, .int (nI i))]) C dX7_leastHeight_52 hnl 1 rfl (nI_1 h) (by decide) rfl ?_
      refine jv_goto (tgt := 3) C dX7_leastHeight_55 (by decide) ?_
      refine jv_lpk [0, 2, 3, 4, 5] rfl ?_
      exact ih (h + 1) (by omega) h2
    refine jv_icmp_eq (tgt := 52) C dX7_leastHeight_27 (by decide) (fun q => ?_) (fun q => ?_)
    · refine go ?_
      have q2 := (nI_eq (by omega) (by omega)).mp q
      cases tb : s.testBit m
      · have := o3 tb; omega
      · rw [et, if_pos tb]
    have tb : s.testBit m = false := by
      cases tb : s.testBit m
      · rfl
      · exact absurd (by rw [o2 tb]) q
    obtain ⟨f1, f2, f3⟩ := jw_fin P hP2 s (by omega) _ hm tb
    rw [if_neg (by rw [tb]; decide)] at et
    refine jv_aload_n C dX7_leastHeight_30 2 rfl ?_
    refine jv_iload C dX7_leastHeight_31 0 rfl ?_
    refine jv_iload_n C dX7_leastHeight_33 4 rfl ?_
    refine jv_aload_n C dX7_leastHeight_34 2 rfl ?_
    refine jv_iload_n C dX7_leastHeight_35 5 rfl ?_
    refine jv_iload C dX7_leastHeight_36 1 rfl ?_
    refine jv_iadd C dX7_leastHeight_38 ?_
    refine jv_ti (nI_add i h) ?_
    refine jv_callV (na := 1) (As := [.int (nI (i + h))]) (st := [.int (nI t), .int (nI (s ||| 2 ^ m)), .ref 29]) C (c_turnsOf l D kp h29 hP hP2 (d := i + h) (by omega)) gX7_leastHeight_X7_turnsOf rfl (by decide) h29 rfl rfl rfl q_X7_turnsOf rfl ⟨by decide, by decide⟩ ⟨by decide, by decide⟩ (fun _ h => absurd h List.not_mem_nil) (Nat.le_of_ble_eq_true rfl) rfl dX7_leastHeight_39 (fun r n1 E1 hp1 _ => ?_)
    obtain ⟨rfl, rfl, rfl⟩ := hp1
    show jv_V l D vwCl kp G 0 0 n E 42 [(5, .int (nI (s ||| 2 ^ m))), (4, .int (nI h)), (0, .ref 29), (1, .int (nI s)), (2, .int (nI t)), (3, .int (nI i))] [.int (nI ((i + h) / P)), .int (nI t), .int (nI (s ||| 2 ^ m)), .ref 29]
    refine jv_isub C dX7_leastHeight_42 ?_
    rcases Nat.lt_or_ge t ((i + h) / P) with hq | hq
    · refine jv_callV (na := 2) (As := [.int (nI (s ||| 2 ^ m)), .int (nI t - nI ((i + h) / P))]) (st := []) C (c_waysOn_neg l D kp (nI (s ||| 2 ^ m)) (nI t - nI ((i + h) / P)) (jl_neg t ht _ hq20 hq)) gX7_leastHeight_X7_waysOn rfl (by decide) h29 rfl rfl rfl q_X7_waysOn rfl ⟨by decide, by decide⟩ ⟨by decide, by decide⟩ (fun _ h => absurd h List.not_mem_nil) (Nat.le_of_ble_eq_true rfl) rfl dX7_leastHeight_43 (fun r n1 E1 hp1 _ => ?_)
      obtain ⟨rfl, rfl, rfl⟩ := hp1
      show jv_V l D vwCl kp G 0 0 n E 46 [(5, .int (nI (s ||| 2 ^ m))), (4, .int (nI h)), (0, .ref 29), (1, .int (nI s)), (2, .int (nI t)), (3, .int (nI i))] [.int 0]
      refine jv_if_le (tgt := 52) C dX7_leastHeight_46 (by decide) (fun _ => go ?_) (fun q => absurd (by decide) q)
      rw [et]
      exact jw_neg _ _ _ _ _ (by omega)
    · refine jv_ti (jm_sub hq) ?_
      refine jv_callV (na := 2) (As := [.int (nI (s ||| 2 ^ m)), .int (nI (t - (i + h) / P))]) (st := []) C (c_waysOn l D kp h29 h30 (s := s ||| 2 ^ m) (t := t - (i + h) / P) (by omega) (Nat.lt_of_le_of_lt (Nat.sub_le _ _) ht)) gX7_leastHeight_X7_waysOn rfl (by decide) h29 rfl rfl rfl q_X7_waysOn rfl ⟨by decide, by decide⟩ ⟨by decide, by decide⟩ (fun _ h => absurd h List.not_mem_nil) (Nat.le_of_ble_eq_true rfl) rfl dX7_leastHeight_43 (fun r n1 E1 hp1 _ => ?_)
      obtain ⟨rfl, rfl, rfl⟩ := hp1
      show jv_V l D vwCl kp G 0 0 n E 46 [(5, .int (nI (s ||| 2 ^ m))), (4, .int (nI h)), (0, .ref 29), (1, .int (nI s)), (2, .int (nI t)), (3, .int (nI i))] [.int (g ((s ||| 2 ^ m) * 10 + (t - (i + h) / P)))]
      refine jv_ti (y := nI (jb_term P T s t h)) (by
        rw [hg.1 _ (by omega) o1 _ (Nat.lt_of_le_of_lt (Nat.sub_le _ _) ht), et, show jw_U P (s ||| 2 ^ m) = jw_U P s - 1 by omega, Int.ofNat_sub hq]) ?_
      by_cases z : jb_term P T s t h = 0
      · refine jv_if_le (tgt := 52) C dX7_leastHeight_46 (by decide) (fun _ => go z) (fun q => absurd (by rw [z]; decide) q)
      · refine jv_if_le (tgt := 52) C dX7_leastHeight_46 (by decide) (fun q => absurd q (nI_nle (by omega) hbd)) (fun _ => ?_)
        rw [if_neg z] at h2
        subst h2
        refine jv_iload C dX7_leastHeight_49 1 rfl ?_
        exact jv_iret C B hp ⟨by decide, by decide⟩ dX7_leastHeight_51
set_option maxRecDepth 100000 in
set_option maxHeartbeats 8000000 in
theorem c_leastHeight (l : Launch) (D : va_G) (kp : Nat → ClassId) {n : Nat} {E : Nat → jv_E} {P T i s t : Nat} {g : Nat → Int32} (h29 : E 29 = .inr (7, [.int (nI P), .int (nI T), .ref 30])) (h30 : E 30 = .inl (0, 2560, .inl g)) (hg : jb_I P T 0 g) (hP : 1 ≤ P) (hP2 : P < 9) (hT : T < 10) (hi : i < P) (hs : s < 2 ^ P) (hu : jw_U P s + i = P) (ht : t < 10) :
    jv_M l D vwCl kp yX7_leastHeight wsX7_leastHeight rm2 [] [.ref 29, .int (nI s), .int (nI t), .int (nI i)] n E 0 0 (fun r n1 E1 => some (.int (nI (jl_first (jb_term P T s t) T 0))) = r ∧ n = n1 ∧ E = E1) := by
  refine jv_of (by decide) rfl (Nat.le_of_ble_eq_true rfl) (fun G C B hI hnl => ?_)
  show jv_V l D vwCl kp G 0 0 n E 0 [(0, .ref 29), (1, .int (nI s)), (2, .int (nI t)), (3, .int (nI i))] []
  refine jv_iconst (v := nI 0) C dX7_leastHeight_0 (by decide) ?_
  refine jv_istore (lv2 := [(4, .int (nI 0)), (0, .ref 29), (1, .int (nI s)), (2, .int (nI t)), (3, .int (nI i))]) C dX7_leastHeight_1 hnl (by decide) rfl ?_
  exact lp_lh C hnl B h29 h30 hg hP hP2 hT hi hs hu ht ⟨rfl, rfl, rfl⟩ T 0 (by omega) rfl
set_option maxRecDepth 100000 in
set_option maxHeartbeats 8000000 in
theorem lp_hl {l : Launch} {D : va_G} {kp : Nat → ClassId} {G : jv_G} {n : Nat} {E E0 : Nat → jv_E} {P T b m : Nat} {g : Nat → Int32} {post : Option Value → Nat → (Nat → jv_E) → Prop} (C : jv_C D vwCl kp G cX7_heightOfLeast yX7_heightOfLeast.cls wsX7_heightOfLeast rm4 []) (hnl : jv_nL G = 9) (B : jv_R D vwCl kp G E0 (some .int) 0 0 post)
    (h29 : E 29 = .inr (7, [.int (nI P), .int (nI T), .ref 30])) (h30 : E 30 = .inl (0, 2560, .inl g)) (hg : jb_I P T 0 g) (hP : 1 ≤ P) (hP2 : P < 9) (hT : T < 10) (hm : m < P) (hp : post (some (.int (nI (jl_run P T b (m + 1)).2.2))) n E) :
    ∀ (f i s t h : Nat), i + f = m + 1 → jl_run P T b i = (s, t, h) → jl_inv P T i s t → jv_V l D vwCl kp G 0 0 n E 18 [(8, .int (nI i)), (7, .int (nI h)), (6, .int (nI t)), (5, .int (nI s)), (0, .ref 29), (1, .int (nI P)), (2, .int (nI b)), (3, .int (nI T)), (4, .int (nI m))] [] := by
  have hp2 := jb_p2 P hP2
  intro f
  induction f with
  | zero =>
    intro i s t h h1 e hv
    have ei : i = m + 1 := by omega
    subst ei
    rw [e] at hp
    refine jv_iload C dX7_heightOfLeast_18 0 rfl ?_
    refine jv_iload C dX7_heightOfLeast_20 8 rfl ?_
    refine jv_icmp_gt (tgt := 71) C dX7_heightOfLeast_22 (by decide) (fun _ => ?_) (fun q => absurd (nI_lt (by omega) (by omega)) q)
    refine jv_iload C dX7_heightOfLeast_71 1 rfl ?_
    exact jv_iret C B hp ⟨by decide, by decide⟩ dX7_heightOfLeast_73
  | succ f ih =>
    intro i s t h h1 e hv
    obtain ⟨r, er, r1, r2, r3, r4, r5, r6⟩ := jl_step hP hP2 (by omega) hv
    have e2 : jl_run P T b (i + 1) = (s ||| 2 ^ ((i + r) % P), t - (i + r) / P, r) := by simp only [jl_run, e, er]
    obtain ⟨v1, v2, v3, v4⟩ := hv
    refine jv_iload C dX7_heightOfLeast_18 0 rfl ?_
    refine jv_iload C dX7_heightOfLeast_20 8 rfl ?_
    refine jv_icmp_gt (tgt := 71) C dX7_heightOfLeast_22 (by decide) (fun q => absurd q (nI_nlt (by omega) (by omega))) (fun _ => ?_)
    refine jv_aload_n C dX7_heightOfLeast_25 4 rfl ?_
    refine jv_iload C dX7_heightOfLeast_26 3 rfl ?_
    refine jv_iload C dX7_heightOfLeast_28 2 rfl ?_
    refine jv_iload C dX7_heightOfLeast_30 0 rfl ?_
    refine jv_callV (na := 3) (As := [.int (nI s), .int (nI t), .int (nI i)]) (st := []) C (c_leastHeight l D kp h29 h30 hg hP hP2 hT (i := i) (by omega) v1 v2 v3) gX7_heightOfLeast_X7_leastHeight rfl (by decide) h29 rfl rfl rfl q_X7_leastHeight rfl ⟨by decide, by decide⟩ ⟨by decide, by decide⟩ (fun _ h => absurd h List.not_mem_nil) (Nat.le_of_ble_eq_true rfl) rfl dX7_heightOfLeast_32 (fun q n1 E1 hp1 _ => ?_)
    rw [er] at hp1
    obtain ⟨rfl, rfl, rfl⟩ := hp1
    show jv_V l D vwCl kp G 0 0 n E 35 [(8, .int (nI i)), (7, .int (nI h)), (6, .int (nI t)), (5, .int (nI s)), (0, .ref 29), (1, .int (nI P)), (2, .int (nI b)), (3, .int (nI T)), (4, .int (nI m))] [.int (nI r)]
    refine jv_istore (lv2 := [(7, .int (nI r)), (8, .int (nI i)), (6, .int (nI t)), (5, .int (nI s)), (0, .ref 29), (1, .int (nI P)), (2, .int (nI b)), (3, .int (nI T)), (4, .int (nI m))]) C dX7_heightOfLeast_35 hnl (by decide) rfl ?_
    refine jv_iload C dX7_heightOfLeast_37 3 rfl ?_
    refine jv_aload_n C dX7_heightOfLeast_39 4 rfl ?_
    refine jv_iload C dX7_heightOfLeast_40 1 rfl ?_
    refine jv_iload C dX7_heightOfLeast_42 0 rfl ?_
    refine jv_iadd C dX7_heightOfLeast_44 ?_
    refine jv_ti (nI_add i r) ?_
    refine jv_callV (na := 1) (As := [.int (nI (i + r))]) (st := [.int (nI s)]) C (c_bitOf l D kp h29 hP hP2 (d := i + r) (by omega)) gX7_heightOfLeast_X7_bitOf rfl (by decide) h29 rfl rfl rfl q_X7_bitOf rfl ⟨by decide, by decide⟩ ⟨by decide, by decide⟩ (fun _ h => absurd h List.not_mem_nil) (Nat.le_of_ble_eq_true rfl) rfl dX7_heightOfLeast_45 (fun q n1 E1 hp1 _ => ?_)
    obtain ⟨rfl, rfl, rfl⟩ := hp1
    show jv_V l D vwCl kp G 0 0 n E 48 [(7, .int (nI r)), (8, .int (nI i)), (6, .int (nI t)), (5, .int (nI s)), (0, .ref 29), (1, .int (nI P)), (2, .int (nI b)), (3, .int (nI T)), (4, .int (nI m))] [.int (nI (2 ^ ((i + r) % P))), .int (nI s)]
    refine jv_ior C dX7_heightOfLeast_48 ?_
    refine jv_ti (jb_nor s (2 ^ ((i + r) % P))) ?_
    refine jv_istore (lv2 := [(5, .int (nI (s ||| 2 ^ ((i + r) % P)))), (7, .int (nI r)), (8, .int (nI i)), (6, .int (nI t)), (0, .ref 29), (1, .int (nI P)), (2, .int (nI b)), (3, .int (nI T)), (4, .int (nI m))]) C dX7_heightOfLeast_49 hnl (by decide) rfl ?_
    refine jv_iload C dX7_heightOfLeast_51 3 rfl ?_
    refine jv_aload_n C dX7_heightOfLeast_53 4 rfl ?_
    refine jv_iload C dX7_heightOfLeast_54 2 rfl ?_
    refine jv_iload C dX7_heightOfLeast_56 1 rfl ?_
    refine jv_iadd C dX7_heightOfLeast_58 ?_
    refine jv_ti (nI_add i r) ?_
    refine jv_callV (na := 1) (As := [.int (nI (i + r))]) (st := [.int (nI t)]) C (c_turnsOf l D kp h29 hP hP2 (d := i + r) (by omega)) gX7_heightOfLeast_X7_turnsOf rfl (by decide) h29 rfl rfl rfl q_X7_turnsOf rfl ⟨by decide, by decide⟩ ⟨by decide, by decide⟩ (fun _ h => absurd h List.not_mem_nil) (Nat.le_of_ble_eq_true rfl) rfl dX7_heightOfLeast_59 (fun q n1 E1 hp1 _ => ?_)
    obtain ⟨rfl, rfl, rfl⟩ := hp1
    show jv_V l D vwCl kp G 0 0 n E 62 [(5, .int (nI (s ||| 2 ^ ((i + r) % P)))), (7, .int (nI r)), (8, .int (nI i)), (6, .int (nI t)), (0, .ref 29), (1, .int (nI P)), (2, .int (nI b)), (3, .int (nI T)), (4, .int (nI m))] [.int (nI ((i + r) / P)), .int (nI t)]
    refine jv_isub C dX7_heightOfLeast_62 ?_
    refine jv_ti (jm_sub r3) ?_
    refine jv_istore (lv2 := [(6, .int (nI (t - (i + r) / P))), (5, .int (nI (s ||| 2 ^ ((i + r) % P)))), (7, .int (nI r)), (8, .int (nI i)), (0, .ref 29), (1, .int (nI P)), (2, .int (nI b)), (3, .int (nI T)), (4, .int (nI m))]) C dX7_heightOfLeast_63 hnl (by decide) rfl ?_
    refine jv_iinc (v := nI (i + 1)) (lv2 := [(8, .int (nI (i + 1))), (6, .int (nI (t - (i + r) / P))), (5, .int (nI (s ||| 2 ^ ((i + r) % P)))), (7, .int (nI r)), (0, .ref 29), (1, .int (nI P)), (2, .int (nI b)), (3, .int (nI T)), (4, .int (nI m))]) C dX7_heightOfLeast_65 hnl 3 rfl (nI_1 i) (by decide) rfl ?_
    refine jv_goto (tgt := 18) C dX7_heightOfLeast_68 (by decide) ?_
    refine jv_lpk [0, 3, 1, 2, 4, 5, 6, 7, 8] rfl ?_
    exact ih (i + 1) _ _ _ (by omega) e2 r6
theorem jl_0 {P T b : Nat} (hP2 : P < 9) (hb : b < 10) (hw : jw_W P T P 0 (b : Int) ≠ 0) : jl_inv P T 0 0 b := by
  have hp2 := jb_p2 P hP2
  obtain ⟨h1, h2⟩ := jw_start P hP2
  exact ⟨by omega, by omega, hb, by rw [h1]; exact Nat.pos_of_ne_zero hw⟩
set_option maxRecDepth 100000 in
set_option maxHeartbeats 8000000 in
theorem c_heightOfLeast (l : Launch) (D : va_G) (kp : Nat → ClassId) {n : Nat} {E : Nat → jv_E} {P T b m : Nat} {g : Nat → Int32} (h29 : E 29 = .inr (7, [.int (nI P), .int (nI T), .ref 30])) (h30 : E 30 = .inl (0, 2560, .inl g)) (hg : jb_I P T 0 g) (hP : 1 ≤ P) (hP2 : P < 9) (hT : T < 10) (hb : b < 10) (hm : m < P) (hw : jw_W P T P 0 (b : Int) ≠ 0) :
    jv_M l D vwCl kp yX7_heightOfLeast wsX7_heightOfLeast rm4 [] [.ref 29, .int (nI P), .int (nI b), .int (nI T), .int (nI m)] n E 0 0 (fun r n1 E1 => some (.int (nI (jl_run P T b (m + 1)).2.2)) = r ∧ n = n1 ∧ E = E1) := by
  refine jv_of (by decide) rfl (Nat.le_of_ble_eq_true rfl) (fun G C B hI hnl => ?_)
  show jv_V l D vwCl kp G 0 0 n E 0 [(0, .ref 29), (1, .int (nI P)), (2, .int (nI b)), (3, .int (nI T)), (4, .int (nI m))] []
  refine jv_aload_n C dX7_heightOfLeast_0 0 rfl ?_
  refine jv_iload_n C dX7_heightOfLeast_1 1 rfl ?_
  refine jv_iload_n C dX7_heightOfLeast_2 3 rfl ?_
  refine jv_callV (na := 2) (As := [.int (nI P), .int (nI T)]) (st := []) C (c_fill_same l D kp h29) gX7_heightOfLeast_X7_fill rfl (by decide) h29 rfl rfl rfl q_X7_fill rfl ⟨by decide, by decide⟩ ⟨by decide, by decide⟩ (fun _ h => absurd h List.not_mem_nil) (Nat.le_of_ble_eq_true rfl) rfl dX7_heightOfLeast_3 (fun r n1 E1 hp _ => ?_)
  obtain ⟨rfl, rfl, rfl⟩ := hp
  show jv_V l D vwCl kp G 0 0 n E 6 [(0, .ref 29), (1, .int (nI P)), (2, .int (nI b)), (3, .int (nI T)), (4, .int (nI m))] []
  refine jv_iconst (v := nI 0) C dX7_heightOfLeast_6 (by decide) ?_
  refine jv_istore (lv2 := [(5, .int (nI 0)), (0, .ref 29), (1, .int (nI P)), (2, .int (nI b)), (3, .int (nI T)), (4, .int (nI m))]) C dX7_heightOfLeast_7 hnl (by decide) rfl ?_
  refine jv_iload_n C dX7_heightOfLeast_9 3 rfl ?_
  refine jv_istore (lv2 := [(6, .int (nI b)), (5, .int (nI 0)), (0, .ref 29), (1, .int (nI P)), (2, .int (nI b)), (3, .int (nI T)), (4, .int (nI m))]) C dX7_heightOfLeast_10 hnl (by decide) rfl ?_
  refine jv_iconst (v := nI 0) C dX7_heightOfLeast_12 (by decide) ?_
  refine jv_istore (lv2 := [(7, .int (nI 0)), (6, .int (nI b)), (5, .int (nI 0)), (0, .ref 29), (1, .int (nI P)), (2, .int (nI b)), (3, .int (nI T)), (4, .int (nI m))]) C dX7_heightOfLeast_13 hnl (by decide) rfl ?_
  refine jv_iconst (v := nI 0) C dX7_heightOfLeast_15 (by decide) ?_
  refine jv_istore (lv2 := [(8, .int (nI 0)), (7, .int (nI 0)), (6, .int (nI b)), (5, .int (nI 0)), (0, .ref 29), (1, .int (nI P)), (2, .int (nI b)), (3, .int (nI T)), (4, .int (nI m))]) C dX7_heightOfLeast_16 hnl (by decide) rfl ?_
  exact lp_hl C hnl B h29 h30 hg hP hP2 hT hm ⟨rfl, rfl, rfl⟩ (m + 1) 0 0 b 0 (by omega) rfl (jl_0 hP2 hb hw)
set_option maxRecDepth 100000 in
set_option maxHeartbeats 8000000 in
theorem c_X8_least (l : Launch) (D : va_G) (kp : Nat → ClassId) {n : Nat} {E : Nat → jv_E} (h0 : E 0 = cx0) (h29 : E 29 = cx29) (h30 : E 30 = cx30) (p1 p2 p3 p4 : Int32) :
    jv_M l D vwCl kp yX8_least wsX8_least rm5 [] [.ref 0, .int p1, .int p2, .int p3, .int p4] n E 0 0 (fun r n1 E1 => some (.int (jr_least p1 p2 p3 p4)) = r ∧ ∀ j, 58 ≤ j → E1 j = E j) := by
  refine jv_of (by decide) rfl (Nat.le_of_ble_eq_true rfl) (fun G C B hI hnl => ?_)
  show jv_V l D vwCl kp G 0 0 n E 0 [(0, .ref 0), (1, .int p1), (2, .int p2), (3, .int p3), (4, .int p4)] []
  have z0 : (0 : Int32).toInt = 0 := by decide
  have no : jr_least p1 p2 p3 p4 = -2 → jv_V l D vwCl kp G 0 0 n E 20 [(0, .ref 0), (1, .int p1), (2, .int p2), (3, .int p3), (4, .int p4)] [] := fun q => by
    refine jv_bipush (v := -2) C dX8_least_20 (by decide) ?_
    exact jv_iret C B ⟨by rw [q], fun _ _ => rfl⟩ ⟨by decide, by decide⟩ dX8_least_22
  refine jv_iload_n C dX8_least_0 1 rfl ?_
  refine jv_iload_n C dX8_least_1 2 rfl ?_
  refine jv_iload_n C dX8_least_2 3 rfl ?_
  refine jv_callS (na := 3) (As := [.int p1, .int p2, .int p3]) (st := []) C (c_X8_isRowKind l D kp p1 p2 p3) gX8_least_X8_isRowKind rfl rfl rfl q_X8_isRowKind rfl ⟨by decide, by decide⟩ ⟨by decide, by decide⟩ (fun _ h => absurd h List.not_mem_nil) (Nat.le_of_ble_eq_true rfl) rfl dX8_least_3 (fun r n1 E1 hp _ => ?_)
  obtain ⟨⟨rfl, hc⟩ | ⟨rfl, hc⟩, rfl, rfl⟩ := hp
  · show jv_V l D vwCl kp G 0 0 n E 6 [(0, .ref 0), (1, .int p1), (2, .int p2), (3, .int p3), (4, .int p4)] [.int 1]
    refine jv_if_eq (tgt := 20) C dX8_least_6 (by decide) (fun h => absurd h (by decide)) (fun _ => ?_)
    refine jv_iload C dX8_least_9 4 rfl ?_
    refine jv_if_lt (tgt := 20) C dX8_least_11 (by decide) (fun h => no ?_) (fun h => ?_)
    · have a := jv_i_lt h
      unfold jr_least
      rw [if_neg (by omega)]
    have a4 := jv_i_nlt h
    refine jv_iload C dX8_least_14 4 rfl ?_
    refine jv_iload_n C dX8_least_16 1 rfl ?_
    refine jv_icmp_lt (tgt := 23) C dX8_least_17 (by decide) (fun h => ?_) (fun h => no (by
      have a := jv_i_nlt h
      unfold jr_least
      rw [if_neg (by omega)]))
    have a5 := jv_i_lt h
    obtain ⟨P, hP1, rfl, hP3⟩ := jb_of2 (x := p1) (m := 8) (by omega) (by omega)
    obtain ⟨b, hb1, rfl, hb3⟩ := jb_of2 (x := p2) (m := 9) (by omega) (by omega)
    obtain ⟨T, hT1, rfl, hT3⟩ := jb_of2 (x := p3) (m := 9) (by omega) (by omega)
    obtain ⟨m, hm1, rfl, hm3⟩ := jb_of2 (x := p4) (m := 8) (by omega) (by omega)
    have hP : 1 ≤ P := by omega
    have hP2 : P < 9 := by omega
    have hb : b < 10 := by omega
    have hT : T < 10 := by omega
    have hm : m < P := by omega
    have er := jr_least_in hP2 hP hb hT hm
    refine jv_aload_n C dX8_least_23 0 rfl ?_
    refine jv_getf (fk := 8) C (by decide) h0 rfl in_X8_least_8 (by decide) (by decide +kernel) rfl rfl dX8_least_24 ?_
    refine jv_iload_n C dX8_least_27 1 rfl ?_
    refine jv_iload_n C dX8_least_28 2 rfl ?_
    refine jv_iload_n C dX8_least_29 3 rfl ?_
    refine jv_callV (na := 3) (As := [.int (nI P), .int (nI b), .int (nI T)]) (st := []) C (c_waysOf l D kp h29 h30 hP hP2 hT hb (jb_ne0 hP (by omega))) gX8_least_X7_waysOf rfl (by decide) h29 rfl rfl rfl q_X7_waysOf rfl ⟨by decide, by decide⟩ ⟨by decide, by decide⟩ (fun _ h => absurd h List.not_mem_nil) (Nat.le_of_ble_eq_true rfl) rfl dX8_least_30 (fun r n1 E1 hp _ => ?_)
    obtain ⟨rfl, rfl, hf, e29, g, e30, hg⟩ := hp
    show jv_V l D vwCl kp G 0 0 n E1 33 [(0, .ref 0), (1, .int (nI P)), (2, .int (nI b)), (3, .int (nI T)), (4, .int (nI m))] [.int (nI (jw_W P T P 0 (b : Int)))]
    have hfr : ∀ j, 58 ≤ j → E1 j = E j := fun j h => hf j (by omega) (by omega)
    by_cases hw : jw_W P T P 0 (b : Int) = 0
    · refine jv_if_ne (tgt := 40) C dX8_least_33 (by decide) (fun q => absurd (by rw [hw]; exact nI_0) q) (fun _ => ?_)
      refine jv_iconst (v := -1) C dX8_least_36 (by decide) ?_
      refine jv_goto (tgt := 52) C dX8_least_37 (by decide) ?_
      exact jv_iret C B ⟨by rw [er, if_pos hw], hfr⟩ ⟨by decide, by decide⟩ dX8_least_52
    · refine jv_if_ne (tgt := 40) C dX8_least_33 (by decide) (fun _ => ?_) (fun q => absurd q (nI_ne0 (Nat.pos_of_ne_zero hw) (jb_lt hP2 hT)))
      refine jv_aload_n C dX8_least_40 0 rfl ?_
      refine jv_getf (fk := 8) C (by decide) ((hf 0 (by decide) (by decide)).trans h0) rfl in_X8_least_8 (by decide) (by decide +kernel) rfl rfl dX8_least_41 ?_
      refine jv_iload_n C dX8_least_44 1 rfl ?_
      refine jv_iload_n C dX8_least_45 2 rfl ?_
      refine jv_iload_n C dX8_least_46 3 rfl ?_
      refine jv_iload C dX8_least_47 4 rfl ?_
      refine jv_callV (na := 4) (As := [.int (nI P), .int (nI b), .int (nI T), .int (nI m)]) (st := []) C (c_heightOfLeast l D kp e29 e30 hg hP hP2 hT hb hm hw) gX8_least_X7_heightOfLeast rfl (by decide) e29 rfl rfl rfl q_X7_heightOfLeast rfl ⟨by decide, by decide⟩ ⟨by decide, by decide⟩ (fun _ h => absurd h List.not_mem_nil) (Nat.le_of_ble_eq_true rfl) rfl dX8_least_49 (fun r n1 E2 hp _ => ?_)
      obtain ⟨rfl, rfl, rfl⟩ := hp
      show jv_V l D vwCl kp G 0 0 n E1 52 [(0, .ref 0), (1, .int (nI P)), (2, .int (nI b)), (3, .int (nI T)), (4, .int (nI m))] [.int (nI (jl_run P T b (m + 1)).2.2)]
      exact jv_iret C B ⟨by rw [er, if_neg hw], hfr⟩ ⟨by decide, by decide⟩ dX8_least_52
  · show jv_V l D vwCl kp G 0 0 n E 6 [(0, .ref 0), (1, .int p1), (2, .int p2), (3, .int p3), (4, .int p4)] [.int 0]
    refine jv_if_eq (tgt := 20) C dX8_least_6 (by decide) (fun _ => no ?_) (fun h => absurd (by decide) h)
    unfold jr_least
    rw [if_neg (fun q => hc q.1)]
/-! the reference's least -/
theorem jm_shr : ∀ s, s < 256 → ∀ m, m < 8 → ((nI s >>> (nI m &&& 31)) &&& 1) = if s.testBit m then 1 else 0 := by decide +kernel
theorem jl_cmp0 {w : Nat} (h : w < 2 ^ 31) : lg_cmp (lN w) 0 = 0 ↔ w = 0 := by
  constructor
  · intro q
    have a := jv_lc_eq q
    rw [lN_toInt h] at a
    have z : (0 : Int64).toInt = 0 := by decide
    omega
  · intro q
    rw [q]
    exact jv_lc_self 0
set_option maxRecDepth 100000 in
set_option maxHeartbeats 8000000 in
theorem lp_l81 {l : Launch} {D : va_G} {kp : Nat → ClassId} {G : jv_G} {n : Nat} {E : Nat → jv_E} {P T b m i s t x r : Nat} {gl : Nat → Int64} (C : jv_C D vwCl kp G cX9_least yX9_least.cls wsX9_least rm3 []) (hnl : jv_nL G = 9)
    (h58 : E 58 = cx58) (h82 : E 82 = .inl (3, 18688, .inr (.inl gl))) (hg : jm_I P T (P * b) 0 gl) (hP : 1 ≤ P) (hP2 : P < 9) (hT : T < 10) (hb : b < 10) (hi : i < P) (hs : s < 2 ^ P) (hu : jw_U P s + i = P) (hx : jl_x P s t x) (hxX : x ≤ P * b) (hr : r ≤ x) (hrT : r ≤ T) (hr0 : jb_term P T s t r ≠ 0) (hrj : ∀ j, j < r → jb_term P T s t j = 0)
    (kk : jv_V l D vwCl kp G 0 0 n E 133 [(7, .int (nI r)), (8, .int (nI i)), (6, .int (nI x)), (5, .int (nI s)), (0, .ref 58), (1, .int (nI P)), (2, .int (nI b)), (3, .int (nI T)), (4, .int (nI m))] []) :
    ∀ (f h : Nat), h + f = r → jv_V l D vwCl kp G 0 0 n E 81 [(7, .int (nI h)), (8, .int (nI i)), (6, .int (nI x)), (5, .int (nI s)), (0, .ref 58), (1, .int (nI P)), (2, .int (nI b)), (3, .int (nI T)), (4, .int (nI m))] [] := by
  have hp2 := jb_p2 P hP2
  have hX := jm_72 hP2 hb
  intro f
  induction f with
  | zero =>
    intro h h1
    have e : h = r := by omega
    subst e
    have hm : (i + h) % P < P := Nat.mod_lt _ hP
    obtain ⟨o1, o2, o3⟩ := jb_or P hP2 s hs _ hm
    have et := jl_termM (T := T) (x := x) (h := h) hu
    rw [jl_eq (t := t) hP hP2 hi hs hu hx] at et
    have hbd := jl_bd (T := T) (s := s) (t := t) (h := h) hP2 hT (by omega)
    have hsh := jm_shr s (by omega) _ (Nat.lt_of_lt_of_le hm (by omega))
    refine jv_iload C dX9_least_81 3 rfl ?_
    refine jv_iload C dX9_least_83 1 rfl ?_
    refine jv_iload C dX9_least_85 0 rfl ?_
    refine jv_iadd C dX9_least_87 ?_
    refine jv_ti (nI_add i h) ?_
    refine jv_iload_n C dX9_least_88 5 rfl ?_
    refine jv_irem C dX9_least_89 (jb_ne0 hP (by omega)) ?_
    refine jv_ti (pk_rem (by omega) (by omega) (by omega)) ?_
    refine jv_ishr C dX9_least_90 ?_
    refine jv_iconst (v := 1) C dX9_least_91 (by decide) ?_
    refine jv_iand C dX9_least_92 ?_
    refine jv_ti hsh ?_
    refine jv_iconst (v := 1) C dX9_least_93 (by decide) ?_
    have tb : s.testBit ((i + h) % P) = false := by
      cases tb : s.testBit ((i + h) % P)
      · rfl
      · rw [if_pos tb] at et; exact absurd et hr0
    rw [if_neg (by rw [tb]; decide)] at et
    obtain ⟨f1, f2, f3⟩ := jw_fin P hP2 s (by omega) _ hm tb
    refine jv_icmp_eq (tgt := 127) C dX9_least_94 (by decide) (fun q => absurd q (by rw [tb]; decide)) (fun _ => ?_)
    refine jv_aload_n C dX9_least_97 4 rfl ?_
    refine jv_getf (fk := 40) C (by decide) h58 rfl in_X9_least_9 (by decide) (by decide +kernel) rfl rfl dX9_least_98 ?_
    refine jv_iload C dX9_least_101 3 rfl ?_
    refine jv_iconst (v := 1) C dX9_least_103 (by decide) ?_
    refine jv_iload C dX9_least_104 1 rfl ?_
    refine jv_iload C dX9_least_106 0 rfl ?_
    refine jv_iadd C dX9_least_108 ?_
    refine jv_ti (nI_add i h) ?_
    refine jv_iload_n C dX9_least_109 5 rfl ?_
    refine jv_irem C dX9_least_110 (jb_ne0 hP (by omega)) ?_
    refine jv_ti (pk_rem (by omega) (by omega) (by omega)) ?_
    refine jv_ishl C dX9_least_111 ?_
    refine jv_ti (jb_sh _ (by omega)) ?_
    refine jv_ior C dX9_least_112 ?_
    refine jv_ti (jb_nor s _) ?_
    refine jv_iload C dX9_least_113 2 rfl ?_
    refine jv_iload C dX9_least_115 0 rfl ?_
    refine jv_isub C dX9_least_117 ?_
    refine jv_ti (jm_sub (a := x) (b := h) hr) ?_
    refine jv_callS (na := 2) (As := [.int (nI (s ||| 2 ^ ((i + h) % P))), .int (nI (x - h))]) (st := [.ref 82]) C (c_X9_at l D kp (s ||| 2 ^ ((i + h) % P)) (x - h)) gX9_least_X9_at rfl rfl rfl q_X9_at rfl ⟨by decide, by decide⟩ ⟨by decide, by decide⟩ (fun _ h => absurd h List.not_mem_nil) (Nat.le_of_ble_eq_true rfl) rfl dX9_least_118 (fun q n1 E1 hp _ => ?_)
    obtain ⟨rfl, rfl, rfl⟩ := hp
    show jv_V l D vwCl kp G 0 0 n E 121 [(7, .int (nI h)), (8, .int (nI i)), (6, .int (nI x)), (5, .int (nI s)), (0, .ref 58), (1, .int (nI P)), (2, .int (nI b)), (3, .int (nI T)), (4, .int (nI m))] [.int (nI (73 * (s ||| 2 ^ ((i + h) % P)) + (x - h))), .ref 82]
    refine jv_lald C (by decide) h82 (jb_in (by omega) (by decide)) dX9_least_121 ?_
    refine jv_tl (y := lN (jb_term P T s t h)) (by
      rw [jb_cl (by omega), hg _ (by omega) o1 _ (by omega), et]
      congr 2
      · omega
      · exact Int.ofNat_sub hr) ?_
    refine jv_lconst (v := 0) C dX9_least_122 (by decide) ?_
    refine jv_lcmp C dX9_least_123 ?_
    exact jv_if_ne (tgt := 133) C dX9_least_124 (by decide) (fun _ => kk) (fun q => absurd ((jl_cmp0 hbd).mp q) hr0)
  | succ f ih =>
    intro h h1
    have hm : (i + h) % P < P := Nat.mod_lt _ hP
    obtain ⟨o1, o2, o3⟩ := jb_or P hP2 s hs _ hm
    have et := jl_termM (T := T) (x := x) (h := h) hu
    rw [jl_eq (t := t) hP hP2 hi hs hu hx] at et
    have hz := hrj h (by omega)
    have hbd := jl_bd (T := T) (s := s) (t := t) (h := h) hP2 hT (by omega)
    have hsh := jm_shr s (by omega) _ (Nat.lt_of_lt_of_le hm (by omega))
    have go : jv_V l D vwCl kp G 0 0 n E 127 [(7, .int (nI h)), (8, .int (nI i)), (6, .int (nI x)), (5, .int (nI s)), (0, .ref 58), (1, .int (nI P)), (2, .int (nI b)), (3, .int (nI T)), (4, .int (nI m))] [] := by
      refine jv_iinc (v := nI (h + 1)) (lv2 := [(7, .int (nI (h + 1))), (8, .int (nI i)), (6, .int (nI x)), (5, .int (nI s)), (0, .ref 58), (1, .int (nI P)), (2, .int (nI b)), (3, .int (nI T)), (4, .int (nI m))]) C dX9_least_127 hnl 0 rfl (nI_1 h) (by decide) rfl ?_
      refine jv_goto (tgt := 81) C dX9_least_130 (by decide) ?_
      exact ih (h + 1) (by omega)
    refine jv_iload C dX9_least_81 3 rfl ?_
    refine jv_iload C dX9_least_83 1 rfl ?_
    refine jv_iload C dX9_least_85 0 rfl ?_
    refine jv_iadd C dX9_least_87 ?_
    refine jv_ti (nI_add i h) ?_
    refine jv_iload_n C dX9_least_88 5 rfl ?_
    refine jv_irem C dX9_least_89 (jb_ne0 hP (by omega)) ?_
    refine jv_ti (pk_rem (by omega) (by omega) (by omega)) ?_
    refine jv_ishr C dX9_least_90 ?_
    refine jv_iconst (v := 1) C dX9_least_91 (by decide) ?_
    refine jv_iand C dX9_least_92 ?_
    refine jv_ti hsh ?_
    refine jv_iconst (v := 1) C dX9_least_93 (by decide) ?_
    refine jv_icmp_eq (tgt := 127) C dX9_least_94 (by decide) (fun _ => go) (fun q => ?_)
    have tb : s.testBit ((i + h) % P) = false := by
      cases tb : s.testBit ((i + h) % P)
      · rfl
      · exact absurd (if_pos tb) q
    rw [if_neg (by rw [tb]; decide)] at et
    obtain ⟨f1, f2, f3⟩ := jw_fin P hP2 s (by omega) _ hm tb
    refine jv_aload_n C dX9_least_97 4 rfl ?_
    refine jv_getf (fk := 40) C (by decide) h58 rfl in_X9_least_9 (by decide) (by decide +kernel) rfl rfl dX9_least_98 ?_
    refine jv_iload C dX9_least_101 3 rfl ?_
    refine jv_iconst (v := 1) C dX9_least_103 (by decide) ?_
    refine jv_iload C dX9_least_104 1 rfl ?_
    refine jv_iload C dX9_least_106 0 rfl ?_
    refine jv_iadd C dX9_least_108 ?_
    refine jv_ti (nI_add i h) ?_
    refine jv_iload_n C dX9_least_109 5 rfl ?_
    refine jv_irem C dX9_least_110 (jb_ne0 hP (by omega)) ?_
    refine jv_ti (pk_rem (by omega) (by omega) (by omega)) ?_
    refine jv_ishl C dX9_least_111 ?_
    refine jv_ti (jb_sh _ (by omega)) ?_
    refine jv_ior C dX9_least_112 ?_
    refine jv_ti (jb_nor s _) ?_
    refine jv_iload C dX9_least_113 2 rfl ?_
    refine jv_iload C dX9_least_115 0 rfl ?_
    refine jv_isub C dX9_least_117 ?_
    refine jv_ti (jm_sub (a := x) (b := h) (by omega)) ?_
    refine jv_callS (na := 2) (As := [.int (nI (s ||| 2 ^ ((i + h) % P))), .int (nI (x - h))]) (st := [.ref 82]) C (c_X9_at l D kp (s ||| 2 ^ ((i + h) % P)) (x - h)) gX9_least_X9_at rfl rfl rfl q_X9_at rfl ⟨by decide, by decide⟩ ⟨by decide, by decide⟩ (fun _ h => absurd h List.not_mem_nil) (Nat.le_of_ble_eq_true rfl) rfl dX9_least_118 (fun q n1 E1 hp _ => ?_)
    obtain ⟨rfl, rfl, rfl⟩ := hp
    show jv_V l D vwCl kp G 0 0 n E 121 [(7, .int (nI h)), (8, .int (nI i)), (6, .int (nI x)), (5, .int (nI s)), (0, .ref 58), (1, .int (nI P)), (2, .int (nI b)), (3, .int (nI T)), (4, .int (nI m))] [.int (nI (73 * (s ||| 2 ^ ((i + h) % P)) + (x - h))), .ref 82]
    refine jv_lald C (by decide) h82 (jb_in (by omega) (by decide)) dX9_least_121 ?_
    refine jv_tl (y := lN (jb_term P T s t h)) (by
      rw [jb_cl (by omega), hg _ (by omega) o1 _ (by omega), et]
      congr 2
      · omega
      · exact Int.ofNat_sub (by omega)) ?_
    refine jv_lconst (v := 0) C dX9_least_122 (by decide) ?_
    refine jv_lcmp C dX9_least_123 ?_
    exact jv_if_ne (tgt := 133) C dX9_least_124 (by decide) (fun q => absurd ((jl_cmp0 hbd).mpr hz) q) (fun _ => go)
set_option maxRecDepth 100000 in
set_option maxHeartbeats 8000000 in
theorem lp_l71 {l : Launch} {D : va_G} {kp : Nat → ClassId} {G : jv_G} {n : Nat} {E E0 : Nat → jv_E} {P T b m : Nat} {gl : Nat → Int64} {post : Option Value → Nat → (Nat → jv_E) → Prop} (C : jv_C D vwCl kp G cX9_least yX9_least.cls wsX9_least rm3 []) (hnl : jv_nL G = 9) (B : jv_R D vwCl kp G E0 (some .int) 0 0 post)
    (h58 : E 58 = cx58) (h82 : E 82 = .inl (3, 18688, .inr (.inl gl))) (hg : jm_I P T (P * b) 0 gl) (hP : 1 ≤ P) (hP2 : P < 9) (hT : T < 10) (hb : b < 10) (hm : m < P) (hp : post (some (.int (nI (jl_run P T b (m + 1)).2.2))) n E) :
    ∀ (f i s t h x : Nat), i + f = m + 1 → jl_run P T b i = (s, t, h) → jl_inv P T i s t → jl_x P s t x → x ≤ P * b → jv_V l D vwCl kp G 0 0 n E 71 [(8, .int (nI i)), (7, .int (nI h)), (6, .int (nI x)), (5, .int (nI s)), (0, .ref 58), (1, .int (nI P)), (2, .int (nI b)), (3, .int (nI T)), (4, .int (nI m))] [] := by
  have hp2 := jb_p2 P hP2
  intro f
  induction f with
  | zero =>
    intro i s t h x h1 e hv hx hxX
    have ei : i = m + 1 := by omega
    subst ei
    rw [e] at hp
    refine jv_iload C dX9_least_71 0 rfl ?_
    refine jv_iload C dX9_least_73 8 rfl ?_
    refine jv_icmp_gt (tgt := 160) C dX9_least_75 (by decide) (fun _ => ?_) (fun q => absurd (nI_lt (by omega) (by omega)) q)
    refine jv_iload C dX9_least_160 1 rfl ?_
    exact jv_iret C B hp ⟨by decide, by decide⟩ dX9_least_162
  | succ f ih =>
    intro i s t h x h1 e hv hx hxX
    obtain ⟨r, er, r1, r2, r3, r4, r5, r6⟩ := jl_step hP hP2 (by omega) hv
    have e2 : jl_run P T b (i + 1) = (s ||| 2 ^ ((i + r) % P), t - (i + r) / P, r) := by simp only [jl_run, e, er]
    obtain ⟨v1, v2, v3, v4⟩ := hv
    obtain ⟨x1, x2⟩ := jl_xs hP hP2 (by omega) v1 v2 r2 r3 r4 hx
    have hmm : (i + r) % P < P := Nat.mod_lt _ hP
    refine jv_iload C dX9_least_71 0 rfl ?_
    refine jv_iload C dX9_least_73 8 rfl ?_
    refine jv_icmp_gt (tgt := 160) C dX9_least_75 (by decide) (fun q => absurd q (nI_nlt (by omega) (by omega))) (fun _ => ?_)
    refine jv_iconst (v := nI 0) C dX9_least_78 (by decide) ?_
    refine jv_istore (lv2 := [(7, .int (nI 0)), (8, .int (nI i)), (6, .int (nI x)), (5, .int (nI s)), (0, .ref 58), (1, .int (nI P)), (2, .int (nI b)), (3, .int (nI T)), (4, .int (nI m))]) C dX9_least_79 hnl (by decide) rfl ?_
    refine lp_l81 C hnl h58 h82 hg hP hP2 hT hb (by omega) v1 v2 hx hxX x1 r1 r4 r5 ?_ r 0 (by omega)
    refine jv_iload C dX9_least_133 3 rfl ?_
    refine jv_iconst (v := 1) C dX9_least_135 (by decide) ?_
    refine jv_iload C dX9_least_136 1 rfl ?_
    refine jv_iload C dX9_least_138 0 rfl ?_
    refine jv_iadd C dX9_least_140 ?_
    refine jv_ti (nI_add i r) ?_
    refine jv_iload_n C dX9_least_141 5 rfl ?_
    refine jv_irem C dX9_least_142 (jb_ne0 hP (by omega)) ?_
    refine jv_ti (pk_rem (by omega) (by omega) (by omega)) ?_
    refine jv_ishl C dX9_least_143 ?_
    refine jv_ti (jb_sh _ (by omega)) ?_
    refine jv_ior C dX9_least_144 ?_
    refine jv_ti (jb_nor s _) ?_
    refine jv_istore (lv2 := [(5, .int (nI (s ||| 2 ^ ((i + r) % P)))), (7, .int (nI r)), (8, .int (nI i)), (6, .int (nI x)), (0, .ref 58), (1, .int (nI P)), (2, .int (nI b)), (3, .int (nI T)), (4, .int (nI m))]) C dX9_least_145 hnl (by decide) rfl ?_
    refine jv_iload C dX9_least_147 3 rfl ?_
    refine jv_iload C dX9_least_149 1 rfl ?_
    refine jv_isub C dX9_least_151 ?_
    refine jv_ti (jm_sub (a := x) (b := r) x1) ?_
    refine jv_istore (lv2 := [(6, .int (nI (x - r))), (5, .int (nI (s ||| 2 ^ ((i + r) % P)))), (7, .int (nI r)), (8, .int (nI i)), (0, .ref 58), (1, .int (nI P)), (2, .int (nI b)), (3, .int (nI T)), (4, .int (nI m))]) C dX9_least_152 hnl (by decide) rfl ?_
    refine jv_iinc (v := nI (i + 1)) (lv2 := [(8, .int (nI (i + 1))), (6, .int (nI (x - r))), (5, .int (nI (s ||| 2 ^ ((i + r) % P)))), (7, .int (nI r)), (0, .ref 58), (1, .int (nI P)), (2, .int (nI b)), (3, .int (nI T)), (4, .int (nI m))]) C dX9_least_154 hnl 3 rfl (nI_1 i) (by decide) rfl ?_
    refine jv_goto (tgt := 71) C dX9_least_157 (by decide) ?_
    refine jv_lpk [0, 3, 1, 2, 4, 5, 6, 7, 8] rfl ?_
    exact ih (i + 1) _ _ _ _ (by omega) e2 r6 x2 (by omega)
set_option maxRecDepth 100000 in
set_option maxHeartbeats 8000000 in
theorem c_X9_least (l : Launch) (D : va_G) (kp : Nat → ClassId) {n : Nat} {E : Nat → jv_E} (h58 : E 58 = cx58) (h82 : E 82 = cx82) (p1 p2 p3 p4 : Int32) :
    jv_M l D vwCl kp yX9_least wsX9_least rm3 [] [.ref 58, .int p1, .int p2, .int p3, .int p4] n E 0 0 (fun r n1 E1 => some (.int (jr_least p1 p2 p3 p4)) = r) := by
  refine jv_of (by decide) rfl (Nat.le_of_ble_eq_true rfl) (fun G C B hI hnl => ?_)
  show jv_V l D vwCl kp G 0 0 n E 0 [(0, .ref 58), (1, .int p1), (2, .int p2), (3, .int p3), (4, .int p4)] []
  have no : ∀ (E1 : Nat → jv_E), jr_least p1 p2 p3 p4 = -2 → jv_V l D vwCl kp G 0 0 n E1 28 [(0, .ref 58), (1, .int p1), (2, .int p2), (3, .int p3), (4, .int p4)] [] := fun E1 q => by
    refine jv_bipush (v := -2) C dX9_least_28 (by decide) ?_
    exact jv_iret C B (by rw [q]) ⟨by decide, by decide⟩ dX9_least_30
  refine jv_aload_n C dX9_least_0 0 rfl ?_
  refine jv_iconst (v := 0) C dX9_least_1 (by decide) ?_
  refine jv_putf (fk := 0) (ty := .int) (fs2 := [.int 0, .ref 59, .ref 60, .ref 61, .ref 62, .ref 63, .int 0, .int 0, .int 0, .int 0, .int 0, .long 0, .int 0, .int 0, .int 0, .int (-1), .ref 64, .ref 65, .ref 66, .ref 67, .ref 68, .ref 69, .ref 70, .ref 71, .ref 72, .ref 73, .int 0, .ref 74, .ref 75, .ref 76, .int 0, .int 0, .ref 77, .ref 78, .ref 79, .int 0, .int 0, .int 0, .ref 80, .ref 81, .ref 82, .long 0, .ref 83, .int 0, .int 0, .int 0]) C (by decide) h58 rfl in_X9_least_9 tyX9 tyX9_ok nmX9 (by decide) (by decide +kernel) rfl rfl rfl (fun _ => rfl) (fun _ => rfl) (Nat.le_of_ble_eq_true rfl) dX9_least_2 rfl ?_
  refine jv_iload_n C dX9_least_5 1 rfl ?_
  refine jv_iload_n C dX9_least_6 2 rfl ?_
  refine jv_iload_n C dX9_least_7 3 rfl ?_
  refine jv_callS (na := 3) (As := [.int p1, .int p2, .int p3]) (st := []) C (c_X9_areRows l D kp p1 p2 p3) gX9_least_X9_areRows rfl rfl rfl q_X9_areRows rfl ⟨by decide, by decide⟩ ⟨by decide, by decide⟩ (fun _ h => absurd h List.not_mem_nil) (Nat.le_of_ble_eq_true rfl) rfl dX9_least_8 (fun r n1 E1 hp _ => ?_)
  obtain ⟨⟨rfl, hc⟩ | ⟨rfl, hc⟩, rfl, rfl⟩ := hp
  · obtain ⟨P, hP1, rfl, hP3⟩ := jb_of2 (x := p1) (m := 8) (by omega) (by omega)
    obtain ⟨b, hb1, rfl, hb3⟩ := jb_of2 (x := p2) (m := 9) (by omega) (by omega)
    obtain ⟨T, hT1, rfl, hT3⟩ := jb_of2 (x := p3) (m := 9) (by omega) (by omega)
    have hP : 1 ≤ P := by omega
    have hP2 : P < 9 := by omega
    have hb : b < 10 := by omega
    have hT : T < 10 := by omega
    have hX := jm_72 hP2 hb
    show jv_V l D vwCl kp G 0 0 n (va_up E 58 cx58) 11 [(0, .ref 58), (1, .int (nI P)), (2, .int (nI b)), (3, .int (nI T)), (4, .int p4)] [.int 1]
    refine jv_if_eq (tgt := 28) C dX9_least_11 (by decide) (fun h => absurd h (by decide)) (fun _ => ?_)
    refine jv_iload C dX9_least_14 4 rfl ?_
    refine jv_i2l C dX9_least_16 ?_
    refine jv_lconst (v := 0) C dX9_least_17 (by decide) ?_
    refine jv_iload_n C dX9_least_18 1 rfl ?_
    refine jv_iconst (v := 1) C dX9_least_19 (by decide) ?_
    refine jv_isub C dX9_least_20 ?_
    refine jv_ti (jm_sub (a := P) (b := 1) hP) ?_
    refine jv_i2l C dX9_least_21 ?_
    refine jv_tl (nI_l (by omega)) ?_
    refine jv_callS (na := 3) (As := [.long p4.toInt64, .long 0, .long (lN (P - 1))]) (st := []) C (c_X9_in l D kp p4.toInt64 0 (lN (P - 1)) p4.toInt 0 ((P - 1 : Nat) : Int) (jv_t64 p4) (by decide) (lN_toInt (by omega))) gX9_least_X9_in rfl rfl rfl q_X9_in rfl ⟨by decide, by decide⟩ ⟨by decide, by decide⟩ (fun _ h => absurd h List.not_mem_nil) (Nat.le_of_ble_eq_true rfl) rfl dX9_least_22 (fun r n1 E1 hp _ => ?_)
    obtain ⟨⟨rfl, hd⟩ | ⟨rfl, hd⟩, rfl, rfl⟩ := hp
    · obtain ⟨m, hm1, rfl, hm3⟩ := jb_of2 (x := p4) (m := 8) (by omega) (by omega)
      have hm : m < P := by omega
      have er := jr_least_in hP2 hP hb hT hm
      show jv_V l D vwCl kp G 0 0 n (va_up E 58 cx58) 25 [(0, .ref 58), (1, .int (nI P)), (2, .int (nI b)), (3, .int (nI T)), (4, .int (nI m))] [.int 1]
      refine jv_if_ne (tgt := 31) C dX9_least_25 (by decide) (fun _ => ?_) (fun h => absurd h (by decide))
      refine jv_aload_n C dX9_least_31 0 rfl ?_
      refine jv_iload_n C dX9_least_32 1 rfl ?_
      refine jv_iload_n C dX9_least_33 2 rfl ?_
      refine jv_iload_n C dX9_least_34 3 rfl ?_
      refine jv_callV (na := 3) (As := [.int (nI P), .int (nI b), .int (nI T)]) (st := []) C (c_X9_laysRows l D kp (va_up_self _ _ _) (jv_n (by decide) h82) hP hP2 hb hT) gX9_least_X9_laysRows rfl (by decide) (va_up_self _ _ _) rfl rfl rfl q_X9_laysRows rfl ⟨by decide, by decide⟩ ⟨by decide, by decide⟩ (fun _ h => absurd h List.not_mem_nil) (Nat.le_of_ble_eq_true rfl) rfl dX9_least_35 (fun r n1 E1 hp _ => ?_)
      obtain ⟨rfl, rfl, k58, gl, k82, kI⟩ := hp
      show jv_V l D vwCl kp G 0 0 n E1 38 [(0, .ref 58), (1, .int (nI P)), (2, .int (nI b)), (3, .int (nI T)), (4, .int (nI m))] []
      refine jv_aload_n C dX9_least_38 0 rfl ?_
      refine jv_getf (fk := 40) C (by decide) k58 rfl in_X9_least_9 (by decide) (by decide +kernel) rfl rfl dX9_least_39 ?_
      refine jv_iconst (v := nI 0) C dX9_least_42 (by decide) ?_
      refine jv_iload_n C dX9_least_43 1 rfl ?_
      refine jv_iload_n C dX9_least_44 2 rfl ?_
      refine jv_imul C dX9_least_45 ?_
      refine jv_ti (pk_mul P b) ?_
      refine jv_callS (na := 2) (As := [.int (nI 0), .int (nI (P * b))]) (st := [.ref 82]) C (c_X9_at l D kp 0 (P * b)) gX9_least_X9_at rfl rfl rfl q_X9_at rfl ⟨by decide, by decide⟩ ⟨by decide, by decide⟩ (fun _ h => absurd h List.not_mem_nil) (Nat.le_of_ble_eq_true rfl) rfl dX9_least_46 (fun r n1 E2 hp _ => ?_)
      obtain ⟨rfl, rfl, rfl⟩ := hp
      show jv_V l D vwCl kp G 0 0 n E1 49 [(0, .ref 58), (1, .int (nI P)), (2, .int (nI b)), (3, .int (nI T)), (4, .int (nI m))] [.int (nI (73 * 0 + P * b)), .ref 82]
      refine jv_lald C (by decide) k82 (jb_in (by omega) (by decide)) dX9_least_49 ?_
      have hp2 := jb_p2 P hP2
      refine jv_tl (y := lN (jw_W P T P 0 (b : Int))) (by rw [jw_eq hP hP2, jb_cl (by omega), kI 0 (by omega) (by omega) _ (Nat.le_refl _), (jw_start P hP2).1]) ?_
      refine jv_lconst (v := 0) C dX9_least_50 (by decide) ?_
      refine jv_lcmp C dX9_least_51 ?_
      have hbd : jw_W P T P 0 (b : Int) < 2 ^ 31 := jb_lt hP2 hT
      refine jv_if_ne (tgt := 57) C dX9_least_52 (by decide) (fun q => ?_) (fun q => ?_)
      · have hw : jw_W P T P 0 (b : Int) ≠ 0 := fun z => q ((jl_cmp0 hbd).mpr z)
        refine jv_iconst (v := nI 0) C dX9_least_57 (by decide) ?_
        refine jv_istore (lv2 := [(5, .int (nI 0)), (0, .ref 58), (1, .int (nI P)), (2, .int (nI b)), (3, .int (nI T)), (4, .int (nI m))]) C dX9_least_58 hnl (by decide) rfl ?_
        refine jv_iload_n C dX9_least_60 2 rfl ?_
        refine jv_iload_n C dX9_least_61 3 rfl ?_
        refine jv_imul C dX9_least_62 ?_
        refine jv_ti (pk_mul P b) ?_
        refine jv_istore (lv2 := [(6, .int (nI (P * b))), (5, .int (nI 0)), (0, .ref 58), (1, .int (nI P)), (2, .int (nI b)), (3, .int (nI T)), (4, .int (nI m))]) C dX9_least_63 hnl (by decide) rfl ?_
        refine jv_iconst (v := nI 0) C dX9_least_65 (by decide) ?_
        refine jv_istore (lv2 := [(7, .int (nI 0)), (6, .int (nI (P * b))), (5, .int (nI 0)), (0, .ref 58), (1, .int (nI P)), (2, .int (nI b)), (3, .int (nI T)), (4, .int (nI m))]) C dX9_least_66 hnl (by decide) rfl ?_
        refine jv_iconst (v := nI 0) C dX9_least_68 (by decide) ?_
        refine jv_istore (lv2 := [(8, .int (nI 0)), (7, .int (nI 0)), (6, .int (nI (P * b))), (5, .int (nI 0)), (0, .ref 58), (1, .int (nI P)), (2, .int (nI b)), (3, .int (nI T)), (4, .int (nI m))]) C dX9_least_69 hnl (by decide) rfl ?_
        refine lp_l71 C hnl B k58 k82 kI hP hP2 hT hb hm (by rw [er, if_neg hw]) (m + 1) 0 0 b 0 (P * b) (by omega) rfl (jl_0 hP2 hb hw) ?_ (Nat.le_refl _)
        unfold jl_x
        rw [(jw_start P hP2).1, (jw_start P hP2).2, Int.natCast_mul]
        omega
      · have hw : jw_W P T P 0 (b : Int) = 0 := (jl_cmp0 hbd).mp q
        refine jv_iconst (v := -1) C dX9_least_55 (by decide) ?_
        exact jv_iret C B (by rw [er, if_pos hw]) ⟨by decide, by decide⟩ dX9_least_56
    · show jv_V l D vwCl kp G 0 0 n (va_up E 58 cx58) 25 [(0, .ref 58), (1, .int (nI P)), (2, .int (nI b)), (3, .int (nI T)), (4, .int p4)] [.int 0]
      refine jv_if_ne (tgt := 31) C dX9_least_25 (by decide) (fun h => absurd (by decide) h) (fun _ => no _ ?_)
      unfold jr_least
      rw [if_neg (by omega)]
  · show jv_V l D vwCl kp G 0 0 n (va_up E 58 cx58) 11 [(0, .ref 58), (1, .int p1), (2, .int p2), (3, .int p3), (4, .int p4)] [.int 0]
    refine jv_if_eq (tgt := 28) C dX9_least_11 (by decide) (fun _ => no _ ?_) (fun h => absurd (by decide) h)
    unfold jr_least
    rw [if_neg (fun q => hc q.1)]
