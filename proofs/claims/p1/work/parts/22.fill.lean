theorem jv_lpk {l : Launch} {D : va_G} {cl : List vw_C} {kp : Nat → ClassId} {G : jv_G} {cs ss n : Nat} {E : Nat → jv_E} {pc : Nat} {lv lv2 : List (Nat × Value)} {st : List Value} (ks : List Nat) (h : lv_pick lv ks = lv2) (k : jv_V l D cl kp G cs ss n E pc lv2 st) : jv_V l D cl kp G cs ss n E pc lv st := by
  have hm : ∀ q ∈ lv2, q ∈ lv := fun q hq => by
    rw [← h] at hq
    obtain ⟨i, -, hi⟩ := List.mem_filterMap.mp hq
    exact List.mem_of_getElem? hi
  obtain ⟨p, e, R, s, m, args, below, meth, c, A, nL, n0, f0, Q⟩ := G
  intro f H locs ls hP hD hS hE hL hs hn hf hl
  exact k f H locs ls hP hD hS hE (fun q hq => hL q (hm q hq)) hs hn hf ⟨hl.1, hl.2.1, fun q hq => by
    obtain ⟨u, hu, rfl⟩ := List.mem_map.mp hq
    exact hl.2.2 _ (List.mem_map.mpr ⟨u, hm u hu, rfl⟩)⟩
set_option maxRecDepth 100000 in
set_option maxHeartbeats 8000000 in
theorem lp_fillI {l : Launch} {D : va_G} {kp : Nat → ClassId} {G : jv_G} {n : Nat} {E0 : Nat → jv_E} {kc z : Nat} {v : Int32} {rd : Room} (C : jv_C D vwCl kp G cJ7_fill_53178 yJ7_fill_53178.cls wsJ7_fill_53178 rd []) (hnl : jv_nL G = 4)
    (B : jv_R D vwCl kp G E0 none 0 0 (fun r n1 E1 => none = r ∧ n = n1 ∧ (∀ j, j ≠ kc → E1 j = E0 j) ∧ ∃ g, E1 kc = .inl (0, z, .inl g) ∧ ∀ j, j < z → g j = v)) (hk : kc < 1000000) (hz : z ≤ 100000) :
    ∀ (f x : Nat) (E : Nat → jv_E) (g : Nat → Int32), x + f = z → E kc = .inl (0, z, .inl g) → (∀ j, j ≠ kc → E j = E0 j) → (∀ j, j < x → g j = v) → jv_V l D vwCl kp G 0 0 n E 5 [(2, .int (nI x)), (3, .int (nI z)), (0, .ref kc), (1, .int v)] [] := by
  intro f
  induction f with
  | zero =>
    intro x E g h1 he hfr hg
    have hx : x = z := by omega
    subst hx
    refine jv_iload_n C dJ7_fill_53178_5 0 rfl ?_
    refine jv_iload_n C dJ7_fill_53178_6 1 rfl ?_
    refine jv_icmp_ge (tgt := 20) C dJ7_fill_53178_7 (by decide) (fun _ => ?_) (fun h => absurd (nI_le (Nat.le_refl _) (by omega)) h)
    exact jv_vret C B ⟨rfl, rfl, hfr, g, he, hg⟩ ⟨by decide, by decide⟩ dJ7_fill_53178_20
  | succ f ih =>
    intro x E g h1 he hfr hg
    refine jv_iload_n C dJ7_fill_53178_5 0 rfl ?_
    refine jv_iload_n C dJ7_fill_53178_6 1 rfl ?_
    refine jv_icmp_ge (tgt := 20) C dJ7_fill_53178_7 (by decide) (fun h => absurd h (nI_ge (by omega) (by omega))) (fun _ => ?_)
    refine jv_aload_n C dJ7_fill_53178_10 2 rfl ?_
    refine jv_iload_n C dJ7_fill_53178_11 0 rfl ?_
    refine jv_iload_n C dJ7_fill_53178_12 3 rfl ?_
    refine jv_iast C hk he (jb_in (by omega) hz) dJ7_fill_53178_13 ?_
    refine jv_iinc (v := nI (x + 1)) (lv2 := [(2, .int (nI (x + 1))), (3, .int (nI z)), (0, .ref kc), (1, .int v)]) C dJ7_fill_53178_14 hnl 0 rfl (nI_1 x) (by decide) rfl ?_
    refine jv_goto (tgt := 5) C dJ7_fill_53178_17 (by decide) ?_
    refine ih (x + 1) _ _ (by omega) (va_up_self _ _ _) (fun j hj => (va_up_ne _ _ hj).trans (hfr j hj)) (fun j hj => ?_)
    rw [jb_cl (by omega)]
    by_cases e : j = x
    · rw [e, pk_us]
    · rw [pk_un e]; exact hg j (by omega)
set_option maxRecDepth 100000 in
set_option maxHeartbeats 8000000 in
theorem c_fillI (l : Launch) (D : va_G) (kp : Nat → ClassId) {n : Nat} {E : Nat → jv_E} {kc z : Nat} {g : Nat → Int32} (he : E kc = .inl (0, z, .inl g)) (v : Int32) (hk : kc < 1000000) (hz : z ≤ 100000) :
    jv_M l D vwCl kp yJ7_fill_53178 wsJ7_fill_53178 rm1 [] [.ref kc, .int v] n E 0 0 (fun r n1 E1 => none = r ∧ n = n1 ∧ (∀ j, j ≠ kc → E1 j = E j) ∧ ∃ g, E1 kc = .inl (0, z, .inl g) ∧ ∀ j, j < z → g j = v) := by
  refine jv_of (by decide) rfl (Nat.le_of_ble_eq_true rfl) (fun G C B hI hnl => ?_)
  show jv_V l D vwCl kp G 0 0 n E 0 [(0, .ref kc), (1, .int v)] []
  refine jv_iconst (v := 0) C dJ7_fill_53178_0 (by decide) ?_
  refine jv_istore_n (lv2 := [(2, .int 0), (0, .ref kc), (1, .int v)]) C dJ7_fill_53178_1 rfl hnl (by decide) rfl ?_
  refine jv_aload_n C dJ7_fill_53178_2 1 rfl ?_
  refine jv_alen (v := nI z) C hk he .int (fun _ => rfl) rfl dJ7_fill_53178_3 ?_
  refine jv_istore_n (lv2 := [(3, .int (nI z)), (2, .int 0), (0, .ref kc), (1, .int v)]) C dJ7_fill_53178_4 rfl hnl (by decide) rfl ?_
  refine jv_lpk [1, 0, 2, 3] rfl ?_
  exact lp_fillI C hnl B hk hz z 0 E g (by omega) he (fun _ _ => rfl) (fun j hj => absurd hj (Nat.not_lt_zero j))
/-! the table that fill lays -/
def jb_term (P T k t : Nat) : Nat → Nat := fun h => if k.testBit ((P - jw_U P k + h) % P) then 0 else jw_W P T (jw_U P k - 1) (k ||| 2 ^ ((P - jw_U P k + h) % P)) ((t : Int) - (((P - jw_U P k + h) / P : Nat) : Int))
theorem jb_W {P T k t : Nat} (h : 0 < jw_U P k) : jw_W P T (jw_U P k) k (t : Int) = jw_sum (jb_term P T k t) (T + 1) := by
  obtain ⟨r, hr⟩ : ∃ r, jw_U P k = r + 1 := ⟨jw_U P k - 1, by omega⟩
  unfold jb_term
  rw [hr, jw_W]
  rfl
def jb_I (P T k : Nat) (g : Nat → Int32) : Prop := (∀ s, k ≤ s → s < 2 ^ P → ∀ t, t < 10 → g (s * 10 + t) = nI (jw_W P T (jw_U P s) s (t : Int))) ∧ (∀ s, s < k → ∀ t, t < 10 → g (s * 10 + t) = 0)
def jb_J (P T k h : Nat) (g : Nat → Int32) : Prop := (∀ s, k < s → s < 2 ^ P → ∀ t, t < 10 → g (s * 10 + t) = nI (jw_W P T (jw_U P s) s (t : Int))) ∧ (∀ t, t < 10 → g (k * 10 + t) = nI (jw_sum (jb_term P T k t) h)) ∧ (∀ s, s < k → ∀ t, t < 10 → g (s * 10 + t) = 0)
theorem jb_IJ {P T k : Nat} {g : Nat → Int32} (h : jb_I P T (k + 1) g) : jb_J P T k 0 g := ⟨fun s h1 => h.1 s h1, fun t ht => (h.2 k (by omega) t ht).trans nI_0.symm, fun s h1 => h.2 s (by omega)⟩
theorem jb_JI {P T k : Nat} {g : Nat → Int32} (hU : 0 < jw_U P k) (h : jb_J P T k (T + 1) g) : jb_I P T k g := ⟨fun s h1 h2 t ht => by
  by_cases e : s = k
  · subst e
    rw [h.2.1 t ht, jb_W hU]
  · exact h.1 s (by omega) h2 t ht, h.2.2⟩
theorem jb_step {P T k h : Nat} {g : Nat → Int32} (hP : 1 ≤ P) (hP2 : P < 9) (hk : k < 2 ^ P) (hU0 : 0 < jw_U P k) (hJ : jb_J P T k h g) : jb_J P T k (h + 1) (if k.testBit ((jw_bc k + h) % P) then g else jb_add g k (k ||| 2 ^ ((jw_bc k + h) % P)) ((jw_bc k + h) / P) 10) := by
  have hU := jb_U P hP2 k hk
  have e : jw_bc k = P - jw_U P k := by omega
  have hm : (jw_bc k + h) % P < P := Nat.mod_lt _ (by omega)
  obtain ⟨o1, o2, o3⟩ := jb_or P hP2 k hk _ hm
  have hp2 := jb_p2 P hP2
  by_cases tb : k.testBit ((jw_bc k + h) % P) = true
  · rw [if_pos tb]
    refine ⟨hJ.1, fun t ht => ?_, hJ.2.2⟩
    rw [hJ.2.1 t ht, jw_sum]
    have : jb_term P T k t h = 0 := by
      unfold jb_term
      rw [← e, if_pos tb]
    rw [this, Nat.add_zero]
  · have tb0 : k.testBit ((jw_bc k + h) % P) = false := by simpa using tb
    have tb2 := o3 tb0
    obtain ⟨f1, f2, f3⟩ := jw_fin P hP2 k (by omega) _ hm tb0
    rw [if_neg tb]
    obtain ⟨q, hqd⟩ : ∃ q, (jw_bc k + h) / P = q := ⟨_, rfl⟩
    rw [hqd]
    refine ⟨fun s h1 h2 t ht => ?_, fun t ht => ?_, fun s h1 t ht => ?_⟩
    · unfold jb_add
      rw [if_neg (by omega)]
      exact hJ.1 s h1 h2 t ht
    · have et : jb_term P T k t h = jw_W P T (jw_U P (k ||| 2 ^ ((jw_bc k + h) % P))) (k ||| 2 ^ ((jw_bc k + h) % P)) ((t : Int) - (q : Int)) := by
        unfold jb_term
        rw [← e, if_neg tb, hqd]
        congr 1
        omega
      rw [jw_sum, et]
      unfold jb_add
      rcases Nat.lt_or_ge t q with hq | hq
      · rw [if_neg (by omega), hJ.2.1 t ht, jw_neg _ _ _ _ _ (by omega), Nat.add_zero]
      · rw [if_pos (by omega), hJ.2.1 t ht, show k * 10 + t - k * 10 - q = t - q by omega, hJ.1 _ tb2 o1 _ (by omega), nI_add, Int.ofNat_sub hq]
    · unfold jb_add
      rw [if_neg (by omega)]
      exact hJ.2.2 s h1 t ht
set_option maxRecDepth 100000 in
set_option maxHeartbeats 8000000 in
theorem lp_heights {l : Launch} {D : va_G} {kp : Nat → ClassId} {G : jv_G} {n : Nat} {E0 : Nat → jv_E} {P T k : Nat} {av : Int32} (C : jv_C D vwCl kp G cX7_fill yX7_fill.cls wsX7_fill rm3 []) (hnl : jv_nL G = 6) (hP : 1 ≤ P) (hP2 : P < 9) (hT : T < 10) (hk : k < 2 ^ P) (hU : 0 < jw_U P k)
    (kk : ∀ (E : Nat → jv_E) (g : Nat → Int32) (hv : Int32), E 29 = .inr (7, [.int (nI P), .int (nI T), .ref 30]) → E 30 = .inl (0, 2560, .inl g) → (∀ j, j ≠ 29 → j ≠ 30 → E j = E0 j) → jb_I P T k g → jv_V l D vwCl kp G 0 0 n E 84 [(5, .int hv), (4, .int (nI k)), (3, .int av), (0, .ref 29), (1, .int (nI P)), (2, .int (nI T))] []) :
    ∀ (f h : Nat) (E : Nat → jv_E) (g : Nat → Int32), h + f = T + 1 → E 29 = .inr (7, [.int (nI P), .int (nI T), .ref 30]) → E 30 = .inl (0, 2560, .inl g) → (∀ j, j ≠ 29 → j ≠ 30 → E j = E0 j) → jb_J P T k h g → jv_V l D vwCl kp G 0 0 n E 64 [(5, .int (nI h)), (4, .int (nI k)), (3, .int av), (0, .ref 29), (1, .int (nI P)), (2, .int (nI T))] [] := by
  intro f
  induction f with
  | zero =>
    intro h E g h1 h29 h30 hfr hJ
    have hh : h = T + 1 := by omega
    subst hh
    refine jv_iload C dX7_fill_64 0 rfl ?_
    refine jv_iload_n C dX7_fill_66 5 rfl ?_
    refine jv_icmp_gt (tgt := 84) C dX7_fill_67 (by decide) (fun _ => ?_) (fun h => absurd (nI_lt (by omega) (by omega)) h)
    exact kk E g _ h29 h30 hfr (jb_JI hU hJ)
  | succ f ih =>
    intro h E g h1 h29 h30 hfr hJ
    refine jv_iload C dX7_fill_64 0 rfl ?_
    refine jv_iload_n C dX7_fill_66 5 rfl ?_
    refine jv_icmp_gt (tgt := 84) C dX7_fill_67 (by decide) (fun q => absurd q (nI_nlt (by omega) (by omega))) (fun _ => ?_)
    refine jv_aload_n C dX7_fill_70 3 rfl ?_
    refine jv_iload C dX7_fill_71 1 rfl ?_
    refine jv_iload C dX7_fill_73 0 rfl ?_
    refine jv_callV (na := 2) (As := [.int (nI k), .int (nI h)]) (st := []) C (c_addWays l D kp h29 h30 hP hP2 hk (by omega)) gX7_fill_X7_addWays rfl (by decide) h29 rfl rfl rfl q_X7_addWays rfl ⟨by decide, by decide⟩ ⟨by decide, by decide⟩ (fun _ h => absurd h List.not_mem_nil) (Nat.le_of_ble_eq_true rfl) rfl dX7_fill_75 (fun r n1 E1 hp _ => ?_)
    obtain ⟨rfl, rfl, hf, e30⟩ := hp
    show jv_V l D vwCl kp G 0 0 n E1 78 [(5, .int (nI h)), (4, .int (nI k)), (3, .int av), (0, .ref 29), (1, .int (nI P)), (2, .int (nI T))] []
    refine jv_iinc (v := nI (h + 1)) (lv2 := [(5, .int (nI (h + 1))), (4, .int (nI k)), (3, .int av), (0, .ref 29), (1, .int (nI P)), (2, .int (nI T))]) C dX7_fill_78 hnl 0 rfl (nI_1 h) (by decide) rfl ?_
    refine jv_goto (tgt := 64) C dX7_fill_81 (by decide) ?_
    exact ih (h + 1) E1 _ (by omega) ((hf 29 (by decide)).trans h29) e30 (fun j q1 q2 => (hf j q2).trans (hfr j q1 q2)) (jb_step hP hP2 hk hU hJ)
set_option maxRecDepth 100000 in
set_option maxHeartbeats 8000000 in
theorem lp_sets {l : Launch} {D : va_G} {kp : Nat → ClassId} {G : jv_G} {n : Nat} {E0 : Nat → jv_E} {P T : Nat} {av : Int32} {post : Option Value → Nat → (Nat → jv_E) → Prop} (C : jv_C D vwCl kp G cX7_fill yX7_fill.cls wsX7_fill rm3 []) (hnl : jv_nL G = 6) (B : jv_R D vwCl kp G E0 none 0 0 post)
    (hpost : ∀ (E : Nat → jv_E) (g : Nat → Int32), E 29 = .inr (7, [.int (nI P), .int (nI T), .ref 30]) → E 30 = .inl (0, 2560, .inl g) → (∀ j, j ≠ 29 → j ≠ 30 → E j = E0 j) → jb_I P T 0 g → post none n E) (hP : 1 ≤ P) (hP2 : P < 9) (hT : T < 10) :
    ∀ (k : Nat) (E : Nat → jv_E) (g : Nat → Int32), k < 2 ^ P → E 29 = .inr (7, [.int (nI P), .int (nI T), .ref 30]) → E 30 = .inl (0, 2560, .inl g) → (∀ j, j ≠ 29 → j ≠ 30 → E j = E0 j) → jb_I P T k g → jv_V l D vwCl kp G 0 0 n E 56 [(4, .int (nI k + (-1))), (3, .int av), (0, .ref 29), (1, .int (nI P)), (2, .int (nI T))] [] := by
  intro k
  induction k with
  | zero =>
    intro E g hk h29 h30 hfr hI
    refine jv_iload C dX7_fill_56 0 rfl ?_
    refine jv_ti (y := -1) (by decide) ?_
    refine jv_if_lt (tgt := 90) C dX7_fill_58 (by decide) (fun _ => ?_) (fun h => absurd (by decide) h)
    exact jv_vret C B (hpost E g h29 h30 hfr hI) ⟨by decide, by decide⟩ dX7_fill_90
  | succ k ih =>
    intro E g hk h29 h30 hfr hI
    have hp2 := jb_p2 P hP2
    rw [pk_m1]
    refine jv_iload C dX7_fill_56 0 rfl ?_
    refine jv_if_lt (tgt := 90) C dX7_fill_58 (by decide) (fun h => absurd h (nI_pos (by omega))) (fun _ => ?_)
    refine jv_iconst (v := 0) C dX7_fill_61 (by decide) ?_
    refine jv_istore (lv2 := [(5, .int 0), (4, .int (nI k)), (3, .int av), (0, .ref 29), (1, .int (nI P)), (2, .int (nI T))]) C dX7_fill_62 hnl (by decide) rfl ?_
    refine lp_heights C hnl hP hP2 hT (by omega) (jb_U0 P hP2 k (by omega)) (fun E1 g1 hv k29 k30 kfr kI => ?_) (T + 1) 0 E g (by omega) h29 h30 hfr (jb_IJ hI)
    refine jv_iinc (v := nI k + (-1)) (lv2 := [(4, .int (nI k + (-1))), (5, .int hv), (3, .int av), (0, .ref 29), (1, .int (nI P)), (2, .int (nI T))]) C dX7_fill_84 hnl 1 rfl rfl (by decide) rfl ?_
    refine jv_goto (tgt := 56) C dX7_fill_87 (by decide) ?_
    refine jv_lpk [0, 2, 3, 4, 5] rfl ?_
    exact ih E1 g1 (by omega) k29 k30 kfr kI
set_option maxRecDepth 100000 in
set_option maxHeartbeats 8000000 in
/-- fill(P, T) on a tally that holds another table -/
theorem c_fill (l : Launch) (D : va_G) (kp : Nat → ClassId) {n : Nat} {E : Nat → jv_E} {P T : Nat} {u0 u1 : Int32} {g : Nat → Int32} (h29 : E 29 = .inr (7, [.int u0, .int u1, .ref 30])) (h30 : E 30 = .inl (0, 2560, .inl g)) (hP : 1 ≤ P) (hP2 : P < 9) (hT : T < 10) (hu : ¬ nI P = u0) :
    jv_M l D vwCl kp yX7_fill wsX7_fill rm3 [] [.ref 29, .int (nI P), .int (nI T)] n E 0 0 (fun r n1 E1 => none = r ∧ n = n1 ∧ (∀ j, j ≠ 29 → j ≠ 30 → E1 j = E j) ∧ E1 29 = .inr (7, [.int (nI P), .int (nI T), .ref 30]) ∧ ∃ g, E1 30 = .inl (0, 2560, .inl g) ∧ jb_I P T 0 g) := by
  have hp2 := jb_p2 P hP2
  refine jv_of (by decide) rfl (Nat.le_of_ble_eq_true rfl) (fun G C B hI hnl => ?_)
  show jv_V l D vwCl kp G 0 0 n E 0 [(0, .ref 29), (1, .int (nI P)), (2, .int (nI T))] []
  refine jv_iload_n C dX7_fill_0 1 rfl ?_
  refine jv_aload_n C dX7_fill_1 0 rfl ?_
  refine jv_getf (fk := 0) C (by decide) h29 rfl in_X7_fill_7 (by decide) (by decide +kernel) rfl rfl dX7_fill_2 ?_
  refine jv_icmp_ne (tgt := 17) C dX7_fill_5 (by decide) (fun _ => ?_) (fun h => absurd h hu)
  refine jv_aload_n C dX7_fill_17 0 rfl ?_
  refine jv_iload_n C dX7_fill_18 1 rfl ?_
  refine jv_putf (fk := 0) (ty := .int) (fs2 := [.int (nI P), .int u1, .ref 30]) C (by decide) h29 rfl in_X7_fill_7 tyX7 tyX7_ok nmX7 (by decide) (by decide +kernel) rfl rfl rfl (fun _ => rfl) (fun _ => rfl) (Nat.le_of_ble_eq_true rfl) dX7_fill_19 rfl ?_
  refine jv_aload_n C dX7_fill_22 0 rfl ?_
  refine jv_iload_n C dX7_fill_23 2 rfl ?_
  refine jv_putf (fk := 1) (ty := .int) (fs2 := [.int (nI P), .int (nI T), .ref 30]) C (by decide) (va_up_self _ _ _) rfl in_X7_fill_7 tyX7 tyX7_ok nmX7 (by decide) (by decide +kernel) rfl rfl rfl (fun _ => rfl) (fun _ => rfl) (Nat.le_of_ble_eq_true rfl) dX7_fill_24 rfl ?_
  refine jv_aload_n C dX7_fill_27 0 rfl ?_
  refine jv_getf (fk := 2) C (by decide) (va_up_self _ _ _) rfl in_X7_fill_7 (by decide) (by decide +kernel) rfl rfl dX7_fill_28 ?_
  refine jv_iconst (v := 0) C dX7_fill_31 (by decide) ?_
  refine jv_callS (na := 2) (As := [.ref 30, .int 0]) (st := []) C (c_fillI l D kp (jv_n (by decide) (jv_n (by decide) h30)) 0 (by decide) (by decide)) gX7_fill_J7_fill_53178 rfl rfl rfl q_J7_fill_53178 rfl ⟨by decide, by decide⟩ ⟨by decide, by decide⟩ (fun _ h => absurd h List.not_mem_nil) (Nat.le_of_ble_eq_true rfl) rfl dX7_fill_32 (fun r n1 E1 hp _ => ?_)
  obtain ⟨rfl, rfl, hf, g1, e30, hz⟩ := hp
  have e29 : E1 29 = .inr (7, [.int (nI P), .int (nI T), .ref 30]) := (hf 29 (by decide)).trans (va_up_self _ _ _)
  have hfr : ∀ j, j ≠ 29 → j ≠ 30 → E1 j = E j := fun j q1 q2 => (hf j q2).trans ((va_up_ne _ _ q1).trans (va_up_ne _ _ q1))
  show jv_V l D vwCl kp G 0 0 n E1 35 [(0, .ref 29), (1, .int (nI P)), (2, .int (nI T))] []
  refine jv_iconst (v := 1) C dX7_fill_35 (by decide) ?_
  refine jv_iload_n C dX7_fill_36 1 rfl ?_
  refine jv_ishl C dX7_fill_37 ?_
  refine jv_ti (jb_sh P hP2) ?_
  refine jv_iconst (v := 1) C dX7_fill_38 (by decide) ?_
  refine jv_isub C dX7_fill_39 ?_
  refine jv_ti (pk_sub (a := 2 ^ P) (b := 1) hp2.1) ?_
  refine jv_istore_n (lv2 := [(3, .int (nI (2 ^ P - 1))), (0, .ref 29), (1, .int (nI P)), (2, .int (nI T))]) C dX7_fill_40 rfl hnl (by decide) rfl ?_
  refine jv_aload_n C dX7_fill_41 1 rfl ?_
  refine jv_getf (fk := 2) C (by decide) e29 rfl in_X7_fill_7 (by decide) (by decide +kernel) rfl rfl dX7_fill_42 ?_
  refine jv_iload_n C dX7_fill_45 0 rfl ?_
  refine jv_bipush (v := 10) C dX7_fill_46 (by decide) ?_
  refine jv_imul C dX7_fill_48 ?_
  refine jv_ti (jb_m10 (2 ^ P - 1)) ?_
  refine jv_iconst (v := 1) C dX7_fill_49 (by decide) ?_
  refine jv_iast C (by decide) e30 (jb_in (by omega) (by decide)) dX7_fill_50 ?_
  refine jv_iload_n C dX7_fill_51 0 rfl ?_
  refine jv_iconst (v := 1) C dX7_fill_52 (by decide) ?_
  refine jv_isub C dX7_fill_53 ?_
  refine jv_ti (y := nI (2 ^ P - 1) + (-1)) (by rw [Int32.sub_eq_add_neg]) ?_
  refine jv_istore (lv2 := [(4, .int (nI (2 ^ P - 1) + (-1))), (3, .int (nI (2 ^ P - 1))), (0, .ref 29), (1, .int (nI P)), (2, .int (nI T))]) C dX7_fill_54 hnl (by decide) rfl ?_
  refine lp_sets C hnl B (fun E2 g2 k29 k30 kfr kI => ⟨rfl, rfl, kfr, k29, g2, k30, kI⟩) hP hP2 hT (2 ^ P - 1) _ _ (by omega) (jv_n (by decide) e29) (va_up_self _ _ _) (fun j q1 q2 => (va_up_ne _ _ q2).trans (hfr j q1 q2)) ⟨fun s h1 h2 t ht => ?_, fun s h1 t ht => ?_⟩
  · have hs : s = 2 ^ P - 1 := by omega
    subst hs
    rw [jb_cl (by omega), jb_Uf P hP2, jw_W]
    by_cases h0 : t = 0
    · subst h0
      rw [Nat.add_zero, pk_us]
      rfl
    · rw [pk_un (by omega), hz _ (by omega), if_neg (by omega)]
      exact nI_0.symm
  · rw [jb_cl (by omega), pk_un (by omega)]
    exact hz _ (by omega)
