/-! THE CHECKER 5: division, bits, branches -/
section CK5
variable {l : Launch} {D : va_G} {kp : Nat → ClassId} {G : jv_G} {cs ss : Nat} {m0 : Nat} {σ0 : Nat → Int} {E0 : Nat → jv_E} {mods : List Nat}
variable {σ : Nat → Int} {S : ck_S} {E : Nat → jv_E} {lv : List (Nat × Value)} {st st' : List Value} {K : List ck_V} {its r : List ck_I} {su : List (Nat × ck_S)} {pc : Nat}
theorem ck_3 {α : Type} {p : α → Prop} {a b c : α} (h1 : p a) (h2 : p b) (h3 : p c) : ∀ f ∈ [a, b, c], p f := by
  intro f hf
  simp only [List.mem_cons, List.not_mem_nil, or_false] at hf
  rcases hf with rfl | rfl | rfl
  · exact h1
  · exact h2
  · exact h3
theorem ck_2 {α : Type} {p : α → Prop} {a b : α} (h1 : p a) (h2 : p b) : ∀ f ∈ [a, b], p f := by
  intro f hf
  simp only [List.mem_cons, List.not_mem_nil, or_false] at hf
  rcases hf with rfl | rfl
  · exact h1
  · exact h2
theorem ck_1 {α : Type} {p : α → Prop} {a : α} (h1 : p a) : ∀ f ∈ [a], p f := by
  intro f hf
  rw [List.mem_singleton.mp hf]; exact h1
theorem ck_wx {n : Nat} : ck_w (n + 1) (ck_x n) := ck_w_x (Nat.lt_succ_self _)
theorem ck_wu {n : Nat} {a : ck_L} (h : ck_w n a) : ck_w (n + 1) a := ck_w_up (Nat.le_succ _) h
theorem ck_p0 {n : Nat} {z : Int} (h : 0 ≤ z) : ck_w (n + 1) (ck_x n) ∧ 0 ≤ ck_ev (va_up σ n z) (ck_x n) := ⟨ck_wx, by rw [ck_up_x]; exact h⟩
theorem ck_p1 {n : Nat} {z : Int} {a : ck_L} (hw : ck_w n a) (h : z ≤ ck_ev σ a) : ck_w (n + 1) (ck_sub a (ck_x n)) ∧ 0 ≤ ck_ev (va_up σ n z) (ck_sub a (ck_x n)) := ⟨ck_w_sub (ck_wu hw) ck_wx, by rw [ck_sub_ev, ck_up_x, ck_up_a hw]; omega⟩
theorem ck_p2 {n : Nat} {z : Int} {a : ck_L} (hw : ck_w n a) (h : 0 ≤ ck_ev σ a + z) : ck_w (n + 1) (ck_add a (ck_x n)) ∧ 0 ≤ ck_ev (va_up σ n z) (ck_add a (ck_x n)) := ⟨ck_w_add (ck_wu hw) ck_wx, by rw [ck_add_ev, ck_up_x, ck_up_a hw]; omega⟩
theorem ck_p3 {n : Nat} {z c : Int} {a : ck_L} (hw : ck_w n a) (h : c * z ≤ ck_ev σ a) : ck_w (n + 1) (ck_sub a (ck_mul c (ck_x n))) ∧ 0 ≤ ck_ev (va_up σ n z) (ck_sub a (ck_mul c (ck_x n))) := ⟨ck_w_sub (ck_wu hw) (ck_w_mul ck_wx), by rw [ck_sub_ev, ck_mul_ev, ck_up_x, ck_up_a hw]; omega⟩
theorem ck_p4 {n : Nat} {z c d : Int} {a : ck_L} (hw : ck_w n a) (h : ck_ev σ a ≤ c * z + d) : ck_w (n + 1) (ck_sub (ck_ac (ck_mul c (ck_x n)) d) a) ∧ 0 ≤ ck_ev (va_up σ n z) (ck_sub (ck_ac (ck_mul c (ck_x n)) d) a) := ⟨ck_w_sub (ck_w_ac (ck_w_mul ck_wx)) (ck_wu hw), by rw [ck_sub_ev, ck_ac_ev, ck_mul_ev, ck_up_x, ck_up_a hw]; omega⟩
theorem ck_rem_gen {lng : Bool} {a b : ck_L} (h : ck_rem lng pc S K a b its = some (su, r)) (hF : ck_hs σ S.2.1) (hwa : ck_w S.1 a) (hwb : ck_w S.1 b) : 1 ≤ ck_ev σ b ∧ ∃ (ex : List ck_L) (r0 : List ck_I), ck_nw lng pc S K ex (ck_rpn lng S a b) r0 = some (su, r) ∧ ∀ z, z = (ck_ev σ a).tmod (ck_ev σ b) → ∀ f ∈ ex, ck_w (S.1 + 1) f ∧ 0 ≤ ck_ev (va_up σ S.1 z) f := by
  cases its with
  | nil => cases h
  | cons it r0 =>
    unfold ck_rem at h
    dsimp only at h
    split at h
    · rename_i hb
      have e1 := ck_ent_ok hF hb
      rw [ck_ac_ev] at e1
      have hb1 : 1 ≤ ck_ev σ b := by omega
      refine ⟨hb1, ?_⟩
      split at h
      · split at h
        · rename_i ha
          have e2 := ck_ent_ok hF ha
          refine ⟨_, _, h, fun z hz => ?_⟩
          have t1 := cn_tm_lt (a := ck_ev σ a) hb1
          have t2 := cn_tm_nn e2 hb1
          rw [← hz] at t1 t2
          exact ck_3 (ck_p0 t2.1) (ck_p1 (ck_w_ac hwb) (by rw [ck_ac_ev]; omega)) (ck_p1 hwa t2.2)
        · cases h
      · split at h
        · split at h
          · rename_i ha
            have e2 := ck_ent_ok hF ha
            rw [ck_mul_ev] at e2
            refine ⟨_, _, h, fun z hz => ?_⟩
            have t1 := cn_tm_lt (a := ck_ev σ a) hb1
            have t2 := cn_tm_np (a := ck_ev σ a) (b := ck_ev σ b) (by omega)
            rw [← hz] at t1 t2
            exact ck_2 ⟨ck_w_mul ck_wx, by rw [ck_mul_ev, ck_up_x]; omega⟩ (ck_p2 (ck_w_ac hwb) (by rw [ck_ac_ev]; omega))
          · cases h
        · refine ⟨_, _, h, fun z hz => ?_⟩
          have t1 := cn_tm_lt (a := ck_ev σ a) hb1
          rw [← hz] at t1
          exact ck_2 (ck_p2 (ck_w_ac hwb) (by rw [ck_ac_ev]; omega)) (ck_p1 (ck_w_ac hwb) (by rw [ck_ac_ev]; omega))
    · cases h
theorem ck_div_gen {lng : Bool} {a b : ck_L} (h : ck_div lng pc S K a b its = some (su, r)) (hF : ck_hs σ S.2.1) (hwa : ck_w S.1 a) (hwb : ck_w S.1 b) : 1 ≤ ck_ev σ b ∧ ∃ (ex : List ck_L) (r0 : List ck_I), ck_nw lng pc S K ex [] r0 = some (su, r) ∧ ∀ z, z = (ck_ev σ a).tdiv (ck_ev σ b) → (∀ f ∈ (if lng then ck_tJ S.1 else ck_tI S.1), ck_w (S.1 + 1) f ∧ 0 ≤ ck_ev (va_up σ S.1 z) f) → ∀ f ∈ ex, ck_w (S.1 + 1) f ∧ 0 ≤ ck_ev (va_up σ S.1 z) f := by
  cases its with
  | nil => cases h
  | cons it r0 =>
    unfold ck_div at h
    dsimp only at h
    split at h
    · rename_i hb
      have e1 := ck_ent_ok hF hb
      rw [ck_ac_ev] at e1
      have hb1 : 1 ≤ ck_ev σ b := by omega
      refine ⟨hb1, ?_⟩
      split at h
      · split at h
        · rename_i hc
          obtain ⟨ha, hbe⟩ := Bool.and_eq_true_iff.mp hc
          have e2 := ck_ent_ok hF ha
          have eb : ck_ev σ b = b.1 := by
            have : b.2 = [] := List.isEmpty_iff.mp hbe
            show b.1 + ck_ts σ b.2 = b.1
            rw [this]; exact Int.add_zero _
          refine ⟨_, _, h, fun z hz _ => ?_⟩
          have t := cn_td_nn e2 hb1
          rw [← hz, eb] at t
          exact ck_3 (ck_p0 t.1) (ck_p3 hwa t.2.1) (ck_p4 hwa t.2.2.1)
        · cases h
      · split at h
        · split at h
          · rename_i ha
            have e2 := ck_ent_ok hF ha
            refine ⟨_, _, h, fun z hz _ => ?_⟩
            have t := cn_td_nn e2 hb1
            rw [← hz] at t
            exact ck_2 (ck_p0 t.1) (ck_p1 hwa t.2.2.2)
          · cases h
        · exact ⟨_, _, h, fun z hz ht => ht⟩
    · cases h
theorem ck_and_ok {a b : ck_L} {x y : Int32} (h : ck_and pc S K a b its = some (su, r)) (k : ∀ q ∈ su, ck_Pr l D kp G cs ss m0 σ0 E0 mods q.1 q.2) (H : ck_H m0 σ0 E0 mods σ S E lv st) (hK : ck_rs σ S.1 K st') (hwa : ck_w S.1 a) (hwb : ck_w S.1 b) (hx : x.toInt = ck_ev σ a) (hy : y.toInt = ck_ev σ b) : jv_V l D vwCl kp G cs ss 84 E pc lv (.int (x &&& y) :: st') := by
  cases its with
  | nil => cases h
  | cons it r0 =>
    unfold ck_and at h
    dsimp only at h
    split at h
    · split at h
      · rename_i hb
        have e := ck_ent_ok (ck_hF H) hb
        have t := cn_and (x := x) (y := y) (by rw [hy]; exact e)
        exact ck_nwI h k H hK (ck_2 (ck_p0 t.1) (ck_p1 hwb (by rw [← hy]; exact t.2)))
      · cases h
    · split at h
      · split at h
        · rename_i hb
          have e := ck_ent_ok (ck_hF H) hb
          have t := cn_and2 (x := x) (y := y) (by rw [hx]; exact e)
          exact ck_nwI h k H hK (ck_2 (ck_p0 t.1) (ck_p1 hwa (by rw [← hx]; exact t.2)))
        · cases h
      · exact ck_nwI h k H hK ck_topI
theorem ck_or_ok {a b : ck_L} {x y : Int32} (h : ck_or pc S K a b its = some (su, r)) (k : ∀ q ∈ su, ck_Pr l D kp G cs ss m0 σ0 E0 mods q.1 q.2) (H : ck_H m0 σ0 E0 mods σ S E lv st) (hK : ck_rs σ S.1 K st') (hwa : ck_w S.1 a) (hwb : ck_w S.1 b) (hx : x.toInt = ck_ev σ a) (hy : y.toInt = ck_ev σ b) : jv_V l D vwCl kp G cs ss 84 E pc lv (.int (x ||| y) :: st') := by
  cases its with
  | nil => cases h
  | cons it r0 =>
    unfold ck_or at h
    dsimp only at h
    split at h
    · exact ck_nwIP h k H hK ck_topI (ck_orn_ok hwa hwb hx hy)
    · split at h
      · rename_i hc
        obtain ⟨h31, hc⟩ := Bool.and_eq_true_iff.mp hc
        obtain ⟨hc, c4⟩ := Bool.and_eq_true_iff.mp hc
        obtain ⟨hc, c3⟩ := Bool.and_eq_true_iff.mp hc
        obtain ⟨c1, c2⟩ := Bool.and_eq_true_iff.mp hc
        have e1 := ck_ent_ok (ck_hF H) c1
        have e2 := ck_ent_ok (ck_hF H) c2
        have e3 := ck_ent_ok (ck_hF H) c3
        have e4 := ck_ent_ok (ck_hF H) c4
        rw [ck_sub_ev, ck_c_ev] at e2 e4
        have t := cn_or (x := x) (y := y) (Nat.le_of_ble_eq_true h31) (by omega) (by omega) (by omega) (by omega)
        exact ck_nwIP h k H hK (ck_b2_ok t.1 t.2) (ck_orn_ok hwa hwb hx hy)
      · cases h
theorem ck_const {b : ck_L} (h : b.2.isEmpty = true) : ck_ev σ b = b.1 := by
  have : b.2 = [] := List.isEmpty_iff.mp h
  show b.1 + ck_ts σ b.2 = b.1
  rw [this]; exact Int.add_zero _
theorem ck_shl_ok {a b : ck_L} {x y : Int32} (h : ck_shl pc S K a b its = some (su, r)) (k : ∀ q ∈ su, ck_Pr l D kp G cs ss m0 σ0 E0 mods q.1 q.2) (H : ck_H m0 σ0 E0 mods σ S E lv st) (hK : ck_rs σ S.1 K st') (hwa : ck_w S.1 a) (hwb : ck_w S.1 b) (hx : x.toInt = ck_ev σ a) (hy : y.toInt = ck_ev σ b) : jv_V l D vwCl kp G cs ss 84 E pc lv (.int (x <<< (y &&& 31)) :: st') := by
  unfold ck_shl at h
  split at h
  · rename_i hc
    obtain ⟨hb, hc⟩ := Bool.and_eq_true_iff.mp hc
    obtain ⟨c1, c2⟩ := Bool.and_eq_true_iff.mp hc
    have c1 := of_decide_eq_true c1
    have c2 := of_decide_eq_true c2
    rw [ck_const hb] at hy
    obtain ⟨n, hn, rfl, hyn⟩ := cn_nat (x := y) (by omega)
    have en : b.1.toNat = n := by omega
    refine ck_ari_ok h k H hK (ck_w_mul hwa) ?_
    rw [cn_shl (by omega), ck_mul_ev, en, hx]
  · cases its with
    | nil => cases h
    | cons it r0 =>
      dsimp only at h
      split at h
      · exact ck_nwIP h k H hK ck_topI (ck_shn_ok hwa hwb hx hy)
      · split at h
        · rename_i h0 hc
          obtain ⟨h31, hc⟩ := Bool.and_eq_true_iff.mp hc
          obtain ⟨hc, c3⟩ := Bool.and_eq_true_iff.mp hc
          obtain ⟨c1, c2⟩ := Bool.and_eq_true_iff.mp hc
          have c1 := of_decide_eq_true c1
          have e2 := ck_ent_ok (ck_hF H) c2
          have e3 := ck_ent_ok (ck_hF H) c3
          rw [ck_sub_ev, ck_c_ev] at e3
          have h31 := Nat.le_of_ble_eq_true h31
          subst c1
          have hx1 : x = 1 := Int32.toInt_inj.mp (by rw [hx]; rfl)
          subst hx1
          obtain ⟨n, hn, rfl, hyn⟩ := cn_nat (x := y) (by omega)
          have hn2 : n ≤ ck_nr it 0 - 1 := by omega
          have t := cn_pw n (by omega)
          refine ck_nwIP h k H hK (ck_b2_ok ?_ ?_) (ck_shn_ok hwa hwb hx hy)
          · rw [t]
            have : (0 : Int) < 2 ^ n := Int.pow_pos (by decide)
            omega
          · rw [t]
            have hp : ((2 ^ n : Nat) : Int) ≤ ((2 ^ (ck_nr it 0 - 1) : Nat) : Int) := Int.ofNat_le.mpr (Nat.pow_le_pow_right (by decide) hn2)
            rw [Int.natCast_pow, Int.natCast_pow] at hp
            exact hp
        · cases h
theorem ck_shr_ok {a b : ck_L} {x y : Int32} (h : ck_shr pc S K a b its = some (su, r)) (k : ∀ q ∈ su, ck_Pr l D kp G cs ss m0 σ0 E0 mods q.1 q.2) (H : ck_H m0 σ0 E0 mods σ S E lv st) (hK : ck_rs σ S.1 K st') (hwa : ck_w S.1 a) (hx : x.toInt = ck_ev σ a) (hy : y.toInt = ck_ev σ b) : jv_V l D vwCl kp G cs ss 84 E pc lv (.int (x >>> (y &&& 31)) :: st') := by
  unfold ck_shr at h
  split at h
  · rename_i hc
    obtain ⟨hb, hc⟩ := Bool.and_eq_true_iff.mp hc
    obtain ⟨c1, c2⟩ := Bool.and_eq_true_iff.mp hc
    have c1 := of_decide_eq_true c1
    have c2 := of_decide_eq_true c2
    rw [ck_const hb] at hy
    obtain ⟨n, hn, rfl, hyn⟩ := cn_nat (x := y) (by omega)
    have en : b.1.toNat = n := by omega
    have t := cn_shr (x := x) (c := n) (by omega)
    rw [en] at h
    have hp : (0 : Int) < 2 ^ n := Int.pow_pos (by decide)
    have h2 := Int.mul_ediv_add_emod x.toInt (2 ^ n)
    have h3 := Int.emod_nonneg x.toInt (show (2 : Int) ^ n ≠ 0 by omega)
    have h4 := Int.emod_lt_of_pos x.toInt hp
    rw [← t] at h2
    exact ck_nwI h k H hK (ck_2 (ck_p3 hwa (by omega)) (ck_p4 hwa (by omega)))
  · cases its with
    | nil => cases h
    | cons it r0 =>
      dsimp only at h
      split at h
      · exact ck_nwI h k H hK ck_topI
      · split at h
        · rename_i hb
          have e := ck_ent_ok (ck_hF H) hb
          have t := cn_shr0 (x := x) (y := y) (by omega)
          exact ck_nwI h k H hK (ck_2 (ck_p0 t.1) (ck_p1 hwa (by omega)))
        · cases h
theorem ck_xor_ok {a b : ck_L} {x y : Int32} (h : ck_xor pc S K a b its = some (su, r)) (k : ∀ q ∈ su, ck_Pr l D kp G cs ss m0 σ0 E0 mods q.1 q.2) (H : ck_H m0 σ0 E0 mods σ S E lv st) (hK : ck_rs σ S.1 K st') (hx : x.toInt = ck_ev σ a) (hy : y.toInt = ck_ev σ b) : jv_V l D vwCl kp G cs ss 84 E pc lv (.int (x ^^^ y) :: st') := by
  cases its with
  | nil => cases h
  | cons it r0 =>
    unfold ck_xor at h
    dsimp only at h
    split at h
    · exact ck_nwI h k H hK ck_topI
    · split at h
      · rename_i hb
        have e := ck_ent_ok (ck_hF H) hb
        have t := cn_xor (x := x) (y := y) (by rw [hy]; exact e)
        split at h
        · split at h
          · rename_i ha
            have e2 := ck_ent_ok (ck_hF H) ha
            exact ck_nwI h k H hK (ck_b2_ok (Int.not_lt.mp (fun q => by have := t.mp q; omega)) (cn_hi _))
          · cases h
        · split at h
          · rename_i ha
            have e2 := ck_ent_ok (ck_hF H) ha
            rw [ck_ac_ev, ck_mul_ev] at e2
            have t2 := t.mpr (by omega)
            exact ck_nwI h k H hK (ck_b2_ok (cn_lo _) (by omega))
          · cases h
      · cases h
/-! branches -/
theorem ck_fc_ok {c n : Nat} {d : ck_L} (hw : ck_w n d) (h : ck_cd c (ck_ev σ d)) : ∀ f ∈ ck_fc c d, ck_w n f ∧ 0 ≤ ck_ev σ f := by
  unfold ck_fc
  unfold ck_cd at h
  split at h
  · exact ck_2 ⟨hw, by omega⟩ ⟨ck_w_mul hw, by rw [ck_mul_ev]; omega⟩
  · intro f hf; exact absurd hf List.not_mem_nil
  · exact ck_1 ⟨ck_w_ac (ck_w_mul hw), by rw [ck_ac_ev, ck_mul_ev]; omega⟩
  · exact ck_1 ⟨hw, h⟩
  · exact ck_1 ⟨ck_w_ac hw, by rw [ck_ac_ev]; omega⟩
  · exact ck_1 ⟨ck_w_mul hw, by rw [ck_mul_ev]; omega⟩
theorem ck_side_ok {c md : Nat} {d : ck_L} {kk : ck_K} {a : Option (List ck_L)} (h : ck_side S.2.1 c d md kk = some a) (k : ∀ q ∈ ck_lst a pc S K, ck_Pr l D kp G cs ss m0 σ0 E0 mods q.1 q.2) (H : ck_H m0 σ0 E0 mods σ S E lv st) (hK : ck_rs σ S.1 K st') (hw : ck_w S.1 d) (hc : ck_cd c (ck_ev σ d)) : jv_V l D vwCl kp G cs ss 84 E pc lv st' := by
  unfold ck_side at h
  split at h
  · cases h
    exact k _ List.mem_cons_self _ _ _ _ (ck_H_fct H (ck_fc_ok hw hc) hK)
  · split at h
    · rename_i he
      exfalso
      have hh : ck_hs σ (ck_fc c d ++ S.2.1) := fun f hf => (List.mem_append.mp hf).elim (fun q => (ck_fc_ok hw hc f q).2) (ck_hF H f)
      have := ck_ent_ok hh he
      rw [ck_c_ev] at this
      omega
    · cases h
  · split at h
    · rename_i he
      obtain ⟨rfl, he⟩ := he
      cases h
      have e := ck_ent_ok (ck_hF H) he
      have hc : ¬ ck_ev σ d = 0 := hc
      exact k _ List.mem_cons_self _ _ _ _ (ck_H_fct H (ck_1 ⟨ck_w_ac hw, by rw [ck_ac_ev]; omega⟩) hK)
    · cases h
  · split at h
    · rename_i he
      obtain ⟨rfl, he⟩ := he
      cases h
      have e := ck_ent_ok (ck_hF H) he
      rw [ck_mul_ev] at e
      have hc : ¬ ck_ev σ d = 0 := hc
      exact k _ List.mem_cons_self _ _ _ _ (ck_H_fct H (ck_1 ⟨ck_w_ac (ck_w_mul hw), by rw [ck_ac_ev, ck_mul_ev]; omega⟩) hK)
    · cases h
  · split at h
    · rename_i he
      obtain ⟨rfl, rfl⟩ := he
      exact absurd rfl hc
    · cases h
theorem ck_br_ok {c : Nat} {d : ck_L} {off : Int} (h : ck_br S K c d pc off its = some (su, r)) (k : ∀ q ∈ su, ck_Pr l D kp G cs ss m0 σ0 E0 mods q.1 q.2) (H : ck_H m0 σ0 E0 mods σ S E lv st) (hK : ck_rs σ S.1 K st') (hw : ck_w S.1 d) : ∃ tgt : Nat, (pc : Int) + off = (tgt : Int) ∧ (ck_cd c (ck_ev σ d) → jv_V l D vwCl kp G cs ss 84 E tgt lv st') ∧ (ck_cd (ck_ng c) (ck_ev σ d) → jv_V l D vwCl kp G cs ss 84 E (pc + 3) lv st') := by
  cases its with
  | nil => cases h
  | cons it r0 =>
    unfold ck_br at h
    dsimp only at h
    split at h
    · rename_i ho
      split at h
      · rename_i a b ha hb
        cases h
        refine ⟨((pc : Int) + off).toNat, (Int.toNat_of_nonneg ho).symm, fun hc => ?_, fun hc => ?_⟩
        · exact ck_side_ok ha (fun q hq => k q (List.mem_append_left _ hq)) H hK hw hc
        · exact ck_side_ok hb (fun q hq => k q (List.mem_append_right _ hq)) H hK hw hc
      · cases h
    · cases h
end CK5
