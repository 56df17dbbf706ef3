/-! THE CHECKER 6: cells read and written -/
def ck_dp (k : Nat) : Bool := k == 65 || (k == 67 || k == 70)
def ck_dif (a b : ck_L) : Bool := match ck_sub a b with
  | (c, []) => decide (¬ c = 0)
  | (_, _ :: _) => false
def ck_kill (k : Nat) (idx : ck_L) (P : List ck_P) : List ck_P := P.filter (fun p => if p.1 == k then ck_dif p.2.1 idx else !(ck_hit k p.1))
def ck_wr (S : ck_S) (K : List ck_V) (k : Nat) (idx a : ck_L) (Φ : List Nat) : ck_S := (S.1, S.2.1, S.2.2.1, K, (k, idx, a) :: ck_kill k idx S.2.2.2.2.1, Φ)
/-- a number read: 0: a new unknown within bounds, its place kept; else the place that is kept at that number -/
def ck_ldn (lng : Bool) (pc : Nat) (S : ck_S) (K : List ck_V) (k : Nat) (idx : ck_L) (b : Int × Int) (its : List ck_I) : ck_R := match its with
  | [] => none
  | it :: r => if ck_nr it 0 = 0 then ck_nw lng pc S K (ck_b2 S.1 b.1 b.2) [(k, idx, ck_x S.1)] r
    else match S.2.2.2.2.1[ck_nr it 1]? with
      | some p => if p.1 = k ∧ p.2.1 = idx then some ([(pc, ck_stk S ((if lng then ck_jv p.2.2 else ck_iv p.2.2) :: K))], r) else none
      | none => none
def ck_get (q : Nat × Nat × Nat) (pc : Nat) (S : ck_S) (K : List ck_V) (k : Nat) (its : List ck_I) : ck_R := match ck_CT[k]? with
  | some (.inl ob) => if ob.1 = q.1 then
      match ob.2[q.2.1]? with
      | some (.inl b) => ck_ldn false (pc + 3) S K k (ck_c q.2.1) b its
      | some (.inr (.inl b)) => ck_ldn true (pc + 3) S K k (ck_c q.2.1) b its
      | some (.inr (.inr x)) => some ([(pc + 3, ck_stk S (ck_rv x :: K))], its)
      | none => none
    else none
  | _ => none
def ck_put (q : Nat × Nat × Nat) (mods : List Nat) (pc : Nat) (S : ck_S) (K : List ck_V) (k : Nat) (v : ck_V) (its : List ck_I) : ck_R := match its with
  | [] => none
  | it :: r => match ck_CT[k]? with
    | some (.inl ob) => if ob.1 = q.1 ∧ k ∈ mods ∧ ck_dp k = false then
        match ob.2[q.2.1]?, v with
        | some (.inl b), .inl (.inl a) => if (q.2.2 = 0 ∨ (q.2.2 = 1 ∧ b = (0, 1))) ∧ (ck_ent S.2.1 (ck_ac a (-b.1)) (ck_kr it 0) && ck_ent S.2.1 (ck_sub (ck_c b.2) a) (ck_kr it 1)) = true then some ([(pc + 3, ck_wr S K k (ck_c q.2.1) a S.2.2.2.2.2)], r) else none
        | some (.inr (.inl b)), .inl (.inr a) => if q.2.2 = 2 ∧ (ck_ent S.2.1 (ck_ac a (-b.1)) (ck_kr it 0) && ck_ent S.2.1 (ck_sub (ck_c b.2) a) (ck_kr it 1)) = true then some ([(pc + 3, ck_wr S K k (ck_c q.2.1) a S.2.2.2.2.2)], r) else none
        | _, _ => none
      else none
    | _ => none
/-- the bounds of an array at a place -/
def ck_abd (B : List (Int × Int)) (idx : ck_L) : Option (Int × Int) := match B with
  | [b] => some b
  | _ => if idx.2.all (fun q => q.2 % (B.length : Int) == 0) then B[(idx.1 % (B.length : Int)).toNat]? else none
def ck_hul : List (Int × Int) → Int × Int
  | [] => (0, 0)
  | [b] => b
  | b :: t => (min b.1 (ck_hul t).1, max b.2 (ck_hul t).2)
/-- the bounds of what is read there: of the place, or of all -/
def ck_abl (B : List (Int × Int)) (idx : ck_L) : Int × Int := match ck_abd B idx with
  | some b => b
  | none => ck_hul B
/-- what a flag and a place of roofs or letters say of a row's length -/
def ck_cnd (S : ck_S) (k : Nat) (idx : ck_L) (it : ck_I) (f : Nat) : Bool :=
  ((k == 67 && Nat.blt f 20) && S.2.2.2.2.2.contains f) && ((ck_ent S.2.1 (ck_ac idx (-(6 * ((f : Int) % 10)))) (ck_kr it 2) && ck_ent S.2.1 (ck_sub (ck_c (6 * ((f : Int) % 10) + 5)) idx) (ck_kr it 3)) &&
    (Nat.ble 10 f || match S.2.2.2.2.1[ck_nr it 3]? with
      | some p => ((p.1 == 65 && decide (p.2.1 = (((f : Int) % 10), []))) || (p.1 == 70 && decide (p.2.1 = ((2 * ((f : Int) % 10) + 1), [])))) && ck_ent S.2.1 (ck_ac p.2.2 (-1)) (ck_kr it 4)
      | none => false))
def ck_ald (t : Nat) (pc : Nat) (S : ck_S) (K : List ck_V) (k : Nat) (idx : ck_L) (its : List ck_I) : ck_R := match its with
  | [] => none
  | it :: r => match ck_CT[k]? with
    | some (.inr (.inl a)) => if (a.1 = t ∨ (t = 1 ∧ a.1 = 2)) ∧ (ck_ent S.2.1 idx (ck_kr it 0) && ck_ent S.2.1 (ck_sub (ck_c ((a.2.1 : Int) - 1)) idx) (ck_kr it 1)) = true then
        if ck_nr it 2 = 0 then ck_ldn (t == 3) (pc + 1) S K k idx (ck_abl a.2.2 idx) (it :: r)
        else if ck_cnd S k idx it (ck_nr it 2 - 1) then ck_ldn (t == 3) (pc + 1) S K k idx (1, (ck_abl a.2.2 idx).2) (it :: r) else none
      else none
    | _ => none
def ck_kpf (Φ : List Nat) (k : Nat) (idx : ck_L) (v1 : Bool) (f : Nat) : Bool :=
  if k = 67 then v1 || (Nat.blt f 20 && (idx.2.isEmpty && (decide (idx.1 < 6 * ((f : Int) % 10)) || decide (6 * ((f : Int) % 10) + 5 < idx.1))))
  else if k = 65 then (Nat.ble 10 f || ((idx.2.isEmpty && decide (¬ idx.1 = (f : Int))) || Φ.contains (10 + f)))
  else if k = 70 then (Nat.ble 10 f || ((idx.2.isEmpty && decide (¬ idx.1 = 2 * (f : Int) + 1)) || Φ.contains (10 + f)))
  else true
def ck_ast (t : Nat) (mods : List Nat) (pc : Nat) (S : ck_S) (K : List ck_V) (k : Nat) (idx v : ck_L) (its : List ck_I) : ck_R := match its with
  | [] => none
  | it :: r => match ck_CT[k]? with
    | some (.inr (.inl a)) => if (a.1 = t ∧ k ∈ mods) ∧ (ck_ent S.2.1 idx (ck_kr it 0) && ck_ent S.2.1 (ck_sub (ck_c ((a.2.1 : Int) - 1)) idx) (ck_kr it 1)) = true then
        match ck_abd a.2.2 idx with
        | some b => if (ck_ent S.2.1 (ck_ac v (-b.1)) (ck_kr it 2) && ck_ent S.2.1 (ck_sub (ck_c b.2) v) (ck_kr it 3)) = true then
            some ([(pc + 1, ck_wr S K k idx v (S.2.2.2.2.2.filter (ck_kpf S.2.2.2.2.2 k idx (ck_ent S.2.1 (ck_ac v (-1)) (ck_kr it 4)))))], r) else none
        | none => none
      else none
    | _ => none
def ck_bst (mods : List Nat) (pc : Nat) (S : ck_S) (K : List ck_V) (k : Nat) (idx : ck_L) (its : List ck_I) : ck_R := match its with
  | [] => none
  | it :: r => match ck_CT[k]? with
    | some (.inr (.inl a)) => if ((a.1 = 1 ∧ a.2.2 = [(-128, 127)]) ∨ (a.1 = 2 ∧ a.2.2 = [(0, 1)])) ∧ (k ∈ mods ∧ ck_dp k = false) ∧ (ck_ent S.2.1 idx (ck_kr it 0) && ck_ent S.2.1 (ck_sub (ck_c ((a.2.1 : Int) - 1)) idx) (ck_kr it 1)) = true then
        some ([(pc + 1, (S.1, S.2.1, S.2.2.1, K, S.2.2.2.2.1.filter (fun p => !(ck_hit k p.1)), S.2.2.2.2.2))], r)
      else none
    | _ => none
section CK6
variable {σ : Nat → Int} {n : Nat} {E : Nat → jv_E}
theorem ck_FL_dep {f : Nat} {E E' : Nat → jv_E} (h1 : E' 65 = E 65) (h2 : E' 67 = E 67) (h3 : E' 70 = E 70) (h : ck_FL f E) : ck_FL f E' := by
  unfold ck_FL at h ⊢
  rw [h1, h2, h3]
  exact h
theorem ck_gf_up {Φ : List Nat} {k : Nat} {e : jv_E} (hk : ck_dp k = false) (h : ck_gf Φ E) : ck_gf Φ (va_up E k e) := fun f hf => by
  have h1 : ¬ k = 65 := fun q => by subst q; cases hk
  have h2 : ¬ k = 67 := fun q => by subst q; cases hk
  have h3 : ¬ k = 70 := fun q => by subst q; cases hk
  exact ck_FL_dep (va_up_ne _ _ (Ne.symm h1)) (va_up_ne _ _ (Ne.symm h2)) (va_up_ne _ _ (Ne.symm h3)) (h f hf)
theorem ck_dif_ok {a b : ck_L} (h : ck_dif a b = true) : ¬ ck_ev σ a = ck_ev σ b := by
  unfold ck_dif at h
  have e : ck_ev σ (ck_sub a b) = ck_ev σ a - ck_ev σ b := ck_sub_ev a b
  revert h e
  generalize ck_sub a b = q
  intro h e
  obtain ⟨c, t⟩ := q
  cases t with
  | cons x t => cases h
  | nil =>
    have hc : ¬ c = 0 := of_decide_eq_true h
    have e2 : ck_ev σ (c, []) = c := Int.add_zero c
    rw [e2] at e
    omega
theorem ck_gp_wr {P : List ck_P} {k : Nat} {e' : jv_E} {idx a : ck_L} (hk84 : k < 84) (hP : ck_gp σ n P E) (hi : ck_w n idx) (ha : ck_w n a) (h0 : 0 ≤ ck_ev σ idx) (h1 : ck_loc e' (ck_ev σ idx) = ck_ev σ a) (h2 : ∀ j, 0 ≤ j → ¬ j = ck_ev σ idx → ck_loc e' j = ck_loc (E k) j) : ck_gp σ n ((k, idx, a) :: ck_kill k idx P) (va_up E k e') := fun p hp => by
  rcases List.mem_cons.mp hp with rfl | hp
  · refine ⟨⟨hi, ha⟩, h0, ?_⟩
    show ck_lk (va_up E k e') k _ = _
    rw [ck_lk_c hk84, va_up_self]; exact h1
  · obtain ⟨hm, hf⟩ := List.mem_filter.mp hp
    obtain ⟨hw, hp0, hl⟩ := hP p hm
    refine ⟨hw, hp0, ?_⟩
    by_cases hk : p.1 = k
    · have hd : ck_dif p.2.1 idx = true := by
        rw [hk] at hf
        simpa using hf
      rw [hk, ck_lk_c hk84] at hl
      rw [hk, ck_lk_c hk84, va_up_self, h2 _ hp0 (ck_dif_ok hd)]
      exact hl
    · have hh : ck_hit k p.1 = false := by
        rw [if_neg (by simpa using hk)] at hf
        simpa using hf
      rw [ck_lk_up hh]; exact hl
theorem ck_gp_no {P : List ck_P} {k : Nat} {e' : jv_E} (hP : ck_gp σ n P E) : ck_gp σ n (P.filter (fun p => !(ck_hit k p.1))) (va_up E k e') := fun p hp => by
  obtain ⟨hm, hf⟩ := List.mem_filter.mp hp
  have hh : ck_hit k p.1 = false := by simpa using hf
  rw [ck_lk_up hh]
  exact hP p hm
theorem ck_loc_obj {ci fk : Nat} {fs : List Value} {v : Value} {j : Int} (hj : 0 ≤ j) (hn : ¬ j = (fk : Int)) : ck_loc (.inr (ci, fs.set fk v)) j = ck_loc (.inr (ci, fs)) j := by
  have : ¬ fk = j.toNat := by omega
  unfold ck_loc
  dsimp only
  rw [List.getElem?_set_ne this]
theorem ck_loc_oI {ci fk : Nat} {fs : List Value} {x : Int32} (h : fk < fs.length) : ck_loc (.inr (ci, fs.set fk (.int x))) (fk : Int) = x.toInt := by
  unfold ck_loc
  dsimp only
  rw [Int.toNat_natCast, List.getElem?_set_self h]
theorem ck_loc_oJ {ci fk : Nat} {fs : List Value} {x : Int64} (h : fk < fs.length) : ck_loc (.inr (ci, fs.set fk (.long x))) (fk : Int) = x.toInt := by
  unfold ck_loc
  dsimp only
  rw [Int.toNat_natCast, List.getElem?_set_self h]
theorem ck_loc_gI {ci fk : Nat} {fs : List Value} {x : Int32} (h : fs[fk]? = some (.int x)) : ck_loc (.inr (ci, fs)) (fk : Int) = x.toInt := by
  unfold ck_loc
  dsimp only
  rw [Int.toNat_natCast, h]
theorem ck_loc_gJ {ci fk : Nat} {fs : List Value} {x : Int64} (h : fs[fk]? = some (.long x)) : ck_loc (.inr (ci, fs)) (fk : Int) = x.toInt := by
  unfold ck_loc
  dsimp only
  rw [Int.toNat_natCast, h]
theorem ck_ts_div {m : Int} {t : List (Nat × Int)} (h : t.all (fun q => q.2 % m == 0) = true) : ∃ q : Int, ck_ts σ t = m * q := by
  induction t with
  | nil => exact ⟨0, (Int.mul_zero m).symm⟩
  | cons a t ih =>
    rw [List.all_cons, Bool.and_eq_true_iff] at h
    obtain ⟨q, hq⟩ := ih h.2
    have h1 : a.2 % m = 0 := by simpa using h.1
    obtain ⟨c, hc⟩ := Int.dvd_of_emod_eq_zero h1
    refine ⟨c * σ a.1 + q, ?_⟩
    show a.2 * σ a.1 + ck_ts σ t = _
    rw [hq, hc, Int.mul_add, Int.mul_assoc]
theorem ck_abd_ok {B : List (Int × Int)} {idx : ck_L} {b : Int × Int} (h : ck_abd B idx = some b) (h0 : 0 ≤ ck_ev σ idx) : ck_bd B (ck_ev σ idx).toNat = b := by
  unfold ck_abd at h
  split at h
  · cases h
    unfold ck_bd
    rw [show [b].length = 1 from rfl, Nat.mod_one]
    rfl
  · split at h
    · rename_i ha
      obtain ⟨q, hq⟩ := ck_ts_div (σ := σ) ha
      have hlen : 0 < B.length := by
        cases B with
        | nil => simp at h
        | cons x t => exact Nat.succ_pos _
      have e1 : ck_ev σ idx = idx.1 + (B.length : Int) * q := by
        show idx.1 + ck_ts σ idx.2 = _
        rw [hq]
      have e2 : ck_ev σ idx % (B.length : Int) = idx.1 % (B.length : Int) := by
        rw [e1, Int.add_mul_emod_self_left]
      have e3 : (ck_ev σ idx).toNat % B.length = (idx.1 % (B.length : Int)).toNat := by
        have h5 : (((ck_ev σ idx).toNat % B.length : Nat) : Int) = ck_ev σ idx % (B.length : Int) := by
          rw [Int.natCast_emod, Int.toNat_of_nonneg h0]
        rw [← e2, ← h5, Int.toNat_natCast]
      unfold ck_bd
      rw [e3, List.getD_eq_getElem?_getD, h]
      rfl
    · cases h
theorem ck_hul_ok : ∀ {B : List (Int × Int)} {b : Int × Int}, b ∈ B → (ck_hul B).1 ≤ b.1 ∧ b.2 ≤ (ck_hul B).2
  | [], _, h => absurd h List.not_mem_nil
  | [a], b, h => by rw [List.mem_singleton.mp h]; exact ⟨Int.le_refl _, Int.le_refl _⟩
  | a :: c :: t, b, h => by
    show min a.1 (ck_hul (c :: t)).1 ≤ b.1 ∧ b.2 ≤ max a.2 (ck_hul (c :: t)).2
    rcases List.mem_cons.mp h with rfl | h
    · omega
    · have := ck_hul_ok h; omega
theorem ck_bd_mem {B : List (Int × Int)} (h : 0 < B.length) (i : Nat) : ck_bd B i ∈ B := by
  unfold ck_bd
  rw [List.getD_eq_getElem?_getD, List.getElem?_eq_getElem (Nat.mod_lt i h)]
  exact List.getElem_mem _
theorem ck_abl_ok {B : List (Int × Int)} {idx : ck_L} (h0 : 0 ≤ ck_ev σ idx) : (ck_abl B idx).1 ≤ (ck_bd B (ck_ev σ idx).toNat).1 ∧ (ck_bd B (ck_ev σ idx).toNat).2 ≤ (ck_abl B idx).2 := by
  unfold ck_abl
  split
  · rename_i b hb
    rw [ck_abd_ok hb h0]; exact ⟨Int.le_refl _, Int.le_refl _⟩
  · by_cases hB : 0 < B.length
    · exact ck_hul_ok (ck_bd_mem hB _)
    · cases B with
      | nil => exact ⟨Int.le_refl _, Int.le_refl _⟩
      | cons a t => exact absurd (Nat.succ_pos _) hB
/-- flags behind a store of rows' lengths, roofs, letters -/
theorem ck_kpf_ok {Φ : List Nat} {k : Nat} {idx a : ck_L} {e' : jv_E} {v1 : Bool} (hΦ : ck_gf Φ E) (h0 : 0 ≤ ck_ev σ idx) (hv : v1 = true → 1 ≤ ck_ev σ a) (h1 : ck_loc e' (ck_ev σ idx) = ck_ev σ a) (h2 : ∀ j, 0 ≤ j → ¬ j = ck_ev σ idx → ck_loc e' j = ck_loc (E k) j) : ck_gf (Φ.filter (ck_kpf Φ k idx v1)) (va_up E k e') := fun f hf => by
  obtain ⟨hm, hk⟩ := List.mem_filter.mp hf
  have hF := hΦ f hm
  unfold ck_kpf at hk
  by_cases h67 : k = 67
  · rw [if_pos h67] at hk
    subst h67
    have key : ∀ j, 0 ≤ j → (f < 20 → 6 * ((f : Int) % 10) ≤ j ∧ j ≤ 6 * ((f : Int) % 10) + 5) → 1 ≤ ck_loc (E 67) j → 1 ≤ ck_loc (va_up E 67 e' 67) j := fun j hj hr h => by
      rw [va_up_self]
      by_cases hj2 : j = ck_ev σ idx
      · rw [Bool.or_eq_true] at hk
        rcases hk with hk | hk
        · rw [hj2, h1]; exact hv hk
        · exfalso
          obtain ⟨q1, q2⟩ := Bool.and_eq_true_iff.mp hk
          obtain ⟨q2, q3⟩ := Bool.and_eq_true_iff.mp q2
          have q1 : f < 20 := Nat.lt_of_lt_of_le (Nat.lt_succ_self _) (Nat.le_of_ble_eq_true q1)
          have hr := hr q1
          rw [hj2, ck_const q2] at hr
          rw [Bool.or_eq_true] at q3
          rcases q3 with q3 | q3
          · have := of_decide_eq_true q3; omega
          · have := of_decide_eq_true q3; omega
      · rw [h2 j hj hj2]; exact h
    unfold ck_FL at hF ⊢
    rw [va_up_ne (k := 67) E e' (show ¬ 65 = 67 by decide), va_up_ne (k := 67) E e' (show ¬ 70 = 67 by decide)]
    split at hF
    · rename_i h10
      rw [if_pos h10]
      exact hF.imp id (fun h r r0 r6 => key _ (by omega) (fun _ => by omega) (h r r0 r6))
    · rename_i h10
      rw [if_neg h10]
      exact fun r r0 r6 => key _ (by omega) (fun _ => by omega) (hF r r0 r6)
  · rw [if_neg h67] at hk
    have e67 : va_up E k e' 67 = E 67 := va_up_ne _ _ (Ne.symm h67)
    by_cases h65 : k = 65
    · rw [if_pos h65] at hk
      subst h65
      have e70 : va_up E 65 e' 70 = E 70 := va_up_ne _ _ (by decide)
      unfold ck_FL at hF ⊢
      rw [e67, e70]
      by_cases h10 : f < 10
      · rw [if_pos h10] at hF ⊢
        rw [Bool.or_eq_true, Bool.or_eq_true] at hk
        rcases hk with hk | hk | hk
        · have := Nat.le_of_ble_eq_true hk; omega
        · obtain ⟨hi, hd⟩ := Bool.and_eq_true_iff.mp hk
          have hd := of_decide_eq_true hd
          refine hF.imp (fun h => ⟨?_, h.2⟩) id
          rw [va_up_self, h2 _ (by omega) (by rw [ck_const hi]; omega)]
          exact h.1
        · have hp := hΦ (10 + f) (by simpa using hk)
          unfold ck_FL at hp
          rw [if_neg (by omega)] at hp
          refine Or.inr (fun r r0 r6 => ?_)
          have := hp r r0 r6
          rw [show (6 * (((10 + f : Nat) : Int) - 10) + r) = 6 * (f : Int) + r by omega] at this
          exact this
      · rw [if_neg h10] at hF ⊢
        exact hF
    · rw [if_neg h65] at hk
      have e65 : va_up E k e' 65 = E 65 := va_up_ne _ _ (Ne.symm h65)
      by_cases h70 : k = 70
      · rw [if_pos h70] at hk
        subst h70
        unfold ck_FL at hF ⊢
        rw [e67, e65]
        by_cases h10 : f < 10
        · rw [if_pos h10] at hF ⊢
          rw [Bool.or_eq_true, Bool.or_eq_true] at hk
          rcases hk with hk | hk | hk
          · have := Nat.le_of_ble_eq_true hk; omega
          · obtain ⟨hi, hd⟩ := Bool.and_eq_true_iff.mp hk
            have hd := of_decide_eq_true hd
            refine hF.imp (fun h => ⟨h.1, ?_⟩) id
            rw [va_up_self, h2 _ (by omega) (by rw [ck_const hi]; omega)]
            exact h.2
          · have hp := hΦ (10 + f) (by simpa using hk)
            unfold ck_FL at hp
            rw [if_neg (by omega)] at hp
            refine Or.inr (fun r r0 r6 => ?_)
            have := hp r r0 r6
            rw [show (6 * (((10 + f : Nat) : Int) - 10) + r) = 6 * (f : Int) + r by omega] at this
            exact this
        · rw [if_neg h10] at hF ⊢
          exact hF
      · exact ck_FL_dep e65 e67 (va_up_ne _ _ (Ne.symm h70)) hF
end CK6
