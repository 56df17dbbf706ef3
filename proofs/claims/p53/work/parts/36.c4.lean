/-! THE CHECKER 4: one instruction.  An item of the script: numbers, weights (for ck_ent), forms.  A step gives the places and states that come behind, and the rest of the script -/
abbrev ck_I : Type := List Nat × List ck_K × List ck_L
abbrev ck_R : Type := Option (List (Nat × ck_S) × List ck_I)
def ck_kr (it : ck_I) (j : Nat) : ck_K := it.2.1.getD j (0, [])
def ck_nr (it : ck_I) (j : Nat) : Nat := it.1.getD j 0
def ck_iv (a : ck_L) : ck_V := .inl (.inl a)
def ck_jv (a : ck_L) : ck_V := .inl (.inr a)
def ck_rv (k : Nat) : ck_V := .inr (.inl (some k))
/-- the bounds of a new unknown -/
def ck_b2 (i : Nat) (lo hi : Int) : List ck_L := [(-lo, [(i, 1)]), (hi, [(i, -1)])]
def ck_tI (i : Nat) : List ck_L := ck_b2 i (-2147483648) 2147483647
def ck_tJ (i : Nat) : List ck_L := ck_b2 i (-9223372036854775808) 9223372036854775807
/-- a new unknown of which ex is known -/
def ck_nw (lng : Bool) (pc : Nat) (S : ck_S) (K : List ck_V) (ex : List ck_L) (P : List ck_P) (r : List ck_I) : ck_R := some ([(pc, ck_frs S ex ((if lng then ck_jv (ck_x S.1) else ck_iv (ck_x S.1)) :: K) P)], r)
/-- an int that is the form, where that is an int; else a new unknown -/
def ck_ari (pc : Nat) (S : ck_S) (K : List ck_V) (a : ck_L) (its : List ck_I) : ck_R := match its with
  | [] => none
  | it :: r => if ck_nr it 0 = 0 then
      if ck_ent S.2.1 (ck_ac a 2147483648) (ck_kr it 0) && ck_ent S.2.1 (ck_sub (ck_c 2147483647) a) (ck_kr it 1) then some ([(pc, ck_stk S (ck_iv a :: K))], r) else none
    else ck_nw false pc S K (ck_tI S.1) [] r
def ck_arj (pc : Nat) (S : ck_S) (K : List ck_V) (a : ck_L) (its : List ck_I) : ck_R := match its with
  | [] => none
  | it :: r => if ck_nr it 0 = 0 then
      if ck_ent S.2.1 (ck_ac a 9223372036854775808) (ck_kr it 0) && ck_ent S.2.1 (ck_sub (ck_c 9223372036854775807) a) (ck_kr it 1) then some ([(pc, ck_stk S (ck_jv a :: K))], r) else none
    else ck_nw true pc S K (ck_tJ S.1) [] r
def ck_rpn (lng : Bool) (S : ck_S) (a b : ck_L) : List ck_P := match lng with
  | true => [(207, ck_ac (ck_add (ck_mul 18446744073709551616 a) b) 170141183460469231731687303715884105728, ck_x S.1)]
  | false => [(201, ck_ac (ck_add (ck_mul 4294967296 a) b) 9223372036854775808, ck_x S.1)]
/-- division's rest, b at least 1: 0: of a number at least 0; 2: of one at most 0; 1: of any -/
def ck_rem (lng : Bool) (pc : Nat) (S : ck_S) (K : List ck_V) (a b : ck_L) (its : List ck_I) : ck_R := match its with
  | [] => none
  | it :: r => if ck_ent S.2.1 (ck_ac b (-1)) (ck_kr it 0) then
      if ck_nr it 0 = 0 then
        if ck_ent S.2.1 a (ck_kr it 1) then ck_nw lng pc S K [ck_x S.1, ck_sub (ck_ac b (-1)) (ck_x S.1), ck_sub a (ck_x S.1)] (ck_rpn lng S a b) r else none
      else if ck_nr it 0 = 2 then
        if ck_ent S.2.1 (ck_mul (-1) a) (ck_kr it 1) then ck_nw lng pc S K [ck_mul (-1) (ck_x S.1), ck_add (ck_ac b (-1)) (ck_x S.1)] (ck_rpn lng S a b) r else none
      else ck_nw lng pc S K [ck_add (ck_ac b (-1)) (ck_x S.1), ck_sub (ck_ac b (-1)) (ck_x S.1)] (ck_rpn lng S a b) r
    else none
/-- division: 0: of a number at least 0 by a number that is written; 1: of a number at least 0; 2: of any -/
def ck_div (lng : Bool) (pc : Nat) (S : ck_S) (K : List ck_V) (a b : ck_L) (its : List ck_I) : ck_R := match its with
  | [] => none
  | it :: r => if ck_ent S.2.1 (ck_ac b (-1)) (ck_kr it 0) then
      if ck_nr it 0 = 0 then
        if ck_ent S.2.1 a (ck_kr it 1) && b.2.isEmpty then ck_nw lng pc S K [ck_x S.1, ck_sub a (ck_mul b.1 (ck_x S.1)), ck_sub (ck_ac (ck_mul b.1 (ck_x S.1)) (b.1 - 1)) a] [] r else none
      else if ck_nr it 0 = 1 then
        if ck_ent S.2.1 a (ck_kr it 1) then ck_nw lng pc S K [ck_x S.1, ck_sub a (ck_x S.1)] [] r else none
      else ck_nw lng pc S K (if lng then ck_tJ S.1 else ck_tI S.1) [] r
    else none
def ck_and (pc : Nat) (S : ck_S) (K : List ck_V) (a b : ck_L) (its : List ck_I) : ck_R := match its with
  | [] => none
  | it :: r => if ck_nr it 0 = 0 then
      if ck_ent S.2.1 b (ck_kr it 0) then ck_nw false pc S K [ck_x S.1, ck_sub b (ck_x S.1)] [] r else none
    else if ck_nr it 0 = 1 then
      if ck_ent S.2.1 a (ck_kr it 0) then ck_nw false pc S K [ck_x S.1, ck_sub a (ck_x S.1)] [] r else none
    else ck_nw false pc S K (ck_tI S.1) [] r
def ck_opn (k : Nat) (S : ck_S) (a b : ck_L) : List ck_P := [(k, ck_ac (ck_add (ck_mul 4294967296 a) b) 9223372039002259456, ck_x S.1)]
/-- or: 0: of any; k+1: of numbers of at most k bits -/
def ck_or (pc : Nat) (S : ck_S) (K : List ck_V) (a b : ck_L) (its : List ck_I) : ck_R := match its with
  | [] => none
  | it :: r => if ck_nr it 0 = 0 then ck_nw false pc S K (ck_tI S.1) (ck_opn 205 S a b) r
    else if Nat.ble (ck_nr it 0) 31 && (ck_ent S.2.1 a (ck_kr it 0) && ck_ent S.2.1 (ck_sub (ck_c (2 ^ (ck_nr it 0) - 1)) a) (ck_kr it 1) && ck_ent S.2.1 b (ck_kr it 2) && ck_ent S.2.1 (ck_sub (ck_c (2 ^ (ck_nr it 0) - 1)) b) (ck_kr it 3)) then
      ck_nw false pc S K (ck_b2 S.1 0 (2 ^ (ck_nr it 0) - 1)) (ck_opn 205 S a b) r
    else none
/-- shift to the left: by a number that is written: 2^c times it; else 0: of any; k+1: 1 by 0 .. k -/
def ck_shl (pc : Nat) (S : ck_S) (K : List ck_V) (a b : ck_L) (its : List ck_I) : ck_R :=
  if b.2.isEmpty && (decide (0 ≤ b.1) && decide (b.1 < 32)) then ck_ari pc S K (ck_mul (2 ^ b.1.toNat) a) its
  else match its with
    | [] => none
    | it :: r => if ck_nr it 0 = 0 then ck_nw false pc S K (ck_tI S.1) (ck_opn 206 S a b) r
      else if Nat.ble (ck_nr it 0) 31 && (decide (a = (1, [])) && ck_ent S.2.1 b (ck_kr it 0) && ck_ent S.2.1 (ck_sub (ck_c ((ck_nr it 0 : Int) - 1)) b) (ck_kr it 1)) then
        ck_nw false pc S K (ck_b2 S.1 1 (2 ^ (ck_nr it 0 - 1))) (ck_opn 206 S a b) r
      else none
/-- shift to the right: by a number that is written; else 0: of any; 1: of a number at least 0 -/
def ck_shr (pc : Nat) (S : ck_S) (K : List ck_V) (a b : ck_L) (its : List ck_I) : ck_R :=
  if b.2.isEmpty && (decide (0 ≤ b.1) && decide (b.1 < 32)) then ck_nw false pc S K [ck_sub a (ck_mul (2 ^ b.1.toNat) (ck_x S.1)), ck_sub (ck_ac (ck_mul (2 ^ b.1.toNat) (ck_x S.1)) (2 ^ b.1.toNat - 1)) a] [] its
  else match its with
    | [] => none
    | it :: r => if ck_nr it 0 = 0 then ck_nw false pc S K (ck_tI S.1) [] r
      else if ck_ent S.2.1 a (ck_kr it 0) then ck_nw false pc S K [ck_x S.1, ck_sub a (ck_x S.1)] [] r
      else none
/-- exclusive or: 0: of any; b at least 0: 1: a at least 0; 2: a below 0 -/
def ck_xor (pc : Nat) (S : ck_S) (K : List ck_V) (a b : ck_L) (its : List ck_I) : ck_R := match its with
  | [] => none
  | it :: r => if ck_nr it 0 = 0 then ck_nw false pc S K (ck_tI S.1) [] r
    else if ck_ent S.2.1 b (ck_kr it 0) then
      if ck_nr it 0 = 1 then
        if ck_ent S.2.1 a (ck_kr it 1) then ck_nw false pc S K (ck_b2 S.1 0 2147483647) [] r else none
      else if ck_ent S.2.1 (ck_ac (ck_mul (-1) a) (-1)) (ck_kr it 1) then ck_nw false pc S K (ck_b2 S.1 (-2147483648) (-1)) [] r else none
    else none
/-! branches: 0 = 1 ≠ 2 < 3 ≥ 4 > 5 ≤ (the form beside 0) -/
def ck_ng (c : Nat) : Nat := match c with
  | 0 => 1
  | 1 => 0
  | 2 => 3
  | 3 => 2
  | 4 => 5
  | _ => 4
def ck_cd (c : Nat) (z : Int) : Prop := match c with
  | 0 => z = 0
  | 1 => ¬ z = 0
  | 2 => z < 0
  | 3 => 0 ≤ z
  | 4 => 0 < z
  | _ => z ≤ 0
def ck_fc (c : Nat) (d : ck_L) : List ck_L := match c with
  | 0 => [d, ck_mul (-1) d]
  | 1 => []
  | 2 => [ck_ac (ck_mul (-1) d) (-1)]
  | 3 => [d]
  | 4 => [ck_ac d (-1)]
  | _ => [ck_mul (-1) d]
/-- a side of a branch: 0: it goes on; 1: it can't be; of ≠: 2: above, 3: below, 4: it can't be (the form is 0) -/
def ck_side (F : List ck_L) (c : Nat) (d : ck_L) (md : Nat) (k : ck_K) : Option (Option (List ck_L)) := match md with
  | 0 => some (some (ck_fc c d))
  | 1 => if ck_ent (ck_fc c d ++ F) (ck_c (-1)) k then some none else none
  | 2 => if c = 1 ∧ ck_ent F d k = true then some (some [ck_ac d (-1)]) else none
  | 3 => if c = 1 ∧ ck_ent F (ck_mul (-1) d) k = true then some (some [ck_ac (ck_mul (-1) d) (-1)]) else none
  | _ => if c = 1 ∧ d = (0, []) then some none else none
def ck_lst (a : Option (List ck_L)) (pc : Nat) (S : ck_S) (K : List ck_V) : List (Nat × ck_S) := match a with
  | none => []
  | some ex => [(pc, ck_fct S ex K)]
def ck_br (S : ck_S) (K : List ck_V) (c : Nat) (d : ck_L) (pc : Nat) (off : Int) (its : List ck_I) : ck_R := match its with
  | [] => none
  | it :: r => if 0 ≤ (pc : Int) + off then
      match ck_side S.2.1 c d (ck_nr it 0) (ck_kr it 0), ck_side S.2.1 (ck_ng c) d (ck_nr it 1) (ck_kr it 1) with
      | some a, some b => some (ck_lst a ((pc : Int) + off).toNat S K ++ ck_lst b (pc + 3) S K, r)
      | _, _ => none
    else none
section CK4
variable {l : Launch} {D : va_G} {kp : Nat → ClassId} {G : jv_G} {cs ss : Nat} {m0 : Nat} {σ0 : Nat → Int} {E0 : Nat → jv_E} {mods : List Nat}
def ck_H (m0 : Nat) (σ0 : Nat → Int) (E0 : Nat → jv_E) (mods : List Nat) (σ : Nat → Int) (S : ck_S) (E : Nat → jv_E) (lv : List (Nat × Value)) (st : List Value) : Prop := m0 ≤ S.1 ∧ ck_ag m0 σ0 σ ∧ ck_g σ S E lv st ∧ ∀ k, k ∉ mods → E k = E0 k
def ck_Pr (l : Launch) (D : va_G) (kp : Nat → ClassId) (G : jv_G) (cs ss : Nat) (m0 : Nat) (σ0 : Nat → Int) (E0 : Nat → jv_E) (mods : List Nat) (pc : Nat) (S : ck_S) : Prop := ∀ (σ : Nat → Int) (E : Nat → jv_E) (lv : List (Nat × Value)) (st : List Value), ck_H m0 σ0 E0 mods σ S E lv st → jv_V l D vwCl kp G cs ss 84 E pc lv st
variable {σ : Nat → Int} {S : ck_S} {E : Nat → jv_E} {lv : List (Nat × Value)} {st st' : List Value} {K : List ck_V} {its r : List ck_I} {su : List (Nat × ck_S)} {pc : Nat}
theorem ck_H_stk (h : ck_H m0 σ0 E0 mods σ S E lv st) (hK : ck_rs σ S.1 K st') : ck_H m0 σ0 E0 mods σ (ck_stk S K) E lv st' := ⟨h.1, h.2.1, ck_g_stk h.2.2.1 hK, h.2.2.2⟩
theorem ck_H_sts {lv' : List (Nat × Value)} {L : List (Nat × ck_V)} (h : ck_H m0 σ0 E0 mods σ S E lv st) (hL : ck_rl σ S.1 L lv') (hK : ck_rs σ S.1 K st') : ck_H m0 σ0 E0 mods σ (ck_sts S L K) E lv' st' := ⟨h.1, h.2.1, ck_g_sts h.2.2.1 hL hK, h.2.2.2⟩
theorem ck_H_fct {ex : List ck_L} (h : ck_H m0 σ0 E0 mods σ S E lv st) (hex : ∀ f ∈ ex, ck_w S.1 f ∧ 0 ≤ ck_ev σ f) (hK : ck_rs σ S.1 K st') : ck_H m0 σ0 E0 mods σ (ck_fct S ex K) E lv st' := ⟨h.1, h.2.1, ck_g_fct h.2.2.1 hex hK, h.2.2.2⟩
theorem ck_H_frs {ex : List ck_L} {P : List ck_P} {z : Int} (h : ck_H m0 σ0 E0 mods σ S E lv st) (hex : ∀ f ∈ ex, ck_w (S.1 + 1) f ∧ 0 ≤ ck_ev (va_up σ S.1 z) f) (hK : ck_rs (va_up σ S.1 z) (S.1 + 1) K st') (hP : ck_gp (va_up σ S.1 z) (S.1 + 1) P E) : ck_H m0 σ0 E0 mods (va_up σ S.1 z) (ck_frs S ex K P) E lv st' := ⟨Nat.le_succ_of_le h.1, ck_ag_tr h.2.1 (ck_ag_up h.1), ck_g_frs h.2.2.1 hex hK hP, h.2.2.2⟩
theorem ck_up_x {z : Int} {n : Nat} : ck_ev (va_up σ n z) (ck_x n) = z := (ck_x_ev n).trans (va_up_self _ _ _)
theorem ck_up_a {z : Int} {n : Nat} {a : ck_L} (h : ck_w n a) : ck_ev (va_up σ n z) a = ck_ev σ a := ck_ev_ag (ck_ag_up (Nat.le_refl _)) h
theorem ck_up_K {z : Int} (h : ck_rs σ S.1 K st) : ck_rs (va_up σ S.1 z) (S.1 + 1) K st := ck_rs_up (Nat.le_succ _) (ck_ag_up (Nat.le_refl _)) h
theorem ck_b2_ok {n : Nat} {z lo hi : Int} (h1 : lo ≤ z) (h2 : z ≤ hi) : ∀ f ∈ ck_b2 n lo hi, ck_w (n + 1) f ∧ 0 ≤ ck_ev (va_up σ n z) f := by
  intro f hf
  rcases List.mem_cons.mp hf with rfl | hf
  · refine ⟨fun q hq => by rw [List.mem_singleton.mp hq]; exact Nat.lt_succ_self _, ?_⟩
    show 0 ≤ -lo + (1 * va_up σ n z n + 0)
    rw [va_up_self]; omega
  · rw [List.mem_singleton.mp hf]
    refine ⟨fun q hq => by rw [List.mem_singleton.mp hq]; exact Nat.lt_succ_self _, ?_⟩
    show 0 ≤ hi + (-1 * va_up σ n z n + 0)
    rw [va_up_self]; omega
theorem ck_no_P {E : Nat → jv_E} {n : Nat} : ck_gp σ n [] E := fun p hp => absurd hp List.not_mem_nil
/-- a new int -/
theorem ck_nwI {ex : List ck_L} {z : Int32} (h : ck_nw false pc S K ex [] its = some (su, r)) (k : ∀ q ∈ su, ck_Pr l D kp G cs ss m0 σ0 E0 mods q.1 q.2) (H : ck_H m0 σ0 E0 mods σ S E lv st) (hK : ck_rs σ S.1 K st') (hex : ∀ f ∈ ex, ck_w (S.1 + 1) f ∧ 0 ≤ ck_ev (va_up σ S.1 z.toInt) f) : jv_V l D vwCl kp G cs ss 84 E pc lv (.int z :: st') := by
  cases h
  exact k _ List.mem_cons_self _ _ _ _ (ck_H_frs H hex ⟨⟨ck_w_x (Nat.lt_succ_self _), z, rfl, ck_up_x.symm⟩, ck_up_K hK⟩ ck_no_P)
theorem ck_nwIP {ex : List ck_L} {P : List ck_P} {z : Int32} (h : ck_nw false pc S K ex P its = some (su, r)) (k : ∀ q ∈ su, ck_Pr l D kp G cs ss m0 σ0 E0 mods q.1 q.2) (H : ck_H m0 σ0 E0 mods σ S E lv st) (hK : ck_rs σ S.1 K st') (hex : ∀ f ∈ ex, ck_w (S.1 + 1) f ∧ 0 ≤ ck_ev (va_up σ S.1 z.toInt) f) (hP : ck_gp (va_up σ S.1 z.toInt) (S.1 + 1) P E) : jv_V l D vwCl kp G cs ss 84 E pc lv (.int z :: st') := by
  cases h
  exact k _ List.mem_cons_self _ _ _ _ (ck_H_frs H hex ⟨⟨ck_w_x (Nat.lt_succ_self _), z, rfl, ck_up_x.symm⟩, ck_up_K hK⟩ hP)
theorem ck_rpn_ok {a b : ck_L} {z : Int} (wa : ck_w S.1 a) (wb : ck_w S.1 b) (h1 : -2147483648 ≤ ck_ev σ a) (h2 : 1 ≤ ck_ev σ b) (h3 : ck_ev σ b ≤ 2147483647) (hz : z = (ck_ev σ a).tmod (ck_ev σ b)) : ck_gp (va_up σ S.1 z) (S.1 + 1) (ck_rpn false S a b) E := fun p hp => by
  have hp := List.mem_singleton.mp hp
  subst hp
  have ep : ck_ev (va_up σ S.1 z) (ck_ac (ck_add (ck_mul 4294967296 a) b) 9223372036854775808) = 4294967296 * ck_ev σ a + ck_ev σ b + 9223372036854775808 := by
    rw [ck_ac_ev, ck_add_ev, ck_mul_ev, ck_up_a wa, ck_up_a wb]
  refine ⟨⟨ck_w_ac (ck_w_add (ck_w_mul (ck_w_up (Nat.le_succ _) wa)) (ck_w_up (Nat.le_succ _) wb)), ck_w_x (Nat.lt_succ_self _)⟩, ?_, ?_⟩
  · show 0 ≤ ck_ev (va_up σ S.1 z) (ck_ac (ck_add (ck_mul 4294967296 a) b) 9223372036854775808)
    rw [ep]; omega
  · show ck_lk E 201 (ck_ev (va_up σ S.1 z) (ck_ac (ck_add (ck_mul 4294967296 a) b) 9223372036854775808)) = ck_ev (va_up σ S.1 z) (ck_x S.1)
    rw [ep, ck_up_x, ck_lk_v (by decide), hz]
    show ((4294967296 * ck_ev σ a + ck_ev σ b + 9223372036854775808) / 4294967296 - 2147483648).tmod ((4294967296 * ck_ev σ a + ck_ev σ b + 9223372036854775808) % 4294967296) = _
    have e1 : (4294967296 * ck_ev σ a + ck_ev σ b + 9223372036854775808) / 4294967296 - 2147483648 = ck_ev σ a := by omega
    have e2 : (4294967296 * ck_ev σ a + ck_ev σ b + 9223372036854775808) % 4294967296 = ck_ev σ b := by omega
    rw [e1, e2]
theorem ck_nwJP {ex : List ck_L} {P : List ck_P} {z : Int64} (h : ck_nw true pc S K ex P its = some (su, r)) (k : ∀ q ∈ su, ck_Pr l D kp G cs ss m0 σ0 E0 mods q.1 q.2) (H : ck_H m0 σ0 E0 mods σ S E lv st) (hK : ck_rs σ S.1 K st') (hex : ∀ f ∈ ex, ck_w (S.1 + 1) f ∧ 0 ≤ ck_ev (va_up σ S.1 z.toInt) f) (hP : ck_gp (va_up σ S.1 z.toInt) (S.1 + 1) P E) : jv_V l D vwCl kp G cs ss 84 E pc lv (.long z :: st') := by
  cases h
  exact k _ List.mem_cons_self _ _ _ _ (ck_H_frs H hex ⟨⟨ck_w_x (Nat.lt_succ_self _), z, rfl, ck_up_x.symm⟩, ck_up_K hK⟩ hP)
theorem ck_rpl_ok {a b : ck_L} {z : Int} (wa : ck_w S.1 a) (wb : ck_w S.1 b) (h1 : -9223372036854775808 ≤ ck_ev σ a) (h2 : 1 ≤ ck_ev σ b) (h3 : ck_ev σ b ≤ 9223372036854775807) (hz : z = (ck_ev σ a).tmod (ck_ev σ b)) : ck_gp (va_up σ S.1 z) (S.1 + 1) (ck_rpn true S a b) E := fun p hp => by
  have hp := List.mem_singleton.mp hp
  subst hp
  have ep : ck_ev (va_up σ S.1 z) (ck_ac (ck_add (ck_mul 18446744073709551616 a) b) 170141183460469231731687303715884105728) = 18446744073709551616 * ck_ev σ a + ck_ev σ b + 170141183460469231731687303715884105728 := by
    rw [ck_ac_ev, ck_add_ev, ck_mul_ev, ck_up_a wa, ck_up_a wb]
  refine ⟨⟨ck_w_ac (ck_w_add (ck_w_mul (ck_w_up (Nat.le_succ _) wa)) (ck_w_up (Nat.le_succ _) wb)), ck_w_x (Nat.lt_succ_self _)⟩, ?_, ?_⟩
  · show 0 ≤ ck_ev (va_up σ S.1 z) (ck_ac (ck_add (ck_mul 18446744073709551616 a) b) 170141183460469231731687303715884105728)
    rw [ep]; omega
  · show ck_lk E 207 (ck_ev (va_up σ S.1 z) (ck_ac (ck_add (ck_mul 18446744073709551616 a) b) 170141183460469231731687303715884105728)) = ck_ev (va_up σ S.1 z) (ck_x S.1)
    rw [ep, ck_up_x, ck_lk_v (by decide), hz]
    show ((18446744073709551616 * ck_ev σ a + ck_ev σ b + 170141183460469231731687303715884105728) / 18446744073709551616 - 9223372036854775808).tmod ((18446744073709551616 * ck_ev σ a + ck_ev σ b + 170141183460469231731687303715884105728) % 18446744073709551616) = _
    have e1 : (18446744073709551616 * ck_ev σ a + ck_ev σ b + 170141183460469231731687303715884105728) / 18446744073709551616 - 9223372036854775808 = ck_ev σ a := by omega
    have e2 : (18446744073709551616 * ck_ev σ a + ck_ev σ b + 170141183460469231731687303715884105728) % 18446744073709551616 = ck_ev σ b := by omega
    rw [e1, e2]
theorem ck_opn_ok {a b : ck_L} {x y z : Int32} {k : Nat} {f : Int → Int → Int} (hk : 84 ≤ k) (hv : ∀ p, ck_vl k E p = f (p / 4294967296 - 2147483648) (p % 4294967296 - 2147483648)) (wa : ck_w S.1 a) (wb : ck_w S.1 b) (hx : x.toInt = ck_ev σ a) (hy : y.toInt = ck_ev σ b) (hz : z.toInt = f x.toInt y.toInt) : ck_gp (va_up σ S.1 z.toInt) (S.1 + 1) (ck_opn k S a b) E := fun p hp => by
  have hp := List.mem_singleton.mp hp
  subst hp
  have b1 := cn_lo x
  have b3 := cn_lo y
  have b4 := cn_hi y
  have ep : ck_ev (va_up σ S.1 z.toInt) (ck_ac (ck_add (ck_mul 4294967296 a) b) 9223372039002259456) = 4294967296 * x.toInt + y.toInt + 9223372039002259456 := by
    rw [ck_ac_ev, ck_add_ev, ck_mul_ev, ck_up_a wa, ck_up_a wb, hx, hy]
  refine ⟨⟨ck_w_ac (ck_w_add (ck_w_mul (ck_w_up (Nat.le_succ _) wa)) (ck_w_up (Nat.le_succ _) wb)), ck_w_x (Nat.lt_succ_self _)⟩, ?_, ?_⟩
  · show 0 ≤ ck_ev (va_up σ S.1 z.toInt) (ck_ac (ck_add (ck_mul 4294967296 a) b) 9223372039002259456)
    rw [ep]; omega
  · show ck_lk E k (ck_ev (va_up σ S.1 z.toInt) (ck_ac (ck_add (ck_mul 4294967296 a) b) 9223372039002259456)) = ck_ev (va_up σ S.1 z.toInt) (ck_x S.1)
    rw [ep, ck_up_x, ck_lk_v hk, hv, hz]
    have e1 : (4294967296 * x.toInt + y.toInt + 9223372039002259456) / 4294967296 - 2147483648 = x.toInt := by omega
    have e2 : (4294967296 * x.toInt + y.toInt + 9223372039002259456) % 4294967296 - 2147483648 = y.toInt := by omega
    rw [e1, e2]
theorem cn_ofI (x : Int32) : Int32.ofInt x.toInt = x := by simp
theorem ck_orn_ok {a b : ck_L} {x y : Int32} (wa : ck_w S.1 a) (wb : ck_w S.1 b) (hx : x.toInt = ck_ev σ a) (hy : y.toInt = ck_ev σ b) : ck_gp (va_up σ S.1 (x ||| y).toInt) (S.1 + 1) (ck_opn 205 S a b) E := ck_opn_ok (f := vf_or) (by decide) (fun _ => rfl) wa wb hx hy (by unfold vf_or; rw [cn_ofI, cn_ofI])
theorem ck_shn_ok {a b : ck_L} {x y : Int32} (wa : ck_w S.1 a) (wb : ck_w S.1 b) (hx : x.toInt = ck_ev σ a) (hy : y.toInt = ck_ev σ b) : ck_gp (va_up σ S.1 (x <<< (y &&& 31)).toInt) (S.1 + 1) (ck_opn 206 S a b) E := ck_opn_ok (f := vf_sh) (by decide) (fun _ => rfl) wa wb hx hy (by unfold vf_sh; rw [cn_ofI, cn_ofI])
theorem ck_nwJ {ex : List ck_L} {z : Int64} (h : ck_nw true pc S K ex [] its = some (su, r)) (k : ∀ q ∈ su, ck_Pr l D kp G cs ss m0 σ0 E0 mods q.1 q.2) (H : ck_H m0 σ0 E0 mods σ S E lv st) (hK : ck_rs σ S.1 K st') (hex : ∀ f ∈ ex, ck_w (S.1 + 1) f ∧ 0 ≤ ck_ev (va_up σ S.1 z.toInt) f) : jv_V l D vwCl kp G cs ss 84 E pc lv (.long z :: st') := by
  cases h
  exact k _ List.mem_cons_self _ _ _ _ (ck_H_frs H hex ⟨⟨ck_w_x (Nat.lt_succ_self _), z, rfl, ck_up_x.symm⟩, ck_up_K hK⟩ ck_no_P)
theorem ck_topI {z : Int32} : ∀ f ∈ ck_tI S.1, ck_w (S.1 + 1) f ∧ 0 ≤ ck_ev (va_up σ S.1 z.toInt) f := ck_b2_ok (cn_lo z) (cn_hi z)
theorem ck_topJ {z : Int64} : ∀ f ∈ ck_tJ S.1, ck_w (S.1 + 1) f ∧ 0 ≤ ck_ev (va_up σ S.1 z.toInt) f := ck_b2_ok (cn_loL z) (cn_hiL z)
theorem ck_hF (H : ck_H m0 σ0 E0 mods σ S E lv st) : ck_hs σ S.2.1 := H.2.2.1.2.1.1
theorem ck_ari_ok {a : ck_L} {z : Int32} (h : ck_ari pc S K a its = some (su, r)) (k : ∀ q ∈ su, ck_Pr l D kp G cs ss m0 σ0 E0 mods q.1 q.2) (H : ck_H m0 σ0 E0 mods σ S E lv st) (hK : ck_rs σ S.1 K st') (hw : ck_w S.1 a) (hz : z.toInt = (ck_ev σ a).bmod (2 ^ 32)) : jv_V l D vwCl kp G cs ss 84 E pc lv (.int z :: st') := by
  cases its with
  | nil => cases h
  | cons it r0 =>
    unfold ck_ari at h
    dsimp only at h
    by_cases h0 : ck_nr it 0 = 0
    · rw [if_pos h0] at h
      split at h
      · rename_i hc
        obtain ⟨c1, c2⟩ := Bool.and_eq_true_iff.mp hc
        cases h
        have e1 := ck_ent_ok (ck_hF H) c1
        have e2 := ck_ent_ok (ck_hF H) c2
        rw [ck_ac_ev] at e1
        rw [ck_sub_ev, ck_c_ev] at e2
        exact k _ List.mem_cons_self _ _ _ _ (ck_H_stk H ⟨⟨hw, z, rfl, hz.trans (cn_in32 (by omega) (by omega))⟩, hK⟩)
      · cases h
    · rw [if_neg h0] at h
      exact ck_nwI h k H hK ck_topI
theorem ck_arj_ok {a : ck_L} {z : Int64} (h : ck_arj pc S K a its = some (su, r)) (k : ∀ q ∈ su, ck_Pr l D kp G cs ss m0 σ0 E0 mods q.1 q.2) (H : ck_H m0 σ0 E0 mods σ S E lv st) (hK : ck_rs σ S.1 K st') (hw : ck_w S.1 a) (hz : z.toInt = (ck_ev σ a).bmod (2 ^ 64)) : jv_V l D vwCl kp G cs ss 84 E pc lv (.long z :: st') := by
  cases its with
  | nil => cases h
  | cons it r0 =>
    unfold ck_arj at h
    dsimp only at h
    by_cases h0 : ck_nr it 0 = 0
    · rw [if_pos h0] at h
      split at h
      · rename_i hc
        obtain ⟨c1, c2⟩ := Bool.and_eq_true_iff.mp hc
        cases h
        have e1 := ck_ent_ok (ck_hF H) c1
        have e2 := ck_ent_ok (ck_hF H) c2
        rw [ck_ac_ev] at e1
        rw [ck_sub_ev, ck_c_ev] at e2
        exact k _ List.mem_cons_self _ _ _ _ (ck_H_stk H ⟨⟨hw, z, rfl, hz.trans (cn_in64 (by omega) (by omega))⟩, hK⟩)
      · cases h
    · rw [if_neg h0] at h
      exact ck_nwJ h k H hK ck_topJ
end CK4
