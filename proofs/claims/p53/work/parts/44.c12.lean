/-! THE CHECKER 12: calls over the machine, returns, edges, a method's whole walk -/
def ck_rtl (o i : Nat) : Option (Nat × Nat) := (ck_RT.find? (fun q => Nat.beq q.2.1 i && Nat.beq q.1 o)).map (fun q => q.2.2)
theorem ck_rtl_ok {o i : Nat} {q : Nat × Nat} (h : ck_rtl o i = some q) : ck_rok (o, i, q) := by
  unfold ck_rtl at h
  cases hf : ck_RT.find? (fun q => Nat.beq q.2.1 i && Nat.beq q.1 o) with
  | none => rw [hf] at h; cases h
  | some p =>
    rw [hf] at h
    have hp := List.find?_some hf
    obtain ⟨h1, h20⟩ := Bool.and_eq_true_iff.mp hp
    have h2 : p.2.1 = i := Nat.eq_of_beq_eq_true h1
    have h1 : p.1 = o := Nat.eq_of_beq_eq_true h20
    have h3 : p.2.2 = q := by cases h; rfl
    have := ck_RT_ok p (List.mem_of_find?_eq_some hf)
    rw [← h1, ← h2, ← h3]
    exact this
/-- a row copied within its bounds -/
def ck_cpy (fr lo : Nat) (mods : List Nat) (pc : Nat) (S : ck_S) (its : List ck_I) : ck_R := match S.2.2.2.1, its with
  | .inl (.inl n) :: .inl (.inl dp) :: .inr (.inl (some k1)) :: .inl (.inl sp) :: .inr (.inl (some k0)) :: K, it :: r => match ck_CT[k0]?, ck_CT[k1]? with
    | some (.inr (.inl a)), some (.inr (.inl b)) => if (a.1 = b.1 ∧ a.2.2 = b.2.2 ∧ k1 ∈ mods ∧ ck_dp k1 = false ∧ 1 ≤ fr ∧ (K.map ck_cat).sum + (nativeFrameWords "java/lang/System" "arraycopy" 5 + 11) ≤ lo) ∧ (a.1 = 0 ∨ a.1 = 3) ∧ (a.2.2.length = 1 ∨ sp = dp) ∧
        (ck_ent S.2.1 sp (ck_kr it 0) && ck_ent S.2.1 dp (ck_kr it 1) && ck_ent S.2.1 n (ck_kr it 2) && ck_ent S.2.1 (ck_sub (ck_c a.2.1) (ck_add sp n)) (ck_kr it 3) && ck_ent S.2.1 (ck_sub (ck_c b.2.1) (ck_add dp n)) (ck_kr it 4)) = true then
        some ([(pc + 3, (S.1, S.2.1, S.2.2.1, K, S.2.2.2.2.1.filter (fun p => !(ck_hit k1 p.1)), S.2.2.2.2.2))], r) else none
    | _, _ => none
  | _, _ => none
def ck_inv (Γ : List ck_N) (o fr lo : Nat) (mods : List Nat) (pc : Nat) (ins : Instr) (S : ck_S) (its : List ck_I) : ck_R := match ins with
  | .invokevirtual i => match ck_rtl o i with
    | some (0, mid) => ck_cal Γ fr lo mods pc mid true S its
    | some (4, mid) => match its with
      | it :: _ => match Γ[ck_nr it 0]? with
        | some e => match e.2.1.2.2.1 with
          | .inr (.inl (some k)) :: _ => if 1000001 ≤ k ∧ k < 1000016 then ck_cal Γ fr lo mods pc mid false S its else none
          | _ => none
        | none => none
      | [] => none
    | _ => none
  | .invokestatic i => match ck_rtl o i with
    | some (1, mid) => ck_cal Γ fr lo mods pc mid false S its
    | some (2, mid) => ck_cal Γ fr lo mods pc mid false S its
    | some (3, _) => ck_cpy fr lo mods pc S its
    | _ => none
  | _ => none
def ck_idn (n : Nat) : List ck_L := (List.range n).map ck_x
/-- an end: v is the answer -/
def ck_end (e : ck_N) (S : ck_S) (v : Option ck_V) (it : ck_I) : Bool := match e.2.2.1[ck_nr it 0]? with
  | none => false
  | some x => decide (it.2.2.length = x.1 ∧ it.2.2.take e.2.1.1 = ck_idn e.2.1.1 ∧ e.2.1.1 ≤ x.1 ∧ ck_eqO v (x.2.2.1.map (ck_sbV it.2.2)) = true) &&
      (it.2.2.all (ck_wb S.1) && (match x.2.2.1 with
        | some a => ck_wbV x.1 a
        | none => true) && ck_ents S.2.1 (x.2.1.map (ck_sb it.2.2)) it.2.1 && x.2.1.all (ck_wb x.1) && x.2.2.2.1.all (fun p => S.2.2.2.2.1.contains (ck_sbP it.2.2 p) && (ck_wb x.1 p.2.1 && ck_wb x.1 p.2.2)) && x.2.2.2.2.all (fun f => S.2.2.2.2.2.contains f))
def ck_ret (e : ck_N) (ins : Instr) (S : ck_S) (its : List ck_I) : Option (List ck_I) := if e.1 = 9998 then (match ins, S.2.2.2.1, its with
  | .ireturn, [.inl (.inl a)], it :: r => if (ck_ent S.2.1 (ck_ac a (-1)) (ck_kr it 0) && ck_ent S.2.1 (ck_sub (ck_c 1) a) (ck_kr it 1)) = true then some r else none
  | _, _, _ => none) else match ins, S.2.2.2.1, its with
  | .ireturn, [.inl (.inl a)], it :: r => match ck_mr e.1 with
    | some .int => if ck_end e S (some (.inl (.inl a))) it then some r else none
    | some .byte => if ck_end e S (some (.inl (.inl a))) it && (ck_ent S.2.1 (ck_ac a 128) (it.2.1.getD (it.2.1.length - 2) (0, [])) && ck_ent S.2.1 (ck_sub (ck_c 127) a) (it.2.1.getD (it.2.1.length - 1) (0, []))) then some r else none
    | some .char => if ck_end e S (some (.inl (.inl a))) it && (ck_ent S.2.1 a (it.2.1.getD (it.2.1.length - 2) (0, [])) && ck_ent S.2.1 (ck_sub (ck_c 65535) a) (it.2.1.getD (it.2.1.length - 1) (0, []))) then some r else none
    | some .boolean => if ck_end e S (some (.inl (.inl a))) it && (ck_ent S.2.1 a (it.2.1.getD (it.2.1.length - 2) (0, [])) && ck_ent S.2.1 (ck_sub (ck_c 1) a) (it.2.1.getD (it.2.1.length - 1) (0, []))) then some r else none
    | _ => none
  | .lreturn, [.inl (.inr a)], it :: r => match ck_mr e.1 with
    | some .long => if ck_end e S (some (.inl (.inr a))) it then some r else none
    | _ => none
  | .areturn, [.inr (.inl x)], it :: r => match ck_mr e.1 with
    | some (.object _) => if ck_end e S (some (.inr (.inl x))) it then some r else none
    | _ => none
  | .return_, [], it :: r => match ck_mr e.1 with
    | none => if ck_end e S none it then some r else none
    | _ => none
  | _, _, _ => none
abbrev ck_D : Type := Nat × ck_S × List ck_L
def ck_rkc (F : List ck_L) : Nat → List ck_L → List ck_L → List ck_K → Bool
  | 0, a :: _, b :: _, c :: d :: _ => ck_ent F (ck_ac (ck_sub a b) (-1)) c && ck_ent F (ck_ac a (-1)) d
  | p + 1, a :: s, b :: t, c :: cs => ck_ent F (ck_sub a b) c && ck_rkc F p s t cs
  | _, _, _, _ => false
def ck_loO (τ : List ck_L) (L : List (Nat × ck_V)) (q : Nat × ck_V) : Bool := match ck_fi q.1 L with
  | some a => ck_eqV a (ck_sbV τ q.2)
  | none => false
def ck_edg (ND : List ck_D) (m : Nat) (R : List ck_L) (pc : Nat) (S : ck_S) (it : ck_I) : Bool := match ND[ck_nr it 0]? with
  | none => false
  | some d => decide (d.1 = pc ∧ it.2.2.length = d.2.1.1 ∧ it.2.2.take m = ck_idn m ∧ ck_eqL S.2.2.2.1 (d.2.1.2.2.2.1.map (ck_sbV it.2.2)) = true) &&
      (it.2.2.all (ck_wb S.1) && d.2.1.2.2.1.all (ck_loO it.2.2 S.2.2.1) && ck_ents S.2.1 (d.2.1.2.1.map (ck_sb it.2.2)) it.2.1 && d.2.1.2.2.2.2.1.all (fun p => S.2.2.2.2.1.contains (ck_sbP it.2.2 p)) && d.2.1.2.2.2.2.2.all (fun f => S.2.2.2.2.2.contains f) && ck_rkc S.2.1 (ck_nr it 1) R (d.2.2.map (ck_sb it.2.2)) (it.2.1.drop d.2.1.2.1.length))
/-- a node's own words are in order -/
def ck_dok (m n : Nat) (d : ck_D) : Bool := Nat.ble m d.2.1.1 && (d.2.1.2.1.all (ck_wb d.2.1.1) && d.2.1.2.2.1.all (fun q => ck_wbV d.2.1.1 q.2) && d.2.1.2.2.2.1.all (ck_wbV d.2.1.1) && d.2.1.2.2.2.2.1.all (fun p => ck_wb d.2.1.1 p.2.1 && ck_wb d.2.1.1 p.2.2) && d.2.2.all (ck_wb d.2.1.1) && Nat.beq d.2.2.length n)
abbrev ck_Pg : Type := List (Nat × Instr × Nat)
def ck_at9 (pg : ck_Pg) (pc : Nat) : Option (Instr × Nat) := (pg.find? (fun q => Nat.beq q.1 pc)).map (fun q => q.2)
/-- what is known besides, with no instruction: a place of a cell (1000000007), a number's cases (1000000009), its sign (1000000011) -/
def ck_lcb (k : Nat) (idx : ck_L) (S : ck_S) (it : ck_I) : Option (Int × Int) := match ck_CT[k]? with
  | some (.inl ob) => if idx.2.isEmpty && decide (0 ≤ idx.1) then
      match ob.2[idx.1.toNat]? with
      | some (.inl b) => some b
      | some (.inr (.inl b)) => some b
      | _ => none
    else none
  | some (.inr (.inl a)) => if ck_ent S.2.1 idx (ck_kr it 0) && ck_ent S.2.1 (ck_sub (ck_c ((a.2.1 : Int) - 1)) idx) (ck_kr it 1) then ck_abd a.2.2 idx else none
  | _ => none
/-- two places that are one: what stands there is one number -/
def ck_peq (S : ck_S) (it : ck_I) : Option (List ck_S) := match S.2.2.2.2.1[ck_nr it 1]?, S.2.2.2.2.1[ck_nr it 2]? with
  | some p, some q => if p.1 = q.1 ∧ (ck_ent S.2.1 (ck_sub p.2.1 q.2.1) (ck_kr it 0) && ck_ent S.2.1 (ck_sub q.2.1 p.2.1) (ck_kr it 1)) = true then some [ck_fct S [ck_sub p.2.2 q.2.2, ck_sub q.2.2 p.2.2] S.2.2.2.1] else none
  | _, _ => none
/-- a place told in another way -/
def ck_ppl (S : ck_S) (it : ck_I) : Option (List ck_S) := match S.2.2.2.2.1[ck_nr it 1]?, it.2.2 with
  | some p, [a] => if (ck_wb S.1 a && (ck_ent S.2.1 (ck_sub p.2.1 a) (ck_kr it 0) && ck_ent S.2.1 (ck_sub a p.2.1) (ck_kr it 1))) = true then some [(S.1, S.2.1, S.2.2.1, S.2.2.2.1, (p.1, a, p.2.2) :: S.2.2.2.2.1, S.2.2.2.2.2)] else none
  | _, _ => none
/-- the upper number of the stack, told in another way -/
def ck_ptp (S : ck_S) (it : ck_I) : Option (List ck_S) := match S.2.2.2.1, it.2.2 with
  | .inl (.inl v) :: K, [a] => if (ck_wb S.1 a && (ck_ent S.2.1 (ck_sub v a) (ck_kr it 0) && ck_ent S.2.1 (ck_sub a v) (ck_kr it 1))) = true then some [ck_stk S (.inl (.inl a) :: K)] else none
  | _, _ => none
def ck_gho (Γ : List ck_N) (S : ck_S) (it : ck_I) : Option (List ck_S) := if ck_nr it 0 = 1000000013 then ck_gap Γ S it else if ck_nr it 0 = 1000000015 then ck_peq S it else if ck_nr it 0 = 1000000019 then ck_ppl S it else if ck_nr it 0 = 1000000023 then ck_ptp S it else if ck_nr it 0 = 1000000021 then (if ck_ent S.2.1 (ck_c (-1)) (ck_kr it 0) then some [] else none) else match it.2.2 with
  | [a] => if ck_nr it 0 = 1000000007 then
      if ck_wb S.1 a then
        match ck_lcb (ck_nr it 1) a S it with
        | some b => some [(S.1 + 1, ck_b2 S.1 b.1 b.2 ++ S.2.1, S.2.2.1, S.2.2.2.1, (ck_nr it 1, a, ck_x S.1) :: S.2.2.2.2.1, S.2.2.2.2.2)]
        | none => none
      else none
    else if ck_nr it 0 = 1000000009 then
      if ck_wb S.1 a && (ck_ent S.2.1 (ck_ac a (-(ck_nr it 1 : Int))) (ck_kr it 0) && ck_ent S.2.1 (ck_sub (ck_c ((ck_nr it 1 : Int) + (ck_nr it 2 : Int) - 1)) a) (ck_kr it 1)) then
        some ((List.range (ck_nr it 2)).map (fun (j : Nat) => ck_fct S [ck_ac a (-((ck_nr it 1 : Int) + (j : Int))), ck_sub (ck_c ((ck_nr it 1 : Int) + (j : Int))) a] S.2.2.2.1))
      else none
    else if ck_nr it 0 = 1000000011 then
      if ck_wb S.1 a then some [ck_fct S [a] S.2.2.2.1, ck_fct S [ck_ac (ck_mul (-1) a) (-1)] S.2.2.2.1] else none
    else none
  | _ => none
/-- a store with a rule: item of the store, item of the rule -/
def ck_srl (Γ : List ck_N) (k : Nat) (idx v : ck_L) (S : ck_S) (su : ck_R) (it2 : ck_I) : Option (List (Nat × ck_S)) := match Γ[ck_nr it2 1]?, su with
  | some e, some ([(pc2, S2)], []) => if (e.1 = 10000 + k ∧ S2.1 = S.1) ∧ ck_gpr e S it2 = true ∧ ck_eqL [.inl (.inl idx), .inl (.inl v)] (e.2.1.2.2.1.map (ck_sbV it2.2.2)) = true then (ck_exg e it2.2.2 S2 it2 0 e.2.2.1).map (fun l => l.map (fun q => (pc2, q))) else none
  | _, _ => none
def ck_sto (Γ : List ck_N) (mods : List Nat) (pc : Nat) (ins : Instr) (S : ck_S) (its : List ck_I) : ck_R := match ins, S.2.2.2.1, its with
  | .iastore, .inl (.inl v) :: .inl (.inl idx) :: .inr (.inl (some k)) :: K, it :: it2 :: r => if ck_nr it 0 = 7 then (ck_srl Γ k idx v S (ck_ast 0 mods pc S K k idx v [it]) it2).map (fun l => (l, r)) else none
  | .bastore, .inl (.inl v) :: .inl (.inl idx) :: .inr (.inl (some k)) :: K, it :: it2 :: r => if ck_nr it 0 = 7 ∧ (ck_ent S.2.1 v (ck_kr it 2) && ck_ent S.2.1 (ck_sub (ck_c 1) v) (ck_kr it 3)) = true then (ck_srl Γ k idx v S (ck_bst mods pc S K k idx [it]) it2).map (fun l => (l, r)) else none
  | _, _, _ => none
/-- the law's own steps: the script's length and ints (unknown 0 is its length), numbers of its calls, what is laid off -/
def ck_lawno : Nat := 9998
def ck_lwx (e : ck_N) (pc : Nat) (ins : Instr) (len : Nat) (S : ck_S) (its : List ck_I) : ck_R := if e.1 = ck_lawno then
    match ins, S.2.2.2.1, len with
    | .arraylength, .inr (.inl (some 1000000)) :: K, 1 => some ([(pc + 1, ck_stk S (.inl (.inl (ck_x 0)) :: K))], its)
    | .iaload, .inl (.inl a) :: .inr (.inl (some 1000000)) :: K, 1 => match its with
      | it :: r => if (ck_ent S.2.1 a (ck_kr it 0) && ck_ent S.2.1 (ck_ac (ck_sub (ck_x 0) a) (-1)) (ck_kr it 1)) = true then
          if ck_nr it 0 = 0 then ck_nw false (pc + 1) S K (ck_tI S.1) [(300, a, ck_x S.1)] r
          else match S.2.2.2.2.1[ck_nr it 1]? with
            | some p => if p.1 = 300 ∧ p.2.1 = a then some ([(pc + 1, ck_stk S (.inl (.inl p.2.2) :: K))], r) else none
            | none => none
        else none
      | [] => none
    | .lshl, .inl (.inl _) :: .inl (.inr _) :: K, 1 => ck_nw true (pc + 1) S K (ck_tJ S.1) [] its
    | .land, .inl (.inr _) :: .inl (.inr _) :: K, 1 => ck_nw true (pc + 1) S K (ck_tJ S.1) [] its
    | .lor, .inl (.inr _) :: .inl (.inr _) :: K, 1 => ck_nw true (pc + 1) S K (ck_tJ S.1) [] its
    | .pop2, .inl (.inr _) :: K, 1 => some ([(pc + 1, ck_stk S K)], its)
    | _, _, _ => none
  else none
def ck_exl (f : Nat → ck_S → List ck_I → Option (List ck_I)) : List (Nat × ck_S) → List ck_I → Option (List ck_I)
  | [], r => some r
  | q :: su, r => match f q.1 q.2 r with
    | some r2 => ck_exl f su r2
    | none => none
def ck_ex (Γ : List ck_N) (e : ck_N) (pg : ck_Pg) (ND : List ck_D) (R : List ck_L) : Nat → Bool → Nat → ck_S → List ck_I → Option (List ck_I)
  | 0, _, _, _, _ => none
  | f + 1, fst, pc, S, its => match (match its with
        | it :: r => if Nat.ble 1000000000 (ck_nr it 0) then (ck_gho Γ S it).map (fun l => (l, r)) else none
        | [] => none) with
    | some (l, r) => ck_exl (ck_ex Γ e pg ND R f fst) (l.map (fun S2 => (pc, S2))) r
    | none => if (!fst && ND.any (fun d => Nat.beq d.1 pc)) = true then
      match its with
      | it :: r => if ck_edg ND e.2.1.1 R pc S it then some r else none
      | [] => none
    else match ck_at9 pg pc with
      | none => none
      | some (ins, len) => match ck_ret e ins S its with
        | some r => if len = 1 then some r else none
        | none => match ck_lwx e pc ins len S its with
          | some (su, r) => ck_exl (ck_ex Γ e pg ND R f false) su r
          | none => if ck_isT ins = true ∨ len = ck_len ins then
            match ck_inv Γ (ck_mo e.1) e.2.2.2.2.1 e.2.2.2.2.2 e.2.2.2.1 pc ins S its with
            | some (su, r) => ck_exl (ck_ex Γ e pg ND R f false) su r
            | none => match ck_sto Γ e.2.2.2.1 pc ins S its with
              | some (su, r) => ck_exl (ck_ex Γ e pg ND R f false) su r
              | none => match ck_step (ck_mo e.1) (ck_ml e.1) e.2.2.2.1 pc ins S its with
                | some (su, r) => ck_exl (ck_ex Γ e pg ND R f false) su r
                | none => none
          else none
def ck_la : Nat → List ck_V → List (Nat × ck_V)
  | _, [] => []
  | i, a :: t => (i, a) :: ck_la (if ck_cat a = 2 then i + 2 else i + 1) t
/-- a whole entry: its nodes, each with its script -/
def ck_chk (Γ : List ck_N) (e : ck_N) (pg : ck_Pg) (fu : Nat) (ND : List ck_D) (sc : List (List ck_I)) : Bool :=
  (match ND with
    | d :: _ => decide (d.1 = 0 ∧ d.2.1.1 = e.2.1.1 ∧ d.2.1.2.1 = e.2.1.2.1 ∧ ck_eqN d.2.1.2.2.1 (ck_la 0 e.2.1.2.2.1) = true ∧ d.2.1.2.2.2.1.isEmpty = true ∧ d.2.1.2.2.2.2.1 = e.2.1.2.2.2.1 ∧ d.2.1.2.2.2.2.2 = e.2.1.2.2.2.2)
    | [] => false) && decide ((e.2.1.2.2.1.map ck_cat).sum ≤ ck_ml e.1 ∧ sc.length = ND.length ∧ e.1 < 9998) &&
    (ND.all (ck_dok e.2.1.1 (((ND.head?).map (fun d => d.2.2.length)).getD 0)) && (List.zip ND sc).all (fun q => match ck_ex Γ e pg ND q.1.2.2 fu true q.1.1 q.1.2.1 q.2 with
      | some [] => true
      | _ => false))
