/-! THE CHECKER 9: one instruction, all kinds but calls and returns -/
def ck_bin (S : ck_S) (f : List ck_V → ck_L → ck_L → ck_R) : ck_R := match S.2.2.2.1 with
  | .inl (.inl b) :: .inl (.inl a) :: K => f K a b
  | _ => none
def ck_bij (S : ck_S) (f : List ck_V → ck_L → ck_L → ck_R) : ck_R := match S.2.2.2.1 with
  | .inl (.inr b) :: .inl (.inr a) :: K => f K a b
  | _ => none
def ck_un (S : ck_S) (f : List ck_V → ck_L → ck_R) : ck_R := match S.2.2.2.1 with
  | .inl (.inl a) :: K => f K a
  | _ => none
def ck_unj (S : ck_S) (f : List ck_V → ck_L → ck_R) : ck_R := match S.2.2.2.1 with
  | .inl (.inr a) :: K => f K a
  | _ => none
/-- a branch on one number: an int beside 0, or two longs -/
def ck_if (c : Nat) (pc : Nat) (off : Int) (S : ck_S) (its : List ck_I) : ck_R := match S.2.2.2.1 with
  | .inl (.inl a) :: K => ck_br S K c a pc off its
  | .inr (.inr q) :: K => ck_br S K c (ck_sub q.1 q.2) pc off its
  | _ => none
def ck_ic (c : Nat) (pc : Nat) (off : Int) (S : ck_S) (its : List ck_I) : ck_R := ck_bin S (fun K a b => ck_br S K c (ck_sub a b) pc off its)
/-- a product: one of the two is written -/
def ck_mx (pc : Nat) (S : ck_S) (K : List ck_V) (a b : ck_L) (its : List ck_I) : ck_R :=
  if b.2.isEmpty then ck_ari pc S K (ck_mul b.1 a) its
  else if a.2.isEmpty then ck_ari pc S K (ck_mul a.1 b) its
  else ck_nw false pc S K (ck_tI S.1) [] its
def ck_mj (pc : Nat) (S : ck_S) (K : List ck_V) (a b : ck_L) (its : List ck_I) : ck_R :=
  if b.2.isEmpty then ck_arj pc S K (ck_mul b.1 a) its
  else if a.2.isEmpty then ck_arj pc S K (ck_mul a.1 b) its
  else ck_nw true pc S K (ck_tJ S.1) [] its
def ck_ldI (pc i : Nat) (S : ck_S) (its : List ck_I) : ck_R := match ck_fi i S.2.2.1 with
  | some (.inl (.inl a)) => some ([(pc, ck_stk S (ck_iv a :: S.2.2.2.1))], its)
  | _ => none
def ck_ldJ (pc i : Nat) (S : ck_S) (its : List ck_I) : ck_R := match ck_fi i S.2.2.1 with
  | some (.inl (.inr a)) => some ([(pc, ck_stk S (ck_jv a :: S.2.2.2.1))], its)
  | _ => none
def ck_ldA (pc i : Nat) (S : ck_S) (its : List ck_I) : ck_R := match ck_fi i S.2.2.1 with
  | some (.inr (.inl x)) => some ([(pc, ck_stk S (.inr (.inl x) :: S.2.2.2.1))], its)
  | _ => none
def ck_soI (pc i nl : Nat) (S : ck_S) (its : List ck_I) : ck_R := match S.2.2.2.1 with
  | .inl (.inl a) :: K => if i < nl then some ([(pc, ck_sts S (ck_s1 i (ck_iv a) S.2.2.1) K)], its) else none
  | _ => none
def ck_soJ (pc i nl : Nat) (S : ck_S) (its : List ck_I) : ck_R := match S.2.2.2.1 with
  | .inl (.inr a) :: K => if i + 1 < nl then some ([(pc, ck_sts S (ck_s2 i (ck_jv a) S.2.2.1) K)], its) else none
  | _ => none
def ck_soA (pc i nl : Nat) (S : ck_S) (its : List ck_I) : ck_R := match S.2.2.2.1 with
  | .inr (.inl x) :: K => if i < nl then some ([(pc, ck_sts S (ck_s1 i (.inr (.inl x)) S.2.2.1) K)], its) else none
  | _ => none
def ck_ps (pc : Nat) (z : Int) (S : ck_S) (its : List ck_I) : ck_R := some ([(pc, ck_stk S (ck_iv (ck_c z) :: S.2.2.2.1))], its)
def ck_inc (pc i nl : Nat) (z : Int) (S : ck_S) (its : List ck_I) : ck_R := match ck_fi i S.2.2.1, its with
  | some (.inl (.inl a)), it :: r => if i < nl ∧ (-2147483648 ≤ z ∧ z ≤ 2147483647) then
      if ck_nr it 0 = 0 then
        if ck_ent S.2.1 (ck_ac (ck_ac a z) 2147483648) (ck_kr it 0) && ck_ent S.2.1 (ck_sub (ck_c 2147483647) (ck_ac a z)) (ck_kr it 1) then some ([(pc, ck_sts S (ck_s1 i (ck_iv (ck_ac a z)) S.2.2.1) S.2.2.2.1)], r) else none
      else some ([(pc, (S.1 + 1, ck_tI S.1 ++ S.2.1, ck_s1 i (ck_iv (ck_x S.1)) S.2.2.1, S.2.2.2.1, S.2.2.2.2.1, S.2.2.2.2.2))], r)
    else none
  | _, _ => none
def ck_tb (S : ck_S) (K : List ck_V) (a : ck_L) (pc : Nat) (it : ck_I) : Nat → Int → List Int → Option (List (Nat × ck_S))
  | _, _, [] => some []
  | j, v, off :: t => if 0 ≤ (pc : Int) + off then
      match ck_side S.2.1 0 (ck_ac a (-v)) (ck_nr it j) (ck_kr it j), ck_tb S K a pc it (j + 1) (v + 1) t with
      | some x, some q => some (ck_lst x ((pc : Int) + off).toNat S K ++ q)
      | _, _ => none
    else none
def ck_tab (pc : Nat) (df lo hi : Int) (offs : Array Int) (S : ck_S) (its : List ck_I) : ck_R := match S.2.2.2.1, its with
  | .inl (.inl a) :: K, it :: r => if hi - lo + 1 = (offs.size : Int) ∧ 0 ≤ (pc : Int) + df then
      match ck_tb S K a pc it 2 lo offs.toList, ck_side S.2.1 2 (ck_ac a (-lo)) (ck_nr it 0) (ck_kr it 0), ck_side S.2.1 4 (ck_ac a (-hi)) (ck_nr it 1) (ck_kr it 1) with
      | some q, some x, some y => some (q ++ (ck_lst x ((pc : Int) + df).toNat S K ++ ck_lst y ((pc : Int) + df).toNat S K), r)
      | _, _, _ => none
    else none
  | _, _ => none
def ck_aal (pc : Nat) (S : ck_S) (its : List ck_I) : ck_R := match S.2.2.2.1, its with
  | .inl (.inl a) :: .inr (.inl (some k)) :: K, it :: r => match ck_CT[k]? with
    | some (.inr (.inr ks)) => match ks[ck_nr it 0]? with
      | some x => if ck_ent S.2.1 (ck_ac a (-(ck_nr it 0 : Int))) (ck_kr it 0) && ck_ent S.2.1 (ck_sub (ck_c (ck_nr it 0 : Int)) a) (ck_kr it 1) then some ([(pc + 1, ck_stk S (ck_rv x :: K))], r) else none
      | none => none
    | _ => none
  | _, _ => none
/-- a text's own fields -/
def ck_gfd (o pc i : Nat) (S : ck_S) (its : List ck_I) : ck_R := match S.2.2.2.1 with
  | .inr (.inl (some k)) :: K => match ck_ftl o i with
    | some q => ck_get q pc S K k its
    | none => if 1000001 ≤ k ∧ k < 1000016 then
        match ck_sfl o i with
        | some 0 => some ([(pc + 3, ck_stk S (ck_rv (k + 1000000) :: K))], its)
        | some 1 => some ([(pc + 3, ck_stk S (ck_iv (ck_c 0) :: K))], its)
        | _ => none
      else none
  | _ => none
def ck_gst (o pc i : Nat) (S : ck_S) (its : List ck_I) : ck_R := match ck_sfl o i with
  | some 2 => some ([(pc + 3, ck_stk S (ck_iv (ck_c 1) :: S.2.2.2.1))], its)
  | some 3 => some ([(pc + 3, ck_stk S (.inr (.inl none) :: S.2.2.2.1)), (pc + 3, ck_stk S (ck_rv 3000001 :: S.2.2.2.1))], its)
  | _ => none
def ck_bld (pc : Nat) (S : ck_S) (its : List ck_I) : ck_R := match S.2.2.2.1 with
  | .inl (.inl a) :: .inr (.inl (some k)) :: K => if 2000001 ≤ k ∧ k < 2000016 then
      match its with
      | it :: r => if ck_ent S.2.1 a (ck_kr it 0) && ck_ent S.2.1 (ck_sub (ck_c (((jz_len.getD (k - 2000001) 0 : Nat) : Int) - 1)) a) (ck_kr it 1) then ck_nw false (pc + 1) S K (ck_tI S.1) [] r else none
      | [] => none
    else ck_ald 1 pc S K k a its
  | _ => none
def ck_aln (pc : Nat) (S : ck_S) (its : List ck_I) : ck_R := match S.2.2.2.1 with
  | .inr (.inl (some k)) :: K => if 2000001 ≤ k ∧ k < 2000016 then ck_ps (pc + 1) ((jz_len.getD (k - 2000001) 0 : Nat) : Int) (ck_stk S K) its
    else match ck_CT[k]? with
      | some (.inr (.inl a)) => if a.1 < 4 ∧ a.2.1 < 2147483648 then ck_ps (pc + 1) (a.2.1 : Int) (ck_stk S K) its else none
      | _ => none
  | _ => none
def ck_lds (o pc i : Nat) (S : ck_S) (its : List ck_I) : ck_R := match ck_kil o i with
  | some z => ck_ps (pc + 2) z S its
  | none => match ck_ksl o i with
    | some j => some ([(pc + 2, ck_stk S (ck_rv (1000001 + j) :: S.2.2.2.1))], its)
    | none => none
def ck_step (o nl : Nat) (mods : List Nat) (pc : Nat) (ins : Instr) (S : ck_S) (its : List ck_I) : ck_R := match ins with
  | .aconst_null => some ([(pc + 1, ck_stk S (.inr (.inl none) :: S.2.2.2.1))], its)
  | .aload i => ck_ldA (pc + 2) i S its
  | .aload_n i => ck_ldA (pc + 1) i S its
  | .iload i => ck_ldI (pc + 2) i S its
  | .iload_n i => ck_ldI (pc + 1) i S its
  | .lload i => ck_ldJ (pc + 2) i S its
  | .lload_n i => ck_ldJ (pc + 1) i S its
  | .astore i => ck_soA (pc + 2) i nl S its
  | .astore_n i => ck_soA (pc + 1) i nl S its
  | .istore i => ck_soI (pc + 2) i nl S its
  | .istore_n i => ck_soI (pc + 1) i nl S its
  | .lstore i => ck_soJ (pc + 2) i nl S its
  | .lstore_n i => ck_soJ (pc + 1) i nl S its
  | .iconst z => if -128 ≤ z ∧ z ≤ 127 then ck_ps (pc + 1) z S its else none
  | .bipush z => if -128 ≤ z ∧ z ≤ 127 then ck_ps (pc + 2) z S its else none
  | .sipush z => if -32768 ≤ z ∧ z ≤ 32767 then ck_ps (pc + 3) z S its else none
  | .lconst z => some ([(pc + 1, ck_stk S (ck_jv (ck_c ((z : Nat) : Int)) :: S.2.2.2.1))], its)
  | .ldc i => ck_lds o pc i S its
  | .ldc_w i => match ck_kil o i with
    | some z => ck_ps (pc + 3) z S its
    | none => none
  | .ldc2_w i => match ck_kjl o i with
    | some z => some ([(pc + 3, ck_stk S (ck_jv (ck_c z) :: S.2.2.2.1))], its)
    | none => none
  | .dup => match S.2.2.2.1 with
    | a :: K => if ck_cat a = 1 then some ([(pc + 1, ck_stk S (a :: a :: K))], its) else none
    | _ => none
  | .dup2 => match S.2.2.2.1 with
    | a :: b :: K => if ck_cat a = 1 ∧ ck_cat b = 1 then some ([(pc + 1, ck_stk S (a :: b :: a :: b :: K))], its) else none
    | _ => none
  | .pop => match S.2.2.2.1 with
    | a :: K => if ck_cat a = 1 then some ([(pc + 1, ck_stk S K)], its) else none
    | _ => none
  | .goto off => if 0 ≤ (pc : Int) + off then some ([(((pc : Int) + off).toNat, S)], its) else none
  | .iadd => ck_bin S (fun K a b => ck_ari (pc + 1) S K (ck_add a b) its)
  | .isub => ck_bin S (fun K a b => ck_ari (pc + 1) S K (ck_sub a b) its)
  | .imul => ck_bin S (fun K a b => ck_mx (pc + 1) S K a b its)
  | .idiv => ck_bin S (fun K a b => ck_div false (pc + 1) S K a b its)
  | .irem => ck_bin S (fun K a b => ck_rem false (pc + 1) S K a b its)
  | .iand => ck_bin S (fun K a b => ck_and (pc + 1) S K a b its)
  | .ior => ck_bin S (fun K a b => ck_or (pc + 1) S K a b its)
  | .ixor => ck_bin S (fun K a b => ck_xor (pc + 1) S K a b its)
  | .ishl => ck_bin S (fun K a b => ck_shl (pc + 1) S K a b its)
  | .ishr => ck_bin S (fun K a b => ck_shr (pc + 1) S K a b its)
  | .iushr => ck_bin S (fun K _ _ => ck_nw false (pc + 1) S K (ck_tI S.1) [] its)
  | .ineg => ck_un S (fun K a => ck_ari (pc + 1) S K (ck_mul (-1) a) its)
  | .ladd => ck_bij S (fun K a b => ck_arj (pc + 1) S K (ck_add a b) its)
  | .lsub => ck_bij S (fun K a b => ck_arj (pc + 1) S K (ck_sub a b) its)
  | .lmul => ck_bij S (fun K a b => ck_mj (pc + 1) S K a b its)
  | .ldiv => ck_bij S (fun K a b => ck_div true (pc + 1) S K a b its)
  | .lrem => ck_bij S (fun K a b => ck_rem true (pc + 1) S K a b its)
  | .lcmp => ck_bij S (fun K a b => some ([(pc + 1, ck_stk S (.inr (.inr (a, b)) :: K))], its))
  | .i2l => ck_un S (fun K a => some ([(pc + 1, ck_stk S (ck_jv a :: K))], its))
  | .l2i => ck_unj S (fun K a => ck_ari (pc + 1) S K a its)
  | .i2b => ck_un S (fun K _ => ck_nw false (pc + 1) S K (ck_b2 S.1 (-128) 127) [] its)
  | .i2s => ck_un S (fun K _ => ck_nw false (pc + 1) S K (ck_b2 S.1 (-32768) 32767) [] its)
  | .iinc i z => ck_inc (pc + 3) i nl z S its
  | .ifCond .eq off => ck_if 0 pc off S its
  | .ifCond .ne off => ck_if 1 pc off S its
  | .ifCond .lt off => ck_if 2 pc off S its
  | .ifCond .ge off => ck_if 3 pc off S its
  | .ifCond .gt off => ck_if 4 pc off S its
  | .ifCond .le off => ck_if 5 pc off S its
  | .if_icmp .eq off => ck_ic 0 pc off S its
  | .if_icmp .ne off => ck_ic 1 pc off S its
  | .if_icmp .lt off => ck_ic 2 pc off S its
  | .if_icmp .ge off => ck_ic 3 pc off S its
  | .if_icmp .gt off => ck_ic 4 pc off S its
  | .if_icmp .le off => ck_ic 5 pc off S its
  | .ifnonnull off => match S.2.2.2.1 with
    | .inr (.inl (some _)) :: K => if 0 ≤ (pc : Int) + off then some ([(((pc : Int) + off).toNat, ck_stk S K)], its) else none
    | .inr (.inl none) :: K => some ([(pc + 3, ck_stk S K)], its)
    | _ => none
  | .tableswitch df lo hi offs => ck_tab pc df lo hi offs S its
  | .getfield i => ck_gfd o pc i S its
  | .getstatic i => ck_gst o pc i S its
  | .i2c => ck_un S (fun K _ => ck_nw false (pc + 1) S K (ck_b2 S.1 0 65535) [] its)
  | .putfield i => match ck_ftl o i, S.2.2.2.1 with
    | some q, v :: .inr (.inl (some k)) :: K => ck_put q mods pc S K k v its
    | _, _ => none
  | .iaload => match S.2.2.2.1 with
    | .inl (.inl a) :: .inr (.inl (some k)) :: K => ck_ald 0 pc S K k a its
    | _ => none
  | .baload => ck_bld pc S its
  | .laload => match S.2.2.2.1 with
    | .inl (.inl a) :: .inr (.inl (some k)) :: K => ck_ald 3 pc S K k a its
    | _ => none
  | .iastore => match S.2.2.2.1 with
    | .inl (.inl v) :: .inl (.inl a) :: .inr (.inl (some k)) :: K => ck_ast 0 mods pc S K k a v its
    | _ => none
  | .bastore => match S.2.2.2.1 with
    | .inl (.inl _) :: .inl (.inl a) :: .inr (.inl (some k)) :: K => ck_bst mods pc S K k a its
    | _ => none
  | .lastore => match S.2.2.2.1 with
    | .inl (.inr v) :: .inl (.inl a) :: .inr (.inl (some k)) :: K => ck_ast 3 mods pc S K k a v its
    | _ => none
  | .aaload => ck_aal pc S its
  | .arraylength => ck_aln pc S its
  | _ => none
/-- how long each of them is -/
def ck_len (ins : Instr) : Nat := match ins with
  | .aload _ => 2
  | .iload _ => 2
  | .lload _ => 2
  | .astore _ => 2
  | .istore _ => 2
  | .lstore _ => 2
  | .bipush _ => 2
  | .sipush _ => 3
  | .ldc _ => 2
  | .ldc_w _ => 3
  | .ldc2_w _ => 3
  | .goto _ => 3
  | .iinc _ _ => 3
  | .ifCond _ _ => 3
  | .if_icmp _ _ => 3
  | .ifnonnull _ => 3
  | .getfield _ => 3
  | .getstatic _ => 3
  | .putfield _ => 3
  | .invokevirtual _ => 3
  | .invokestatic _ => 3
  | _ => 1
section CK9
variable {l : Launch} {D : va_G} {kp : Nat → ClassId} {G : jv_G} {cs ss : Nat} {cc : ByteArray} {own : String} {Ts : List Cond} {rm : Room} {N : jv_N} {m0 : Nat} {σ0 : Nat → Int} {E0 : Nat → jv_E} {mods : List Nat}
variable {σ : Nat → Int} {S : ck_S} {E : Nat → jv_E} {lv : List (Nat × Value)} {st : List Value} {its r : List ck_I} {su : List (Nat × ck_S)} {pc : Nat} {x9 : List (Nat × ck_S) × List ck_I}
theorem ck_hS (H : ck_H m0 σ0 E0 mods σ S E lv st) : ck_rs σ S.1 S.2.2.2.1 st := H.2.2.1.2.2.2.1
theorem ck_hL (H : ck_H m0 σ0 E0 mods σ S E lv st) : ck_rl σ S.1 S.2.2.1 lv := H.2.2.1.2.2.1
theorem ck_bin_ok {f : List ck_V → ck_L → ck_L → ck_R} (h : ck_bin S f = some x9) (H : ck_H m0 σ0 E0 mods σ S E lv st) : ∃ K a b, f K a b = some x9 ∧ ∃ (x y : Int32) (st' : List Value), st = .int y :: .int x :: st' ∧ x.toInt = ck_ev σ a ∧ y.toInt = ck_ev σ b ∧ ck_w S.1 a ∧ ck_w S.1 b ∧ ck_rs σ S.1 K st' := by
  have hs := ck_hS H
  unfold ck_bin at h
  split at h
  · rename_i b a K hK
    rw [hK] at hs
    have hs0 := hs
    clear hs
    obtain ⟨v1, s1, rfl, ⟨w1, y, rfl, hy⟩, hs⟩ := ck_rs_cons hs0
    clear hs0
    have hs0 := hs
    clear hs
    obtain ⟨v2, s2, rfl, ⟨w2, x, rfl, hx⟩, hs⟩ := ck_rs_cons hs0
    clear hs0
    exact ⟨K, a, b, h, x, y, s2, rfl, hx, hy, w2, w1, hs⟩
  · cases h
theorem ck_bij_ok {f : List ck_V → ck_L → ck_L → ck_R} (h : ck_bij S f = some x9) (H : ck_H m0 σ0 E0 mods σ S E lv st) : ∃ K a b, f K a b = some x9 ∧ ∃ (x y : Int64) (st' : List Value), st = .long y :: .long x :: st' ∧ x.toInt = ck_ev σ a ∧ y.toInt = ck_ev σ b ∧ ck_w S.1 a ∧ ck_w S.1 b ∧ ck_rs σ S.1 K st' := by
  have hs := ck_hS H
  unfold ck_bij at h
  split at h
  · rename_i b a K hK
    rw [hK] at hs
    have hs0 := hs
    clear hs
    obtain ⟨v1, s1, rfl, ⟨w1, y, rfl, hy⟩, hs⟩ := ck_rs_cons hs0
    clear hs0
    have hs0 := hs
    clear hs
    obtain ⟨v2, s2, rfl, ⟨w2, x, rfl, hx⟩, hs⟩ := ck_rs_cons hs0
    clear hs0
    exact ⟨K, a, b, h, x, y, s2, rfl, hx, hy, w2, w1, hs⟩
  · cases h
theorem ck_un_ok {f : List ck_V → ck_L → ck_R} (h : ck_un S f = some x9) (H : ck_H m0 σ0 E0 mods σ S E lv st) : ∃ K a, f K a = some x9 ∧ ∃ (x : Int32) (st' : List Value), st = .int x :: st' ∧ x.toInt = ck_ev σ a ∧ ck_w S.1 a ∧ ck_rs σ S.1 K st' := by
  have hs := ck_hS H
  unfold ck_un at h
  split at h
  · rename_i a K hK
    rw [hK] at hs
    have hs0 := hs
    clear hs
    obtain ⟨v2, s2, rfl, ⟨w2, x, rfl, hx⟩, hs⟩ := ck_rs_cons hs0
    clear hs0
    exact ⟨K, a, h, x, s2, rfl, hx, w2, hs⟩
  · cases h
theorem ck_unj_ok {f : List ck_V → ck_L → ck_R} (h : ck_unj S f = some x9) (H : ck_H m0 σ0 E0 mods σ S E lv st) : ∃ K a, f K a = some x9 ∧ ∃ (x : Int64) (st' : List Value), st = .long x :: st' ∧ x.toInt = ck_ev σ a ∧ ck_w S.1 a ∧ ck_rs σ S.1 K st' := by
  have hs := ck_hS H
  unfold ck_unj at h
  split at h
  · rename_i a K hK
    rw [hK] at hs
    have hs0 := hs
    clear hs
    obtain ⟨v2, s2, rfl, ⟨w2, x, rfl, hx⟩, hs⟩ := ck_rs_cons hs0
    clear hs0
    exact ⟨K, a, h, x, s2, rfl, hx, w2, hs⟩
  · cases h
/-- what the signs of a number say -/
theorem ck_cdI {x : Int32} : ∀ c, c < 6 → (ck_cd c x.toInt ↔ match c with | 0 => x = 0 | 1 => ¬ x = 0 | 2 => x < 0 | 3 => 0 ≤ x | 4 => 0 < x | _ => x ≤ 0)
  | 0, _ => ⟨fun h => jv_r_eq (y := 0) h, fun h => jv_i_eq (y := 0) h⟩
  | 1, _ => ⟨fun h => jv_r_ne (y := 0) h, fun h => jv_i_ne (y := 0) h⟩
  | 2, _ => ⟨fun h => jv_r_lt (y := 0) h, fun h => jv_i_lt (y := 0) h⟩
  | 3, _ => ⟨fun h => jv_r_le (x := 0) h, fun h => jv_i_le (x := 0) h⟩
  | 4, _ => ⟨fun h => jv_r_lt (x := 0) h, fun h => jv_i_lt (x := 0) h⟩
  | 5, _ => ⟨fun h => jv_r_le (y := 0) h, fun h => jv_i_le (y := 0) h⟩
theorem ck_cdC {x y : Int64} : ∀ c, c < 6 → (ck_cd c (lg_cmp x y).toInt ↔ ck_cd c (x.toInt - y.toInt)) := fun c hc => by
  have h0 : (0 : Int32).toInt = 0 := rfl
  have hl : (lg_cmp x y).toInt < 0 ↔ x.toInt < y.toInt := ⟨fun h => jv_lc_lt (jv_r_lt (by rw [h0]; exact h)), fun h => Int.not_le.mp (fun q => by have := jv_lc_ge (x := x) (y := y) (jv_r_le (by rw [h0]; exact q)); omega)⟩
  have hg : 0 < (lg_cmp x y).toInt ↔ y.toInt < x.toInt := ⟨fun h => jv_lc_gt (jv_r_lt (by rw [h0]; exact h)), fun h => Int.not_le.mp (fun q => by have := jv_lc_le (x := x) (y := y) (jv_r_le (by rw [h0]; exact q)); omega)⟩
  match c, hc with
  | 0, _ => show (lg_cmp x y).toInt = 0 ↔ x.toInt - y.toInt = 0; omega
  | 1, _ => show ¬ (lg_cmp x y).toInt = 0 ↔ ¬ x.toInt - y.toInt = 0; omega
  | 2, _ => show (lg_cmp x y).toInt < 0 ↔ x.toInt - y.toInt < 0; omega
  | 3, _ => show 0 ≤ (lg_cmp x y).toInt ↔ 0 ≤ x.toInt - y.toInt; omega
  | 4, _ => show 0 < (lg_cmp x y).toInt ↔ 0 < x.toInt - y.toInt; omega
  | 5, _ => show (lg_cmp x y).toInt ≤ 0 ↔ x.toInt - y.toInt ≤ 0; omega
theorem ck_if_ok {c : Nat} {off : Int} (hc : c < 6) (h : ck_if c pc off S its = some (su, r)) (kk : ∀ q ∈ su, ck_Pr l D kp G cs ss m0 σ0 E0 mods q.1 q.2) (H : ck_H m0 σ0 E0 mods σ S E lv st) : ∃ (x : Int32) (st' : List Value) (tgt : Nat), st = .int x :: st' ∧ (pc : Int) + off = (tgt : Int) ∧ (ck_cd c x.toInt → jv_V l D vwCl kp G cs ss 84 E tgt lv st') ∧ (ck_cd (ck_ng c) x.toInt → jv_V l D vwCl kp G cs ss 84 E (pc + 3) lv st') := by
  have hs := ck_hS H
  have hn : ck_ng c < 6 := by
    match c, hc with
    | 0, _ => decide
    | 1, _ => decide
    | 2, _ => decide
    | 3, _ => decide
    | 4, _ => decide
    | 5, _ => decide
  unfold ck_if at h
  split at h
  · rename_i a K hK
    rw [hK] at hs
    have hs0 := hs
    clear hs
    obtain ⟨v2, s2, rfl, ⟨w2, x, rfl, hx⟩, hs⟩ := ck_rs_cons hs0
    clear hs0
    obtain ⟨tgt, ht, k1, k2⟩ := ck_br_ok h kk H hs w2
    rw [← hx] at k1 k2
    exact ⟨x, s2, tgt, rfl, ht, k1, k2⟩
  · rename_i q K hK
    rw [hK] at hs
    have hs0 := hs
    clear hs
    obtain ⟨v2, s2, rfl, ⟨w1, w2, x, y, rfl, hx, hy⟩, hs⟩ := ck_rs_cons hs0
    clear hs0
    obtain ⟨tgt, ht, k1, k2⟩ := ck_br_ok h kk H hs (ck_w_sub w1 w2)
    rw [ck_sub_ev, ← hx, ← hy] at k1 k2
    exact ⟨_, s2, tgt, rfl, ht, fun q => k1 ((ck_cdC c hc).mp q), fun q => k2 ((ck_cdC _ hn).mp q)⟩
  · cases h
theorem ck_ic_ok {c : Nat} {off : Int} (h : ck_ic c pc off S its = some (su, r)) (kk : ∀ q ∈ su, ck_Pr l D kp G cs ss m0 σ0 E0 mods q.1 q.2) (H : ck_H m0 σ0 E0 mods σ S E lv st) : ∃ (x y : Int32) (st' : List Value) (tgt : Nat), st = .int y :: .int x :: st' ∧ (pc : Int) + off = (tgt : Int) ∧ (ck_cd c (x.toInt - y.toInt) → jv_V l D vwCl kp G cs ss 84 E tgt lv st') ∧ (ck_cd (ck_ng c) (x.toInt - y.toInt) → jv_V l D vwCl kp G cs ss 84 E (pc + 3) lv st') := by
  obtain ⟨K, a, b, hf, x, y, st', rfl, hx, hy, wa, wb, hK⟩ := ck_bin_ok h H
  obtain ⟨tgt, ht, k1, k2⟩ := ck_br_ok hf kk H hK (ck_w_sub wa wb)
  rw [ck_sub_ev, ← hx, ← hy] at k1 k2
  exact ⟨x, y, st', tgt, rfl, ht, k1, k2⟩
theorem ck_mx_ok {K : List ck_V} {a b : ck_L} {x y : Int32} {st' : List Value} (h : ck_mx pc S K a b its = some (su, r)) (kk : ∀ q ∈ su, ck_Pr l D kp G cs ss m0 σ0 E0 mods q.1 q.2) (H : ck_H m0 σ0 E0 mods σ S E lv st) (hK : ck_rs σ S.1 K st') (wa : ck_w S.1 a) (wb : ck_w S.1 b) (hx : x.toInt = ck_ev σ a) (hy : y.toInt = ck_ev σ b) : jv_V l D vwCl kp G cs ss 84 E pc lv (.int (x * y) :: st') := by
  unfold ck_mx at h
  split at h
  · rename_i hb
    exact ck_ari_ok h kk H hK (ck_w_mul wa) (by rw [Int32.toInt_mul, hx, hy, ck_mul_ev, ck_const hb, Int.mul_comm])
  · split at h
    · rename_i hb
      exact ck_ari_ok h kk H hK (ck_w_mul wb) (by rw [Int32.toInt_mul, hx, hy, ck_mul_ev, ck_const hb])
    · exact ck_nwI h kk H hK ck_topI
theorem ck_mj_ok {K : List ck_V} {a b : ck_L} {x y : Int64} {st' : List Value} (h : ck_mj pc S K a b its = some (su, r)) (kk : ∀ q ∈ su, ck_Pr l D kp G cs ss m0 σ0 E0 mods q.1 q.2) (H : ck_H m0 σ0 E0 mods σ S E lv st) (hK : ck_rs σ S.1 K st') (wa : ck_w S.1 a) (wb : ck_w S.1 b) (hx : x.toInt = ck_ev σ a) (hy : y.toInt = ck_ev σ b) : jv_V l D vwCl kp G cs ss 84 E pc lv (.long (x * y) :: st') := by
  unfold ck_mj at h
  split at h
  · rename_i hb
    exact ck_arj_ok h kk H hK (ck_w_mul wa) (by rw [Int64.toInt_mul, hx, hy, ck_mul_ev, ck_const hb, Int.mul_comm])
  · split at h
    · rename_i hb
      exact ck_arj_ok h kk H hK (ck_w_mul wb) (by rw [Int64.toInt_mul, hx, hy, ck_mul_ev, ck_const hb])
    · exact ck_nwJ h kk H hK ck_topJ
theorem ck_ldI_ok {i pc' : Nat} (h : ck_ldI pc' i S its = some (su, r)) (kk : ∀ q ∈ su, ck_Pr l D kp G cs ss m0 σ0 E0 mods q.1 q.2) (H : ck_H m0 σ0 E0 mods σ S E lv st) : ∃ (j : Nat) (x : Int32), lv[j]? = some (i, .int x) ∧ jv_V l D vwCl kp G cs ss 84 E pc' lv (.int x :: st) := by
  unfold ck_ldI at h
  split at h
  · rename_i a hf
    obtain ⟨j, v, hj, hv⟩ := ck_fi_ok (ck_hL H) hf
    cases h
    have k9 := kk _ List.mem_cons_self _ _ _ _ (ck_H_stk (st' := v :: st) H ⟨hv, ck_hS H⟩)
    obtain ⟨w, x, rfl, hx⟩ := hv
    exact ⟨j, x, hj, k9⟩
  · cases h
theorem ck_ldJ_ok {i pc' : Nat} (h : ck_ldJ pc' i S its = some (su, r)) (kk : ∀ q ∈ su, ck_Pr l D kp G cs ss m0 σ0 E0 mods q.1 q.2) (H : ck_H m0 σ0 E0 mods σ S E lv st) : ∃ (j : Nat) (x : Int64), lv[j]? = some (i, .long x) ∧ jv_V l D vwCl kp G cs ss 84 E pc' lv (.long x :: st) := by
  unfold ck_ldJ at h
  split at h
  · rename_i a hf
    obtain ⟨j, v, hj, hv⟩ := ck_fi_ok (ck_hL H) hf
    cases h
    have k9 := kk _ List.mem_cons_self _ _ _ _ (ck_H_stk (st' := v :: st) H ⟨hv, ck_hS H⟩)
    obtain ⟨w, x, rfl, hx⟩ := hv
    exact ⟨j, x, hj, k9⟩
  · cases h
theorem ck_ldA_ok {i pc' : Nat} (h : ck_ldA pc' i S its = some (su, r)) (kk : ∀ q ∈ su, ck_Pr l D kp G cs ss m0 σ0 E0 mods q.1 q.2) (H : ck_H m0 σ0 E0 mods σ S E lv st) : ∃ (j : Nat) (v : Value), lv[j]? = some (i, v) ∧ ((∃ x, v = .ref x) ∨ v = .null) ∧ jv_V l D vwCl kp G cs ss 84 E pc' lv (v :: st) := by
  unfold ck_ldA at h
  split at h
  · rename_i a hf
    obtain ⟨j, v, hj, hv⟩ := ck_fi_ok (ck_hL H) hf
    cases h
    have k9 := kk _ List.mem_cons_self _ _ _ _ (ck_H_stk (st' := v :: st) H ⟨hv, ck_hS H⟩)
    refine ⟨j, v, hj, ?_, k9⟩
    cases a with
    | none => exact Or.inr hv
    | some k => exact Or.inl ⟨k, hv⟩
  · cases h
theorem ck_tb_ok {K : List ck_V} {a : ck_L} {it : ck_I} {st' : List Value} (H : ck_H m0 σ0 E0 mods σ S E lv st) (hK : ck_rs σ S.1 K st') (wa : ck_w S.1 a) : ∀ (t : List Int) (j : Nat) (v : Int) (q : List (Nat × ck_S)), ck_tb S K a pc it j v t = some q → (∀ p ∈ q, ck_Pr l D kp G cs ss m0 σ0 E0 mods p.1 p.2) → ∀ (i : Nat) (off : Int), t[i]? = some off → ck_ev σ a = v + (i : Int) → ∃ tgt : Nat, (pc : Int) + off = (tgt : Int) ∧ jv_V l D vwCl kp G cs ss 84 E tgt lv st'
  | [], _, _, _, _, _, i, off, hi, _ => by simp at hi
  | o9 :: t, j, v, q, h, kk, i, off, hi, he => by
    unfold ck_tb at h
    split at h
    · rename_i ho
      split at h
      · rename_i x y hx hy
        cases h
        cases i with
        | zero =>
          simp at hi
          subst hi
          refine ⟨_, (Int.toNat_of_nonneg ho).symm, ?_⟩
          refine ck_side_ok hx (fun p hp => kk p (List.mem_append_left _ hp)) H hK (ck_w_ac wa) ?_
          show ck_ev σ (ck_ac a (-v)) = 0
          rw [ck_ac_ev]; omega
        | succ i =>
          rw [List.getElem?_cons_succ] at hi
          exact ck_tb_ok H hK wa t (j + 1) (v + 1) y hy (fun p hp => kk p (List.mem_append_right _ hp)) i off hi (by omega)
      · cases h
    · cases h
end CK9
