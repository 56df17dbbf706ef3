/-! String constants in the logical machine: .ref (1000001 + j) the text j, .ref (2000001 + j) its bytes -/
section JZ
variable {l : Launch} {D : va_G} {cl : List vw_C} {kp : Nat → ClassId} {G : jv_G} {cc : ByteArray} {own : String} {Ts : List Cond} {rm : Room} {N : jv_N} {cs ss n : Nat} {E : Nat → jv_E} {pc : Nat} {lv : List (Nat × Value)} {st : List Value} {j index : Nat}
theorem jz_ok {k : Nat} (h : 1000000 ≤ k) : jv_ok n (.ref k) := fun q e => by cases e; exact Or.inr h
theorem jz_ldc (C : jv_C D cl kp G cc "JuggledPost$Scribe" Ts rm N) {tx : String} (hj : j < 15) (hq : jz_tx[j]? = some (index, tx)) (hd : decode cc pc = .ok (.ldc index, 2)) (k : jv_V l D cl kp G cs ss n E (pc + 2) lv (.ref (1000001 + j) :: st)) : jv_V l D cl kp G cs ss n E pc lv st := by
  obtain ⟨p, e, R, s, m, args, below, meth, c, A, nL, n0, f0, Q⟩ := G
  intro f H locs ls hP hD hS hE hL hs hn hf hl
  obtain ⟨hx, hb, hml, hown, hts, hK, hA, hlk, hRm, hNw⟩ := C
  have e1 : f (1000001 + j) = kp (1000 + j) := (hf _ (Or.inr (by omega))).trans (hNw.2.2.1 j hj).1
  have key := k f H locs ls hP hD hS hE hL (jv_s0 hs (jz_ok (by omega))) hn hf hl
  have e2 : (Value.ref (1000001 + j) :: st).map (jv_v f) = .ref (kp (1000 + j)) :: st.map (jv_v f) := by
    show Value.ref (f (1000001 + j)) :: _ = _
    rw [e1]
  rw [e2] at key
  exact va_ldcS hx hb hown (hNw.2.2.2.2.2.2 j _ hq) hd key
theorem jz_getv (C : jv_C D cl kp G cc own Ts rm N) (hj : j < 15) (hw : Cond.fieldLink own index "java/lang/String" "value" "[B" ∈ Ts) (hd : decode cc pc = .ok (.getfield index, 3)) (k : jv_V l D cl kp G cs ss n E (pc + 3) lv (.ref (2000001 + j) :: st)) : jv_V l D cl kp G cs ss n E pc lv (.ref (1000001 + j) :: st) := by
  obtain ⟨p, e, R, s, m, args, below, meth, c, A, nL, n0, f0, Q⟩ := G
  intro f H locs ls hP hD hS hE hL hs hn hf hl
  obtain ⟨hx, hb, hml, hown, hts, hK, hA, hlk, hRm, hNw⟩ := C
  have e1 : f (1000001 + j) = kp (1000 + j) := (hf _ (Or.inr (by omega))).trans (hNw.2.2.1 j hj).1
  have e1' : f (2000001 + j) = kp (2000 + j) := (hf _ (Or.inr (by omega))).trans (hNw.2.2.1 j hj).2
  have key := k f H locs ls hP hD hS hE hL (jv_s1 hs (jz_ok (by omega))) hn hf hl
  have e2 : (Value.ref (2000001 + j) :: st).map (jv_v f) = .ref (kp (2000 + j)) :: st.map (jv_v f) := by
    show Value.ref (f (2000001 + j)) :: _ = _
    rw [e1']
  have e3 : (Value.ref (1000001 + j) :: st).map (jv_v f) = .ref (kp (1000 + j)) :: st.map (jv_v f) := by
    show Value.ref (f (1000001 + j)) :: _ = _
    rw [e1]
  rw [e2] at key
  rw [e3]
  exact vk_getf hx hb (hNw.2.2.2.1.1 j hj).2.2.1 hS hown (hts _ hw) (fun _ h => h) hd key
theorem jz_getc (C : jv_C D cl kp G cc own Ts rm N) (hj : j < 15) (hw : Cond.fieldLink own index "java/lang/String" "coder" "B" ∈ Ts) (hd : decode cc pc = .ok (.getfield index, 3)) (k : jv_V l D cl kp G cs ss n E (pc + 3) lv (.int 0 :: st)) : jv_V l D cl kp G cs ss n E pc lv (.ref (1000001 + j) :: st) := by
  obtain ⟨p, e, R, s, m, args, below, meth, c, A, nL, n0, f0, Q⟩ := G
  intro f H locs ls hP hD hS hE hL hs hn hf hl
  obtain ⟨hx, hb, hml, hown, hts, hK, hA, hlk, hRm, hNw⟩ := C
  have e1 : f (1000001 + j) = kp (1000 + j) := (hf _ (Or.inr (by omega))).trans (hNw.2.2.1 j hj).1
  have key := k f H locs ls hP hD hS hE hL (jv_s1 hs jv_ok_i) hn hf hl
  have e3 : (Value.ref (1000001 + j) :: st).map (jv_v f) = .ref (kp (1000 + j)) :: st.map (jv_v f) := by
    show Value.ref (f (1000001 + j)) :: _ = _
    rw [e1]
  rw [e3]
  exact vk_getf hx hb (hNw.2.2.2.1.1 j hj).2.1 hS hown (hts _ hw) (fun _ h => h) hd key
theorem jz_alen (C : jv_C D cl kp G cc own Ts rm N) (hj : j < 15) {v : Int32} (hv : Int32.ofNat (jz_len.getD j 0) = v) (hd : decode cc pc = .ok (.arraylength, 1)) (k : jv_V l D cl kp G cs ss n E (pc + 1) lv (.int v :: st)) : jv_V l D cl kp G cs ss n E pc lv (.ref (2000001 + j) :: st) := by
  obtain ⟨p, e, R, s, m, args, below, meth, c, A, nL, n0, f0, Q⟩ := G
  intro f H locs ls hP hD hS hE hL hs hn hf hl
  obtain ⟨hx, hb, hml, hown, hts, hK, hA, hlk, hRm, hNw⟩ := C
  have e1' : f (2000001 + j) = kp (2000 + j) := (hf _ (Or.inr (by omega))).trans (hNw.2.2.1 j hj).2
  have key := k f H locs ls hP hD hS hE hL (jv_s1 hs jv_ok_i) hn hf hl
  have e3 : (Value.ref (2000001 + j) :: st).map (jv_v f) = .ref (kp (2000 + j)) :: st.map (jv_v f) := by
    show Value.ref (f (2000001 + j)) :: _ = _
    rw [e1']
  rw [e3]
  exact va_tlen hx hb (hNw.2.2.2.1.1 j hj).2.2.2 hS hv hd key
theorem jz_bald (C : jv_C D cl kp G cc own Ts rm N) (hj : j < 15) {i : Int32} (hin : vp_in i (jz_len.getD j 0)) (hd : decode cc pc = .ok (.baload, 1)) (k : jv_V l D cl kp G cs ss n E (pc + 1) lv (.int ((jz_byt.getD j []).getD i.toNatClampNeg 0) :: st)) : jv_V l D cl kp G cs ss n E pc lv (.int i :: .ref (2000001 + j) :: st) := by
  obtain ⟨p, e, R, s, m, args, below, meth, c, A, nL, n0, f0, Q⟩ := G
  intro f H locs ls hP hD hS hE hL hs hn hf hl
  obtain ⟨hx, hb, hml, hown, hts, hK, hA, hlk, hRm, hNw⟩ := C
  have e1' : f (2000001 + j) = kp (2000 + j) := (hf _ (Or.inr (by omega))).trans (hNw.2.2.1 j hj).2
  have key := k f H locs ls hP hD hS hE hL (jv_s1 (jv_sd hs) jv_ok_i) hn hf hl
  have e3 : (Value.int i :: Value.ref (2000001 + j) :: st).map (jv_v f) = .int i :: .ref (kp (2000 + j)) :: st.map (jv_v f) := by
    show Value.int i :: Value.ref (f (2000001 + j)) :: _ = _
    rw [e1']
  rw [e3]
  exact va_tb hx hb (hNw.2.2.2.1.1 j hj).2.2.2 hS hin rfl hd key
theorem jz_gets (C : jv_C D cl kp G cc own Ts rm N) (hw : Cond.fieldLink own index "java/lang/String" "COMPACT_STRINGS" "Z" ∈ Ts) (hd : decode cc pc = .ok (.getstatic index, 3)) (k : jv_V l D cl kp G cs ss n E (pc + 3) lv (.int 1 :: st)) : jv_V l D cl kp G cs ss n E pc lv st := by
  obtain ⟨p, e, R, s, m, args, below, meth, c, A, nL, n0, f0, Q⟩ := G
  intro f H locs ls hP hD hS hE hL hs hn hf hl
  obtain ⟨hx, hb, hml, hown, hts, hK, hA, hlk, hRm, hNw⟩ := C
  have key := k f H locs ls hP hD hS hE hL (jv_s0 hs jv_ok_i) hn hf hl
  exact va_gets hx hb hNw.2.2.2.2.1 hS hown (hts _ hw) (fun _ h => h) hd key
theorem jz_getq (C : jv_C D cl kp G cc own Ts rm N) (hw : Cond.fieldLink own index "jdk/internal/util/Preconditions" "SIOOBE_FORMATTER" "Ljava/util/function/BiFunction;" ∈ Ts) (hd : decode cc pc = .ok (.getstatic index, 3)) (k1 : jv_V l D cl kp G cs ss n E (pc + 3) lv (.null :: st)) (k2 : jv_V l D cl kp G cs ss n E (pc + 3) lv (.ref 3000001 :: st)) : jv_V l D cl kp G cs ss n E pc lv st := by
  obtain ⟨p, e, R, s, m, args, below, meth, c, A, nL, n0, f0, Q⟩ := G
  intro f H locs ls hP hD hS hE hL hs hn hf hl
  obtain ⟨hx, hb, hml, hown, hts, hK, hA, hlk, hRm, hNw⟩ := C
  rcases hNw.2.2.2.2.2.1 with hz | ⟨hz, h3⟩
  · have key := k1 f H locs ls hP hD hS hE hL (jv_s0 hs jv_ok_n) hn hf hl
    exact va_gets hx hb hz hS hown (hts _ hw) (fun _ h => h) hd key
  · have key := k2 f H locs ls hP hD hS hE hL (jv_s0 hs (jz_ok (by omega))) hn hf hl
    have e1 : f 3000001 = kp 3000 := (hf _ (Or.inr (by omega))).trans h3
    have e2 : (Value.ref 3000001 :: st).map (jv_v f) = .ref (kp 3000) :: st.map (jv_v f) := by
      show Value.ref (f 3000001) :: _ = _
      rw [e1]
    rw [e2] at key
    exact va_gets hx hb hz hS hown (hts _ hw) (fun _ h => h) hd key
theorem jz_call (C : jv_C D cl kp G cc own Ts rm N) {y : MethodName} {ws ws' : List Cond} {rm2 : Room} {N2 : jv_N} {As stk : List Value} {mc ms maxL na : Nat} {bytes : ByteArray} {ret : Option FieldType} {post : Option Value → Nat → (Nat → jv_E) → Prop} (hj : j < 15) (hy : y.cls = "java/lang/String") (hM : jv_M l D cl kp y ws rm2 N2 (.ref (1000001 + j) :: As) n E mc ms post) (hg : GoodIn Ts (wsV own index y.cls y ws)) (hw : ws = Cond.code y bytes maxL ret :: ws') (hrc : rm2.cells = mc) (hrs : rm2.slots = ms)
    (hd0 : y.cls ≠ "java/lang/invoke/MethodHandle" ∧ y.cls ≠ "java/lang/invoke/VarHandle" ∧ (parseMethodDescriptor y.desc).map (fun d => d.parameters.length) = some na) (hna : As.length = na) (hR : rm2.frames + 1 ≤ rm.frames ∧ 8 + (maxL + 11) + rm2.locals ≤ rm.locals) (hcs : cs + mc ≤ rm.cells ∧ ss + ms ≤ rm.slots) (hNN : ∀ q ∈ N2, q ∈ N) (hst : (st.map fun v => v.category).sum ≤ 8) (hstk : stk = As.reverse ++ .ref (1000001 + j) :: st) (hd : decode cc pc = .ok (.invokevirtual index, 3))
    (kk : ∀ (r : Option Value) (n1 : Nat) (E1 : Nat → jv_E), post r n1 E1 → n ≤ n1 → jv_V l D cl kp G (cs + mc) (ss + ms) n1 E1 (pc + 3) lv (r.toList ++ st)) : jv_V l D cl kp G cs ss n E pc lv stk := by
  subst hstk
  subst hna
  obtain ⟨p, e, R, s, m, args, below, meth, c, A, nL, n0, f0, Q⟩ := G
  intro f H locs ls hP hD hS hE hL hs hn hf hl
  obtain ⟨hx, hb, hml, hown, hts, hK, hA, hlk, hRm, hNw⟩ := C
  subst hRm
  obtain ⟨hsA, hsS⟩ := jv_args hs
  have e1 : f (1000001 + j) = kp (1000 + j) := (hf _ (Or.inr (by omega))).trans (hNw.2.2.1 j hj).1
  have hrcv := vk_recv hNw.2.2.2.1 hj hS
  refine jv_go (va_runV (b := f (1000001 + j)) (As := As.map (jv_v f)) (rest := st.map (jv_v f)) ⟨hx, hb, hml, hown, hts⟩ (hM f H.size) (cwV As.length hts hg hw hrc hrs ⟨rfl, hd0⟩ hR) ⟨jv_blind, by rw [e1, hy]; exact hrcv, fun U hU hW => ⟨rfl, by rw [hU], by rw [hU]; exact hP, va_K.moved hW.alike hK, hD.weaken (fun _ _ _ _ => trivial), hE, hsA, jv_Nw_sub hNN hW hU hS (jv_free hD hS hA) (fun i hi => hf i (Or.inr hi)) hNw⟩⟩ rfl (by rw [List.length_map]) hl.1 (by show (As.reverse ++ .ref (1000001 + j) :: st).map (jv_v f) = _; rw [List.map_append, List.map_reverse]; rfl) (lv_room (jv_cat hst)) hd hcs) hD hS hA hL hsS hn hf hl kk
end JZ
