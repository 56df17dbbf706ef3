/-! THE CLAIM OUT OF ONE WALK OF THE LAW'S BODY. Your part is whole_start (and what it stands on); all else here is the same for every law, but numbers. -/
def R_law : String := "JuggledPostLaw"
def lw_P (b : Addr) (xs : List Int32) (args : Array Value) (s : State) : Prop := args = #[.ref b] ∧ s.IntsAt b xs ∧ xs.length ≤ 6 ∧ (Jvm.Cond.and given_1 narrow_1).before args s = true
def lw_Q (_ : Array Value) (s : State) (o : Outcome) (t : State) : Prop := o = .returned (some (.int 1)) ∧ Framed s o t [] 600000 7302250
def lw_Z (below : List Frame) (a : Array Value) (s : State) : State → Prop := fun t => ∃ o, t.status = .running ∧ Ended t below o ∧ lw_Q a s o t
/-- the law's own end, with 1 on the stack, nothing written that was there before, its room as the claim has it -/
theorem lw_ret {p : Program} {l : Launch} {e : Env} {s : State} {m : MethodId} {below : List Frame} {meth : Method} {c : Code} {b : Nat} (hx : p.tables.exec = Jvm.exec) (hb : c.code = code) (hr : meth.sig.returnType = ret) (hlocks : meth.locks = false) {pc : Nat} {H : Heap} {ls : Array Slot} (hdg : decode code pc = .ok (.ireturn, 1)) : W p l e room_1 s m #[Value.ref b] below meth c H [] 600000 7302250 (lw_Z below #[Value.ref b] s) (F0 m pc ls [.int 1]) := by
  intro T hT X
  obtain ⟨fs, hret, hrun, hended, hW, hframe⟩ := X.leave (v := some (.int 1)) (hlocks := hlocks) (fun h => by rw [hr] at h; cases h)
  have hmeth' : T.vm.method? m = some meth := X.method'
  refine ⟨T.setFrames fs, ?_, .returned (some (.int 1)), hrun, hended, rfl, ⟨_, rfl⟩, hW, hframe⟩
  jvm_step X.here [X.here.top, hx, hb, hdg, hmeth', hr, ret, narrow_b1]
  (try refine ⟨rfl, ?_⟩); (try refine ⟨rfl, ?_⟩)
  first | (intro acts; rw [hret _ acts rfl rfl rfl]) | rw [hret _ _ rfl rfl rfl]
  exact Steps.refl _
/-- what holds at the law's entry: the machine, the code, the tables' words (any of lw_tbl by 'hts w (by decide +kernel)'), the script of L ints xs at the cell b, what the Statement gives of the start (any of its parts by flat_of_before) -/
def lw_At (p : Program) (s : State) (m : MethodId) (meth : Method) (c : Code) (b L : Nat) (xs : Nat → Int32) : Prop :=
  p.tables.exec = Jvm.exec ∧ c.code = code ∧ meth.sig.returnType = ret ∧ c.maxLocals = 4 ∧ s.vm.findClass R_law = some m.cls ∧ (∀ w ∈ lw_tbl, w.before #[Value.ref b] s = true) ∧ va_X b L xs s s.heap ∧ b < s.heap.size ∧ meth.locks = false ∧ (Jvm.Cond.and given_1 narrow_1).before #[Value.ref b] s = true
set_option maxRecDepth 100000 in
theorem jx_known {s : State} {b : Nat} (hts : ∀ w ∈ lw_tbl, w.before #[Value.ref b] s = true) : ∃ (D : va_G) (kp : Nat → ClassId), va_K D vwCl (jv_T kp) s := by
  obtain ⟨c0, i0, k0⟩ := u_known (C := RX0) (T := TX0) (N := 16) (n := 16) hts inX0 (hts (.instantiable RX0 16) (List.mem_of_getElem? (i := 132) rfl))
  obtain ⟨c1, i1, k1⟩ := u_known (C := RX1) (T := TX1) (N := 8) (n := 8) hts inX1 (hts (.instantiable RX1 8) (List.mem_of_getElem? (i := 262) rfl))
  obtain ⟨c2, i2, k2⟩ := u_known (C := RX2) (T := TX2) (N := 9) (n := 9) hts inX2 (hts (.instantiable RX2 9) (List.mem_of_getElem? (i := 299) rfl))
  obtain ⟨c3, i3, k3⟩ := u_known (C := RX3) (T := TX3) (N := 12) (n := 12) hts inX3 (hts (.instantiable RX3 12) (List.mem_of_getElem? (i := 214) rfl))
  obtain ⟨c4, i4, k4⟩ := u_known (C := RX4) (T := TX4) (N := 3) (n := 3) hts inX4 (hts (.instantiable RX4 3) (List.mem_of_getElem? (i := 391) rfl))
  obtain ⟨c5, i5, k5⟩ := u_known (C := RX5) (T := TX5) (N := 2) (n := 2) hts inX5 (hts (.instantiable RX5 2) (List.mem_of_getElem? (i := 337) rfl))
  obtain ⟨c6, i6, k6⟩ := u_known (C := RX6) (T := TX6) (N := 5) (n := 5) hts inX6 (hts (.instantiable RX6 5) (List.mem_of_getElem? (i := 366) rfl))
  obtain ⟨c7, i7, k7⟩ := u_known (C := RX7) (T := TX7) (N := 3) (n := 3) hts inX7 (hts (.instantiable RX7 3) (List.mem_of_getElem? (i := 350) rfl))
  obtain ⟨c8, i8, k8⟩ := u_known (C := RX8) (T := TX8) (N := 11) (n := 11) hts inX8 (hts (.instantiable RX8 11) (List.mem_of_getElem? (i := 124) rfl))
  obtain ⟨c9, i9, k9⟩ := u_known (C := RX9) (T := TX9) (N := 46) (n := 46) hts inX9 (hts (.instantiable RX9 46) (List.mem_of_getElem? (i := 1227) rfl))
  obtain ⟨a0, q0, o0, f0, g0, e0⟩ := Cond.arrayClass_spec (hts (.arrayClass .int) (List.mem_of_getElem? (i := 211) rfl))
  obtain ⟨a1, q1, o1, f1, g1, e1⟩ := Cond.arrayClass_spec (hts (.arrayClass .byte) (List.mem_of_getElem? (i := 260) rfl))
  obtain ⟨a2, q2, o2, f2, g2, e2⟩ := Cond.arrayClass_spec (hts (.arrayClass .boolean) (List.mem_of_getElem? (i := 259) rfl))
  obtain ⟨a3, q3, o3, f3, g3, e3⟩ := Cond.arrayClass_spec (hts (.arrayClass .long) (List.mem_of_getElem? (i := 411) rfl))
  obtain ⟨o4, a4, q4, d4, -, g4, e4, f4⟩ := Cond.arrayOver_spec (hts (.arrayOver (.object "JuggledPost$City")) (List.mem_of_getElem? (i := 212) rfl))
  refine ⟨(fun k => match k with | 0 => c0 | 1 => c1 | 2 => c2 | 3 => c3 | 4 => c4 | 5 => c5 | 6 => c6 | 7 => c7 | 8 => c8 | _ => c9, fun k => match k with | 0 => i0 | 1 => i1 | 2 => i2 | 3 => i3 | 4 => i4 | 5 => i5 | 6 => i6 | 7 => i7 | 8 => i8 | _ => i9), (fun t => match t with | 0 => a0 | 1 => a1 | 2 => a2 | 3 => a3 | _ => a4), fun k q hq => ?_, fun k q hq => ?_⟩
  · match k, hq with
    | 0, hq => cases hq; exact k0
    | 1, hq => cases hq; exact k1
    | 2, hq => cases hq; exact k2
    | 3, hq => cases hq; exact k3
    | 4, hq => cases hq; exact k4
    | 5, hq => cases hq; exact k5
    | 6, hq => cases hq; exact k6
    | 7, hq => cases hq; exact k7
    | 8, hq => cases hq; exact k8
    | 9, hq => cases hq; exact k9
    | k + 10, hq => simp [vwCl] at hq
  · match k, hq with
    | 0, hq => cases hq; exact ⟨fun n z => ⟨fun k h => (by cases h), q0, g0, o0, e0⟩, f0⟩
    | 1, hq => cases hq; exact ⟨fun n z => ⟨fun k h => (by cases h), q1, g1, o1, e1⟩, f1⟩
    | 2, hq => cases hq; exact ⟨fun n z => ⟨fun k h => (by cases h), q2, g2, o2, e2⟩, f2⟩
    | 3, hq => cases hq; exact ⟨fun n z => ⟨fun k h => (by cases h), q3, g3, o3, e3⟩, f3⟩
    | 4, hq => cases hq; exact ⟨fun n z => ⟨fun k h => (by cases h), q4, g4, o4, e4⟩, q4, o4, g4, e4, d4, f4⟩
    | k + 5, hq => simp [jv_T] at hq
set_option maxRecDepth 100000 in
theorem jx_Nw {s : State} {b : Nat} (hts : ∀ w ∈ lw_tbl, w.before #[Value.ref b] s = true) : jv_Nw jx_N s := by
  refine ⟨fun q hq => ?_, va_AO.of (hts (.arrayOver (.object "JuggledPost$City")) (List.mem_of_getElem? (i := 212) rfl))⟩
  simp only [jx_N, List.mem_cons, List.not_mem_nil, or_false] at hq
  rcases hq with rfl | rfl | rfl | rfl | rfl | rfl
  · exact va_Nw.of rfl (hts (.methodLinkNest RX8 9 yX0_init "JuggledPost") (List.mem_of_getElem? (i := 133) rfl))
  · exact va_Nw.of rfl (hts (.methodLinkNest RX8 38 yX1_init "JuggledPost") (List.mem_of_getElem? (i := 263) rfl))
  · exact va_Nw.of rfl (hts (.methodLinkNest RX8 45 yX2_init "JuggledPost") (List.mem_of_getElem? (i := 300) rfl))
  · exact va_Nw.of rfl (hts (.methodLinkNest RX8 52 yX5_init "JuggledPost") (List.mem_of_getElem? (i := 338) rfl))
  · exact va_Nw.of rfl (hts (.methodLinkNest RX8 59 yX7_init "JuggledPost") (List.mem_of_getElem? (i := 351) rfl))
  · exact va_Nw.of rfl (hts (.methodLinkNest RX8 66 yX6_init "JuggledPost") (List.mem_of_getElem? (i := 367) rfl))
theorem jx_l6 : ∀ L, L < 6 → (Int32.ofNat L - 6 : Int32) < 0 := by decide +kernel
theorem jx_sp3 (a : Int32) : a.toInt < 0 ∨ 2 < a.toInt ∨ a = 0 ∨ a = 1 ∨ a = 2 := by
  have z0 : (0 : Int32).toInt = 0 := (by decide)
  have z1 : (1 : Int32).toInt = 1 := (by decide)
  have z2 : (2 : Int32).toInt = 2 := (by decide)
  by_cases h1 : a.toInt < 0
  · exact Or.inl h1
  by_cases h2 : 2 < a.toInt
  · exact Or.inr (Or.inl h2)
  refine Or.inr (Or.inr ?_)
  have h3 : a.toInt = 0 ∨ a.toInt = 1 ∨ a.toInt = 2 := by omega
  rcases h3 with h | h | h
  · exact Or.inl (jv_r_eq (by omega))
  · exact Or.inr (Or.inl (jv_r_eq (by omega)))
  · exact Or.inr (Or.inr (jv_r_eq (by omega)))
theorem jx_sp9 (a : Int32) : a.toInt < 0 ∨ 8 < a.toInt ∨ a = 0 ∨ a = 1 ∨ a = 2 ∨ a = 3 ∨ a = 4 ∨ a = 5 ∨ a = 6 ∨ a = 7 ∨ a = 8 := by
  have z0 : (0 : Int32).toInt = 0 := (by decide)
  have z1 : (1 : Int32).toInt = 1 := (by decide)
  have z2 : (2 : Int32).toInt = 2 := (by decide)
  have z3 : (3 : Int32).toInt = 3 := (by decide)
  have z4 : (4 : Int32).toInt = 4 := (by decide)
  have z5 : (5 : Int32).toInt = 5 := (by decide)
  have z6 : (6 : Int32).toInt = 6 := (by decide)
  have z7 : (7 : Int32).toInt = 7 := (by decide)
  have z8 : (8 : Int32).toInt = 8 := (by decide)
  by_cases h1 : a.toInt < 0
  · exact Or.inl h1
  by_cases h2 : 8 < a.toInt
  · exact Or.inr (Or.inl h2)
  refine Or.inr (Or.inr ?_)
  have h3 : a.toInt = 0 ∨ a.toInt = 1 ∨ a.toInt = 2 ∨ a.toInt = 3 ∨ a.toInt = 4 ∨ a.toInt = 5 ∨ a.toInt = 6 ∨ a.toInt = 7 ∨ a.toInt = 8 := by omega
  rcases h3 with h | h | h | h | h | h | h | h | h
  · exact Or.inl (jv_r_eq (by omega))
  · exact Or.inr (Or.inl (jv_r_eq (by omega)))
  · exact Or.inr (Or.inr (Or.inl (jv_r_eq (by omega))))
  · exact Or.inr (Or.inr (Or.inr (Or.inl (jv_r_eq (by omega)))))
  · exact Or.inr (Or.inr (Or.inr (Or.inr (Or.inl (jv_r_eq (by omega))))))
  · exact Or.inr (Or.inr (Or.inr (Or.inr (Or.inr (Or.inl (jv_r_eq (by omega)))))))
  · exact Or.inr (Or.inr (Or.inr (Or.inr (Or.inr (Or.inr (Or.inl (jv_r_eq (by omega))))))))
  · exact Or.inr (Or.inr (Or.inr (Or.inr (Or.inr (Or.inr (Or.inr (Or.inl (jv_r_eq (by omega)))))))))
  · exact Or.inr (Or.inr (Or.inr (Or.inr (Or.inr (Or.inr (Or.inr (Or.inr (jv_r_eq (by omega)))))))))
set_option maxRecDepth 100000 in
set_option maxHeartbeats 8000000 in
theorem law_switch {l : Launch} {D : va_G} {kp : Nat → ClassId} {G : jv_G} {xs : Nat → Int32} (C : jv_C D vwCl kp G cL_law RL wsL_law room_1 jx_N) (hnl : jv_nL G = 4) (SS : jv_S G 6 xs) (QQ : jv_end l D vwCl kp G) {E : Nat → jv_E} (hX : jx_F E) : ∀ j, j < 64 → jv_V l D vwCl kp G 84 99182 84 E 33 [(3, .int 0), (2, .ref 58), (1, .ref 0), (0, .ref 1000000)] [.int (nI j)] := by
  intro j hj
  match j, hj with
  | 0, _ =>
    refine jv_tabIn (tgt := 256) C dL_law_33 (by decide) (by decide) rfl (by decide) ?_
    exact law_0 C hnl SS QQ hX rfl rfl rfl rfl rfl
  | 1, _ =>
    refine jv_tabIn (tgt := 319) C dL_law_33 (by decide) (by decide) rfl (by decide) ?_
    exact law_1 C hnl SS QQ hX rfl rfl rfl rfl rfl
  | 2, _ =>
    refine jv_tabIn (tgt := 342) C dL_law_33 (by decide) (by decide) rfl (by decide) ?_
    exact law_2 C hnl SS QQ hX rfl rfl rfl rfl rfl
  | 3, _ =>
    refine jv_tabIn (tgt := 355) C dL_law_33 (by decide) (by decide) rfl (by decide) ?_
    exact law_3 C hnl SS QQ hX rfl rfl rfl rfl rfl
  | 4, _ =>
    refine jv_tabIn (tgt := 378) C dL_law_33 (by decide) (by decide) rfl (by decide) ?_
    exact law_4 C hnl SS QQ hX rfl rfl rfl rfl rfl
  | 5, _ =>
    refine jv_tabIn (tgt := 421) C dL_law_33 (by decide) (by decide) rfl (by decide) ?_
    exact law_5 C hnl SS QQ hX rfl rfl rfl rfl rfl
  | 6, _ =>
    refine jv_tabIn (tgt := 444) C dL_law_33 (by decide) (by decide) rfl (by decide) ?_
    exact law_6 C hnl SS QQ hX rfl rfl rfl rfl rfl
  | 7, _ =>
    refine jv_tabIn (tgt := 457) C dL_law_33 (by decide) (by decide) rfl (by decide) ?_
    exact law_7 C hnl SS QQ hX rfl rfl rfl rfl rfl
  | 8, _ =>
    refine jv_tabIn (tgt := 510) C dL_law_33 (by decide) (by decide) rfl (by decide) ?_
    exact law_8 C hnl SS QQ hX rfl rfl rfl rfl rfl
  | 9, _ =>
    refine jv_tabIn (tgt := 553) C dL_law_33 (by decide) (by decide) rfl (by decide) ?_
    exact law_9 C hnl SS QQ hX rfl rfl rfl rfl rfl
  | 10, _ =>
    refine jv_tabIn (tgt := 586) C dL_law_33 (by decide) (by decide) rfl (by decide) ?_
    exact law_10 C hnl SS QQ hX rfl rfl rfl rfl rfl
  | 11, _ =>
    refine jv_tabIn (tgt := 599) C dL_law_33 (by decide) (by decide) rfl (by decide) ?_
    exact law_11 C hnl SS QQ hX rfl rfl rfl rfl rfl
  | 12, _ =>
    refine jv_tabIn (tgt := 622) C dL_law_33 (by decide) (by decide) rfl (by decide) ?_
    exact law_12 C hnl SS QQ hX rfl rfl rfl rfl rfl
  | 13, _ =>
    refine jv_tabIn (tgt := 635) C dL_law_33 (by decide) (by decide) rfl (by decide) ?_
    exact law_13 C hnl SS QQ hX rfl rfl rfl rfl rfl
  | 14, _ =>
    refine jv_tabIn (tgt := 668) C dL_law_33 (by decide) (by decide) rfl (by decide) ?_
    exact law_14 C hnl SS QQ hX rfl rfl rfl rfl rfl
  | 15, _ =>
    refine jv_tabIn (tgt := 691) C dL_law_33 (by decide) (by decide) rfl (by decide) ?_
    exact law_15 C hnl SS QQ hX rfl rfl rfl rfl rfl
  | 16, _ =>
    refine jv_tabIn (tgt := 744) C dL_law_33 (by decide) (by decide) rfl (by decide) ?_
    exact law_16 C hnl SS QQ hX rfl rfl rfl rfl rfl
  | 17, _ =>
    refine jv_tabIn (tgt := 787) C dL_law_33 (by decide) (by decide) rfl (by decide) ?_
    exact law_17 C hnl SS QQ hX rfl rfl rfl rfl rfl
  | 18, _ =>
    refine jv_tabIn (tgt := 800) C dL_law_33 (by decide) (by decide) rfl (by decide) ?_
    exact law_18 C hnl SS QQ hX rfl rfl rfl rfl rfl
  | 19, _ =>
    refine jv_tabIn (tgt := 853) C dL_law_33 (by decide) (by decide) rfl (by decide) ?_
    exact law_19 C hnl SS QQ hX rfl rfl rfl rfl rfl
  | 20, _ =>
    refine jv_tabIn (tgt := 876) C dL_law_33 (by decide) (by decide) rfl (by decide) ?_
    exact law_20 C hnl SS QQ hX rfl rfl rfl rfl rfl
  | 21, _ =>
    refine jv_tabIn (tgt := 899) C dL_law_33 (by decide) (by decide) rfl (by decide) ?_
    exact law_21 C hnl SS QQ hX rfl rfl rfl rfl rfl
  | 22, _ =>
    refine jv_tabIn (tgt := 922) C dL_law_33 (by decide) (by decide) rfl (by decide) ?_
    exact law_22 C hnl SS QQ hX rfl rfl rfl rfl rfl
  | 23, _ =>
    refine jv_tabIn (tgt := 956) C dL_law_33 (by decide) (by decide) rfl (by decide) ?_
    exact law_23 C hnl SS QQ hX rfl rfl rfl rfl rfl
  | 24, _ =>
    refine jv_tabIn (tgt := 989) C dL_law_33 (by decide) (by decide) rfl (by decide) ?_
    exact law_24 C hnl SS QQ hX rfl rfl rfl rfl rfl
  | 25, _ =>
    refine jv_tabIn (tgt := 1022) C dL_law_33 (by decide) (by decide) rfl (by decide) ?_
    exact law_25 C hnl SS QQ hX rfl rfl rfl rfl rfl
  | 26, _ =>
    refine jv_tabIn (tgt := 1045) C dL_law_33 (by decide) (by decide) rfl (by decide) ?_
    exact law_26 C hnl SS QQ hX rfl rfl rfl rfl rfl
  | 27, _ =>
    refine jv_tabIn (tgt := 1078) C dL_law_33 (by decide) (by decide) rfl (by decide) ?_
    exact law_27 C hnl SS QQ hX rfl rfl rfl rfl rfl
  | 28, _ =>
    refine jv_tabIn (tgt := 1111) C dL_law_33 (by decide) (by decide) rfl (by decide) ?_
    exact law_28 C hnl SS QQ hX rfl rfl rfl rfl rfl
  | 29, _ =>
    refine jv_tabIn (tgt := 1144) C dL_law_33 (by decide) (by decide) rfl (by decide) ?_
    exact law_29 C hnl SS QQ hX rfl rfl rfl rfl rfl
  | 30, _ =>
    refine jv_tabIn (tgt := 1187) C dL_law_33 (by decide) (by decide) rfl (by decide) ?_
    exact law_30 C hnl SS QQ hX rfl rfl rfl rfl rfl
  | 31, _ =>
    refine jv_tabIn (tgt := 1240) C dL_law_33 (by decide) (by decide) rfl (by decide) ?_
    exact law_31 C hnl SS QQ hX rfl rfl rfl rfl rfl
  | 32, _ =>
    refine jv_tabIn (tgt := 1273) C dL_law_33 (by decide) (by decide) rfl (by decide) ?_
    exact law_32 C hnl SS QQ hX rfl rfl rfl rfl rfl
  | 33, _ =>
    refine jv_tabIn (tgt := 1326) C dL_law_33 (by decide) (by decide) rfl (by decide) ?_
    exact law_33 C hnl SS QQ hX rfl rfl rfl rfl rfl
  | 34, _ =>
    refine jv_tabIn (tgt := 1389) C dL_law_33 (by decide) (by decide) rfl (by decide) ?_
    exact law_34 C hnl SS QQ hX rfl rfl rfl rfl rfl
  | 35, _ =>
    refine jv_tabIn (tgt := 1433) C dL_law_33 (by decide) (by decide) rfl (by decide) ?_
    exact law_35 C hnl SS QQ hX rfl rfl rfl rfl rfl
  | 36, _ =>
    refine jv_tabIn (tgt := 1486) C dL_law_33 (by decide) (by decide) rfl (by decide) ?_
    exact law_36 C hnl SS QQ hX rfl rfl rfl rfl rfl
  | 37, _ =>
    refine jv_tabIn (tgt := 1539) C dL_law_33 (by decide) (by decide) rfl (by decide) ?_
    exact law_37 C hnl SS QQ hX rfl rfl rfl rfl rfl
  | 38, _ =>
    refine jv_tabIn (tgt := 1552) C dL_law_33 (by decide) (by decide) rfl (by decide) ?_
    exact law_38 C hnl SS QQ hX rfl rfl rfl rfl rfl
  | 39, _ =>
    refine jv_tabIn (tgt := 1585) C dL_law_33 (by decide) (by decide) rfl (by decide) ?_
    exact law_39 C hnl SS QQ hX rfl rfl rfl rfl rfl
  | 40, _ =>
    refine jv_tabIn (tgt := 1618) C dL_law_33 (by decide) (by decide) rfl (by decide) ?_
    exact law_40 C hnl SS QQ hX rfl rfl rfl rfl rfl
  | 41, _ =>
    refine jv_tabIn (tgt := 1641) C dL_law_33 (by decide) (by decide) rfl (by decide) ?_
    exact law_41 C hnl SS QQ hX rfl rfl rfl rfl rfl
  | 42, _ =>
    refine jv_tabIn (tgt := 1664) C dL_law_33 (by decide) (by decide) rfl (by decide) ?_
    exact law_42 C hnl SS QQ hX rfl rfl rfl rfl rfl
  | 43, _ =>
    refine jv_tabIn (tgt := 1707) C dL_law_33 (by decide) (by decide) rfl (by decide) ?_
    exact law_43 C hnl SS QQ hX rfl rfl rfl rfl rfl
  | 44, _ =>
    refine jv_tabIn (tgt := 1750) C dL_law_33 (by decide) (by decide) rfl (by decide) ?_
    exact law_44 C hnl SS QQ hX rfl rfl rfl rfl rfl
  | 45, _ =>
    refine jv_tabIn (tgt := 1783) C dL_law_33 (by decide) (by decide) rfl (by decide) ?_
    exact law_45 C hnl SS QQ hX rfl rfl rfl rfl rfl
  | 46, _ =>
    refine jv_tabIn (tgt := 1816) C dL_law_33 (by decide) (by decide) rfl (by decide) ?_
    rcases jx_sp9 (xs (1 : Int32).toNatClampNeg) with h | h | h | h | h | h | h | h | h | h | h
    · exact law_46_neg C hnl SS QQ hX rfl rfl rfl rfl rfl h
    · exact law_46_big C hnl SS QQ hX rfl rfl rfl rfl rfl h
    · exact law_46_0 (a1 := 0) C hnl SS QQ hX h rfl rfl rfl rfl
    · exact law_46_1 (a1 := 0) C hnl SS QQ hX h rfl rfl rfl rfl
    · exact law_46_2 (a1 := 0) C hnl SS QQ hX h rfl rfl rfl rfl
    · exact law_46_3 (a1 := 0) C hnl SS QQ hX h rfl rfl rfl rfl
    · exact law_46_4 (a1 := 0) C hnl SS QQ hX h rfl rfl rfl rfl
    · exact law_46_5 (a1 := 0) C hnl SS QQ hX h rfl rfl rfl rfl
    · exact law_46_6 (a1 := 0) C hnl SS QQ hX h rfl rfl rfl rfl
    · exact law_46_7 (a1 := 0) C hnl SS QQ hX h rfl rfl rfl rfl
    · exact law_46_8 (a1 := 0) C hnl SS QQ hX h rfl rfl rfl rfl
  | 47, _ =>
    refine jv_tabIn (tgt := 1839) C dL_law_33 (by decide) (by decide) rfl (by decide) ?_
    rcases jx_sp3 (xs (1 : Int32).toNatClampNeg) with h | h | h | h | h
    · exact law_47_neg C hnl SS QQ hX rfl rfl rfl rfl rfl h
    · exact law_47_big C hnl SS QQ hX rfl rfl rfl rfl rfl h
    · exact law_47_0 (a1 := 0) C hnl SS QQ hX h rfl rfl rfl rfl
    · exact law_47_1 (a1 := 0) C hnl SS QQ hX h rfl rfl rfl rfl
    · exact law_47_2 (a1 := 0) C hnl SS QQ hX h rfl rfl rfl rfl
  | 48, _ =>
    refine jv_tabIn (tgt := 1862) C dL_law_33 (by decide) (by decide) rfl (by decide) ?_
    rcases jx_sp3 (xs (1 : Int32).toNatClampNeg) with h | h | h | h | h
    · exact law_48_neg C hnl SS QQ hX rfl rfl rfl rfl rfl h
    · exact law_48_big C hnl SS QQ hX rfl rfl rfl rfl rfl h
    · exact law_48_0 (a1 := 0) C hnl SS QQ hX h rfl rfl rfl rfl
    · exact law_48_1 (a1 := 0) C hnl SS QQ hX h rfl rfl rfl rfl
    · exact law_48_2 (a1 := 0) C hnl SS QQ hX h rfl rfl rfl rfl
  | 49, _ =>
    refine jv_tabIn (tgt := 1885) C dL_law_33 (by decide) (by decide) rfl (by decide) ?_
    exact law_49 C hnl SS QQ hX rfl rfl rfl rfl rfl
  | 50, _ =>
    refine jv_tabIn (tgt := 1928) C dL_law_33 (by decide) (by decide) rfl (by decide) ?_
    exact law_50 C hnl SS QQ hX rfl rfl rfl rfl rfl
  | 51, _ =>
    refine jv_tabIn (tgt := 2001) C dL_law_33 (by decide) (by decide) rfl (by decide) ?_
    exact law_51 C hnl SS QQ hX rfl rfl rfl rfl rfl
  | 52, _ => exact jv_tabOut (tgt := 2064) C dL_law_33 (by decide) (by decide) (law_tail C hnl SS QQ _ _ _ (by decide) (by decide) _)
  | 53, _ => exact jv_tabOut (tgt := 2064) C dL_law_33 (by decide) (by decide) (law_tail C hnl SS QQ _ _ _ (by decide) (by decide) _)
  | 54, _ => exact jv_tabOut (tgt := 2064) C dL_law_33 (by decide) (by decide) (law_tail C hnl SS QQ _ _ _ (by decide) (by decide) _)
  | 55, _ => exact jv_tabOut (tgt := 2064) C dL_law_33 (by decide) (by decide) (law_tail C hnl SS QQ _ _ _ (by decide) (by decide) _)
  | 56, _ => exact jv_tabOut (tgt := 2064) C dL_law_33 (by decide) (by decide) (law_tail C hnl SS QQ _ _ _ (by decide) (by decide) _)
  | 57, _ => exact jv_tabOut (tgt := 2064) C dL_law_33 (by decide) (by decide) (law_tail C hnl SS QQ _ _ _ (by decide) (by decide) _)
  | 58, _ => exact jv_tabOut (tgt := 2064) C dL_law_33 (by decide) (by decide) (law_tail C hnl SS QQ _ _ _ (by decide) (by decide) _)
  | 59, _ => exact jv_tabOut (tgt := 2064) C dL_law_33 (by decide) (by decide) (law_tail C hnl SS QQ _ _ _ (by decide) (by decide) _)
  | 60, _ => exact jv_tabOut (tgt := 2064) C dL_law_33 (by decide) (by decide) (law_tail C hnl SS QQ _ _ _ (by decide) (by decide) _)
  | 61, _ => exact jv_tabOut (tgt := 2064) C dL_law_33 (by decide) (by decide) (law_tail C hnl SS QQ _ _ _ (by decide) (by decide) _)
  | 62, _ => exact jv_tabOut (tgt := 2064) C dL_law_33 (by decide) (by decide) (law_tail C hnl SS QQ _ _ _ (by decide) (by decide) _)
  | 63, _ => exact jv_tabOut (tgt := 2064) C dL_law_33 (by decide) (by decide) (law_tail C hnl SS QQ _ _ _ (by decide) (by decide) _)
  | j + 64, h => exact absurd h (by omega)
theorem q_X8_init : yX8_init.cls ≠ "java/lang/invoke/MethodHandle" ∧ yX8_init.cls ≠ "java/lang/invoke/VarHandle" ∧ (parseMethodDescriptor yX8_init.desc).map (fun d => d.parameters.length) = some 0 := by decide +kernel
theorem q_X9_init : yX9_init.cls ≠ "java/lang/invoke/MethodHandle" ∧ yX9_init.cls ≠ "java/lang/invoke/VarHandle" ∧ (parseMethodDescriptor yX9_init.desc).map (fun d => d.parameters.length) = some 0 := by decide +kernel
set_option maxRecDepth 100000 in
set_option maxHeartbeats 16000000 in
theorem law_main {l : Launch} {D : va_G} {kp : Nat → ClassId} {G : jv_G} {L : Nat} {xs : Nat → Int32} (hL : L ≤ 6) (C : jv_C D vwCl kp G cL_law RL wsL_law room_1 jx_N) (hnl : jv_nL G = 4) (SS : jv_S G L xs) (QQ : jv_end l D vwCl kp G) {E : Nat → jv_E} : jv_V l D vwCl kp G 0 0 0 E 0 [(0, .ref 1000000)] [] := by
  refine jv_new (ci := 8) (fs := [.null, .null, .null, .null, .null, .null, .null, .null, .null, .null, .null]) C (by decide) rfl inlX8 tyX8 tyX8_ok (List.mem_of_getElem? (i := 0) rfl) (List.mem_of_getElem? (i := 1) rfl) (List.mem_of_getElem? (i := 2) rfl) (by decide +kernel) (by decide +kernel) ⟨by decide, by decide⟩ dL_law_0 ?_
  refine jv_dup C dL_law_3 rfl ?_
  refine jv_callI (na := 0) (As := []) (st := [.ref 0]) C (c_X8_init l D kp (va_up_self _ _ _)) gL_law_X8_init rfl (List.mem_of_getElem? (i := 2) rfl) (List.mem_of_getElem? (i := 7) rfl) (List.mem_of_getElem? (i := 8) rfl) rfl rfl rfl q_X8_init rfl ⟨by decide, by decide⟩ ⟨by decide, by decide⟩ (fun _ h => h) (Nat.le_of_ble_eq_true rfl) rfl dL_law_4 (fun r n1 E1 hp _ => ?_)
  obtain ⟨rfl, rfl, -, e0, e1, e2, e3, e4, e5, e6, e7, e8, e9, e10, e11, e12, e13, e14, e15, e16, e17, e18, e19, e20, e21, e22, e23, e24, e25, e26, e27, e28, e29, e30, e31, e32, e33, e34, e35, e36, e37, e38, e39, e40, e41, e42, e43, e44, e45, e46, e47, e48, e49, e50, e51, e52, e53, e54, e55, e56, e57⟩ := hp
  show jv_V l D vwCl kp G 58 7073 58 E1 7 [(0, .ref 1000000)] [.ref 0]
  refine jv_astore_n (lv2 := [(1, .ref 0), (0, .ref 1000000)]) C dL_law_7 rfl hnl (by decide) rfl ?_
  refine jv_new (ci := 9) (fs := [.int 0, .null, .null, .null, .null, .null, .int 0, .int 0, .int 0, .int 0, .int 0, .long 0, .int 0, .int 0, .int 0, .int 0, .null, .null, .null, .null, .null, .null, .null, .null, .null, .null, .int 0, .null, .null, .null, .int 0, .int 0, .null, .null, .null, .int 0, .int 0, .int 0, .null, .null, .null, .long 0, .null, .int 0, .int 0, .int 0]) C (by decide) rfl inlX9 tyX9 tyX9_ok (List.mem_of_getElem? (i := 3) rfl) (List.mem_of_getElem? (i := 4) rfl) (List.mem_of_getElem? (i := 5) rfl) (by decide +kernel) (by decide +kernel) ⟨by decide, by decide⟩ dL_law_8 ?_
  refine jv_dup C dL_law_11 rfl ?_
  refine jv_callI (na := 0) (As := []) (st := [.ref 58]) C (c_X9_init l D kp (va_up_self _ _ _)) gL_law_X9_init rfl (List.mem_of_getElem? (i := 5) rfl) (List.mem_of_getElem? (i := 103) rfl) (List.mem_of_getElem? (i := 104) rfl) rfl rfl rfl q_X9_init rfl ⟨by decide, by decide⟩ ⟨by decide, by decide⟩ (fun _ h => absurd h List.not_mem_nil) (Nat.le_of_ble_eq_true rfl) rfl dL_law_12 (fun r n1 E2 hp _ => ?_)
  obtain ⟨rfl, rfl, hf, e58, e59, e60, e61, e62, e63, e64, e65, e66, e67, e68, e69, e70, e71, e72, e73, e74, e75, e76, e77, e78, e79, e80, e81, e82, e83⟩ := hp
  show jv_V l D vwCl kp G 84 99182 84 E2 15 [(1, .ref 0), (0, .ref 1000000)] [.ref 58]
  have hX : jx_F E2 := ⟨(hf 0 (by decide) (by decide)).trans (jv_n (by decide) e0), (hf 1 (by decide) (by decide)).trans (jv_n (by decide) e1), (hf 2 (by decide) (by decide)).trans (jv_n (by decide) e2), (hf 3 (by decide) (by decide)).trans (jv_n (by decide) e3), (hf 4 (by decide) (by decide)).trans (jv_n (by decide) e4), (hf 5 (by decide) (by decide)).trans (jv_n (by decide) e5), (hf 6 (by decide) (by decide)).trans (jv_n (by decide) e6), (hf 7 (by decide) (by decide)).trans (jv_n (by decide) e7), (hf 8 (by decide) (by decide)).trans (jv_n (by decide) e8), (hf 9 (by decide) (by decide)).trans (jv_n (by decide) e9), (hf 10 (by decide) (by decide)).trans (jv_n (by decide) e10), (hf 11 (by decide) (by decide)).trans (jv_n (by decide) e11), (hf 12 (by decide) (by decide)).trans (jv_n (by decide) e12), (hf 13 (by decide) (by decide)).trans (jv_n (by decide) e13), (hf 14 (by decide) (by decide)).trans (jv_n (by decide) e14), (hf 15 (by decide) (by decide)).trans (jv_n (by decide) e15), (hf 16 (by decide) (by decide)).trans (jv_n (by decide) e16), (hf 17 (by decide) (by decide)).trans (jv_n (by decide) e17), (hf 18 (by decide) (by decide)).trans (jv_n (by decide) e18), (hf 19 (by decide) (by decide)).trans (jv_n (by decide) e19), (hf 20 (by decide) (by decide)).trans (jv_n (by decide) e20), (hf 21 (by decide) (by decide)).trans (jv_n (by decide) e21), (hf 22 (by decide) (by decide)).trans (jv_n (by decide) e22), (hf 23 (by decide) (by decide)).trans (jv_n (by decide) e23), (hf 24 (by decide) (by decide)).trans (jv_n (by decide) e24), (hf 25 (by decide) (by decide)).trans (jv_n (by decide) e25), (hf 26 (by decide) (by decide)).trans (jv_n (by decide) e26), (hf 27 (by decide) (by decide)).trans (jv_n (by decide) e27), (hf 28 (by decide) (by decide)).trans (jv_n (by decide) e28), (hf 29 (by decide) (by decide)).trans (jv_n (by decide) e29), (hf 30 (by decide) (by decide)).trans (jv_n (by decide) e30), (hf 31 (by decide) (by decide)).trans (jv_n (by decide) e31), (hf 32 (by decide) (by decide)).trans (jv_n (by decide) e32), (hf 33 (by decide) (by decide)).trans (jv_n (by decide) e33), (hf 34 (by decide) (by decide)).trans (jv_n (by decide) e34), (hf 35 (by decide) (by decide)).trans (jv_n (by decide) e35), (hf 36 (by decide) (by decide)).trans (jv_n (by decide) e36), (hf 37 (by decide) (by decide)).trans (jv_n (by decide) e37), (hf 38 (by decide) (by decide)).trans (jv_n (by decide) e38), (hf 39 (by decide) (by decide)).trans (jv_n (by decide) e39), (hf 40 (by decide) (by decide)).trans (jv_n (by decide) e40), (hf 41 (by decide) (by decide)).trans (jv_n (by decide) e41), (hf 42 (by decide) (by decide)).trans (jv_n (by decide) e42), (hf 43 (by decide) (by decide)).trans (jv_n (by decide) e43), (hf 44 (by decide) (by decide)).trans (jv_n (by decide) e44), (hf 45 (by decide) (by decide)).trans (jv_n (by decide) e45), (hf 46 (by decide) (by decide)).trans (jv_n (by decide) e46), (hf 47 (by decide) (by decide)).trans (jv_n (by decide) e47), (hf 48 (by decide) (by decide)).trans (jv_n (by decide) e48), (hf 49 (by decide) (by decide)).trans (jv_n (by decide) e49), (hf 50 (by decide) (by decide)).trans (jv_n (by decide) e50), (hf 51 (by decide) (by decide)).trans (jv_n (by decide) e51), (hf 52 (by decide) (by decide)).trans (jv_n (by decide) e52), (hf 53 (by decide) (by decide)).trans (jv_n (by decide) e53), (hf 54 (by decide) (by decide)).trans (jv_n (by decide) e54), (hf 55 (by decide) (by decide)).trans (jv_n (by decide) e55), (hf 56 (by decide) (by decide)).trans (jv_n (by decide) e56), (hf 57 (by decide) (by decide)).trans (jv_n (by decide) e57), e58, e59, e60, e61, e62, e63, e64, e65, e66, e67, e68, e69, e70, e71, e72, e73, e74, e75, e76, e77, e78, e79, e80, e81, e82, e83⟩
  refine jv_astore_n (lv2 := [(2, .ref 58), (1, .ref 0), (0, .ref 1000000)]) C dL_law_15 rfl hnl (by decide) rfl ?_
  refine jv_iconst (v := 0) C dL_law_16 (by decide) ?_
  refine jv_istore_n (lv2 := [(3, .int 0), (2, .ref 58), (1, .ref 0), (0, .ref 1000000)]) C dL_law_17 rfl hnl (by decide) rfl ?_
  refine jv_iload_n C dL_law_18 0 rfl ?_
  refine jv_aload_n C dL_law_19 3 rfl ?_
  refine jv_slen C SS dL_law_20 ?_
  refine jv_bipush (v := 6) C dL_law_21 (by decide) ?_
  refine jv_isub C dL_law_23 ?_
  rcases Nat.lt_or_ge L 6 with h6 | h6
  · refine jv_icmp_gt (tgt := 2070) C dL_law_24 (by decide) (fun _ => ?_) (fun h => absurd (jx_l6 L h6) h)
    refine jv_iconst (v := 1) C dL_law_2070 (by decide) ?_
    exact QQ _ _ _ _ 2071 _ (by decide) (by decide) dL_law_2071
  · have h7 : L = 6 := Nat.le_antisymm hL h6
    subst h7
    refine jv_ti (y := 0) (by decide) ?_
    refine jv_icmp_gt (tgt := 2070) C dL_law_24 (by decide) (fun h => absurd h (by decide)) (fun _ => ?_)
    refine jv_aload_n C dL_law_27 3 rfl ?_
    refine jv_iload_n C dL_law_28 0 rfl ?_
    refine jv_sld C SS (jv_vi (by decide)) dL_law_29 ?_
    refine jv_bipush (v := 63) C dL_law_30 (by decide) ?_
    refine jv_iand C dL_law_32 ?_
    obtain ⟨j, hj, ej⟩ := pk_andE (xs (0 : Int32).toNatClampNeg) (m := 63) 6 (by decide)
    refine jv_ti ej ?_
    exact law_switch C hnl SS QQ hX j hj
set_option maxRecDepth 100000 in
set_option maxHeartbeats 8000000 in
theorem whole_start {p : Program} {e : Env} {s : State} {m : MethodId} {below : List Frame} {meth : Method} {c : Code} (l : Launch) {b L : Nat} {xs : Nat → Int32} (hL : L ≤ 6) (C0 : lw_At p s m meth c b L xs) : W p l e room_1 s m #[Value.ref b] below meth c s.heap [] 0 0 (lw_Z below #[Value.ref b] s) (entryFrame m ([Value.ref b] : List Value).toArray 4) := by
  obtain ⟨hx, hb, hr, hml, hown, hts, hX, hbl, hlocks, hgv⟩ := id C0
  obtain ⟨D, kp, hK⟩ := jx_known hts
  have C : jv_C D vwCl kp (p, e, room_1, s, m, #[Value.ref b], below, meth, c, (fun q : Nat => s.heap.size ≤ q), 4, 0, (fun _ => b), lw_Z below #[Value.ref b] s) cL_law RL wsL_law room_1 jx_N := ⟨hx, hb, hml, hown, fun w h => hts w (wsL_law_in w h), hK, fun _ h => h, hlocks, rfl, jx_Nw hts⟩
  have SS : jv_S (p, e, room_1, s, m, #[Value.ref b], below, meth, c, (fun q : Nat => s.heap.size ≤ q), 4, 0, (fun _ => b), lw_Z below #[Value.ref b] s) L xs := ⟨hX, hbl, Nat.not_le.mpr hbl⟩
  have QQ : jv_end l D vwCl kp (p, e, room_1, s, m, #[Value.ref b], below, meth, c, (fun q : Nat => s.heap.size ≤ q), 4, 0, (fun _ => b), lw_Z below #[Value.ref b] s) := by
    intro cs ss n E pc lv h1 h2 hd f H locs ls hP hD hS hE hL2 hs hn hf hl
    refine va_forget (fun q hq => hS.2.2 q hq) ?_
    refine W.widen (k := 600000) (n := 7302250) h1 h2 ?_
    exact lw_ret hx hb hr hlocks hd
  have hV := law_main (E := fun _ => .inr (0, [])) hL C rfl SS QQ
  have hl := lv_entry ([.ref b]) (n := 4) (Nat.le_of_ble_eq_true rfl)
  rw [lg_entry_eq]
  generalize (lg_sl ([.ref b]) ++ List.replicate (4 - (lg_sl ([.ref b])).length) Slot.unset).toArray = ls at hl ⊢
  exact hV (fun _ => b) s.heap [] ls (fun k q h => by simp [jv_W] at h) ⟨fun i j p q h => by simp [jv_W] at h, fun k q h => by simp [jv_W] at h⟩ va_S.rf (fun i h => absurd h (Nat.not_lt_zero i)) (fun q hq => by
    rw [List.mem_singleton.mp hq]
    intro k hk
    cases hk
    exact Or.inr (Nat.le_refl _)) (fun v h => by cases h) (Nat.le_refl _) (fun _ _ => rfl) hl
-- ===== YOUR PART ENDS =====
set_option maxHeartbeats 4000000 in
theorem lw_walk (l : Launch) (b : Addr) (xs : List Int32) : MetFree l x (headSpec (Jvm.Cond.code x code maxLocals ret :: tables_1) room_1) (lw_P b xs) (fun _ _ _ _ _ => True) lw_Q := by
  refine MetFree.of_bodyS (code := code) (maxLocals := maxLocals) (ret := ret) (by decide) ?_ ?_
  · intro args s m h hn
    obtain ⟨meth, c, h1, h2, h3, h4, h5, h6, -, -⟩ := Cond.code_spec hn (atoms_spec (ws := Jvm.Cond.code x code maxLocals ret :: tables_1) h _ List.mem_cons_self)
    exact ⟨meth, c, h1, h2, h3, h4, h5, h6⟩
  · intro p e s m args below meth c s₁ B hml0 hP _
    obtain ⟨rfl, hx, hbd, hgv⟩ := hP
    obtain ⟨scr, harrAt, hlist, hof, hsmall⟩ := hx
    obtain ⟨hcb, hkn, -, -⟩ := State.arrayAt?_spec harrAt
    have hown : s.vm.findClass R_law = some m.cls := findClass_of_methodNamed B.named
    have hts0 : ∀ c ∈ (Jvm.Cond.code x code maxLocals ret :: tables_1), c.before #[Value.ref b] s = true := atoms_spec (ws := Jvm.Cond.code x code maxLocals ret :: tables_1) B.pre
    have hts : ∀ w ∈ lw_tbl, w.before #[Value.ref b] s = true := k2_hts_sels lw_privs (fun w hw => hts0 w (List.mem_cons_of_mem _ hw)) lw_privs_ok
    have hml : c.maxLocals = 4 := B.maxLocals_eq (hts0 _ List.mem_cons_self)
    have X₀ : Stand p l e room_1 s m #[Value.ref b] below meth c s₁ [] 0 0 := Stand.of_body B
    have hh0 : s₁.heap = s.heap := by rw [B.state]; rfl
    have hsz : scr.slots.size = xs.length := by rw [← Array.length_toList, hlist, List.length_map]
    have hval : ∀ j : Nat, j < xs.length → scr.slots[j]? = some (.int (xs.getD j 0)) := fun j hj => by
      rw [← Array.getElem?_toList, hlist]
      simp [hj]
    have hbl : b < s.heap.size := (Array.getElem?_eq_some_iff.mp hcb).1
    have hX : va_X b xs.length (fun j => xs.getD j 0) s s.heap := ⟨scr, hcb, hof, hkn, hsz, hval⟩
    have K : W p l e room_1 s m #[Value.ref b] below meth c s₁.heap [] 0 0 (lw_Z below #[Value.ref b] s) (entryFrame m ([Value.ref b] : List Value).toArray 4) := by
      rw [hh0]
      exact whole_start l hbd ⟨B.exec, B.bytes, B.returns, hml, hown, hts, hX, hbl, B.notSynchronized, hgv⟩
    obtain ⟨t, a1, o, b1, b2, b3⟩ := K s₁ rfl X₀
    exact ⟨t, o, a1, b1, b2, b3⟩
theorem lw_pre_spec {args : Array Value} {s : State} (h : (Jvm.Cond.and given_1 narrow_1).before args s = true) (hr : rest_1_c.before args s = true) : ∃ (b : Addr) (xs : List Int32), lw_P b xs args s := by
  have hs := flat_of_before _ h
  have hq := flat_of_before _ hr
  have hc : (Cond.count 1).before args s = true := hs _ (by decide +kernel)
  have harr : (Cond.arrayOf (.arg 0) .int).before args s = true := hs _ (by decide +kernel)
  have hle : (Cond.le (.length (.arg 0)) (.int 6)).before args s = true := hs _ (by decide +kernel)
  have hlen : (Cond.isInt (.length (.arg 0))).before args s = true := hq _ (by decide +kernel)
  have hall : (Cond.all (.arg 0) (.isInt (.elem (.arg 0) (.index 0)))).before args s = true := hq _ (by decide +kernel)
  obtain ⟨b, xs, hb, hx⟩ := State.ints_of_pre rfl harr hlen hall
  have hsm : xs.length < 2 ^ 31 := hx.choose_spec.2.2.2
  have hev : (Term.length (.arg 0)).eval args s none [] s = some (.int xs.length.toInt32) := hx.length_eval hb
  have hv := Cond.le_ints hev (show (Term.int 6).eval args s none [] s = some (.int 6) from rfl)
  have hd : xs.length.toInt32 ≤ 6 := by
    simpa [Cond.before, Cond.holds, hv] using hle
  have hN : xs.length ≤ 6 := (Int32.ofNat_le_ofNat hsm (by decide)).mp (show Int32.ofNat xs.length ≤ Int32.ofNat 6 from hd)
  exact ⟨b, xs, Cond.one_arg hc (show args[0]? = some (.ref b) from hb), hx, hN, h⟩
theorem lw_comes (l : Launch) : Comes l x (Jvm.Cond.code x code maxLocals ret :: tables_1) room_1 (fun tb e args s => Calls_1 tb e args s ∧ rest_1 tb e args s ∧ Pre_1 tb e args s)
    (fun _ _ args s o t => lw_Q args s o t) := by
  intro p e ha hc hk s m args below hf hfit hheap happ hpre
  obtain ⟨b, xs, hP⟩ := lw_pre_spec hpre.2.2 hpre.2.1
  obtain ⟨k, o, h1, h2, h3, hQ⟩ := lw_walk l b xs p e ha hc hk s m args below hf ((Spec.applies_iff_loose hf).mp happ).1 hP trivial
  exact ⟨k, o, h1, h2, h3, hQ⟩
theorem lw_frame {s t : State} {o : Outcome} {args : Array Value} (h : Framed s o t [] 600000 7302250) :
    Framed s o t (fieldLocs frame_1_writes args s ++ arrayLocs frame_1_arrays args s ++ staticLocs frame_1_statics s) 600000 7302250 := h
theorem lw_limb (L : Cond) (hL : ∀ (args : Array Value) (s t : State), L.after args s (.returned (some (.int 1))) t = true) :
    ArmFor flags0 classFile x code maxLocals ret World_1 tables_1 room_1 Calls_1 rest_1 Pre_1
      (fun tb e a s o t => postC L tb e a s o t ∧ Framed s o t (fieldLocs frame_1_writes a s ++ arrayLocs frame_1_arrays a s ++ staticLocs frame_1_statics s) 600000 7302250) := by
  intro l _ _ _ p e ha hc hk s m args below hf hfit hheap happ hpre
  obtain ⟨k, o, h1, h2, h3, rfl, hF⟩ := lw_comes l p e ha hc hk s m args below hf hfit hheap happ hpre
  exact ⟨k, _, h1, h2, h3, hL args s _, lw_frame hF⟩
theorem i_vc : Claimed_1_1 ∧ Claimed_1_2 := ⟨lw_limb limb_1_1 (fun args s t => by simp [limb_1_1, Cond.after, Cond.holds, Cond.value]), lw_limb limb_1_2 (fun args s t => Cond.after_iff.mpr (by
  first | (rw [show limb_1_2 = Cond.eq .result (.int 1) from rfl, Cond.eq_ints (x := 1) (y := 1) rfl rfl]; simp; done) | (simp [limb_1_2, Cond.value, Term.eval]; done)))⟩
