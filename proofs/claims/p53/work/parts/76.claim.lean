/-! THE CLAIM OUT OF ONE WALK OF THE LAW'S BODY. Your part is whole_start (and what it stands on); all else here is the same for every law, but numbers. -/
def R_law : String := "JuggledPostLaw"
def lw_P (b : Addr) (xs : List Int32) (args : Array Value) (s : State) : Prop := args = #[.ref b] ∧ s.IntsAt b xs ∧ xs.length ≤ 3072 ∧ (Jvm.Cond.and given_1 narrow_1).before args s = true
def lw_Q (_ : Array Value) (s : State) (o : Outcome) (t : State) : Prop := o = .returned (some (.int 1)) ∧ Framed s o t [] 600000 7302250
def lw_Z (below : List Frame) (a : Array Value) (s : State) : State → Prop := fun t => ∃ o, t.status = .running ∧ Ended t below o ∧ lw_Q a s o t
/-- the law's own end, with 1 on the stack, nothing written that was there before, its room as the claim has it -/
theorem lw_ret {p : Program} {l : Launch} {e : Env} {s : State} {m : MethodId} {below : List Frame} {meth : Method} {c : Code} {b : Nat} (hx : p.tables.exec = Jvm.exec) (hb : c.code = code) (hr : meth.sig.returnType = ret) (hlocks : meth.locks = false) {pc : Nat} {H : Heap} {ls : Array Slot} (hdg : decode code pc = .ok (.ireturn, 1)) : W p l e room_1 s m #[Value.ref b] below meth c H [] 600000 7302250 (lw_Z below #[Value.ref b] s) (F0 m pc ls [.int 1]) := by
  intro T hT X
  obtain ⟨fs, hret, hrun, hended, hW, hframe⟩ := X.leave (v := some (.int 1)) (hlocks := hlocks) (fun h => by rw [hr] at h; cases h)
  have hmeth' : T.vm.method? m = some meth := X.method'
  refine ⟨T.setFrames fs, ?_, .returned (some (.int 1)), hrun, hended, rfl, ⟨_, rfl⟩, hW, hframe⟩
  jvm_step X.here [X.here.top, hx, hb, hdg, hmeth', hr, ret, narrow_b1]
  (try refine ⟨rfl, ?_⟩); (try refine ⟨rfl, ?_⟩)
  first | (intro acts; rw [hret _ acts rfl rfl rfl]) | rw [hret _ _ rfl rfl rfl]
  exact Steps.refl _
/-- what holds at the law's entry: the machine, the code, the tables' words (any of lw_tbl by 'hts w (by decide +kernel)'), the script of L ints xs at the cell b, what the Statement gives of the start (any of its parts by flat_of_before) -/
def lw_At (p : Program) (s : State) (m : MethodId) (meth : Method) (c : Code) (b L : Nat) (xs : Nat → Int32) : Prop :=
  p.tables.exec = Jvm.exec ∧ c.code = code ∧ meth.sig.returnType = ret ∧ c.maxLocals = 4 ∧ s.vm.findClass R_law = some m.cls ∧ (∀ w ∈ lw_tbl, w.before #[Value.ref b] s = true) ∧ va_X b L xs s s.heap ∧ b < s.heap.size ∧ meth.locks = false ∧ (Jvm.Cond.and given_1 narrow_1).before #[Value.ref b] s = true
set_option maxRecDepth 100000 in
theorem jx_known {s : State} {b : Nat} (hts : ∀ w ∈ lw_tbl, w.before #[Value.ref b] s = true) (ks : Nat → Nat) : ∃ (D : va_G) (kp : Nat → ClassId), va_K D vwCl (jv_T kp) s ∧ ∀ t, kp (t + 5) = ks (t + 5) := by
  obtain ⟨c0, i0, k0⟩ := u_known (C := RX0) (T := TX0) (N := 16) (n := 16) hts inX0 (hts (.instantiable RX0 16) (List.mem_of_getElem? (i := 132) rfl))
  obtain ⟨c1, i1, k1⟩ := u_known (C := RX1) (T := TX1) (N := 8) (n := 8) hts inX1 (hts (.instantiable RX1 8) (List.mem_of_getElem? (i := 262) rfl))
  obtain ⟨c2, i2, k2⟩ := u_known (C := RX2) (T := TX2) (N := 9) (n := 9) hts inX2 (hts (.instantiable RX2 9) (List.mem_of_getElem? (i := 299) rfl))
  obtain ⟨c3, i3, k3⟩ := u_known (C := RX3) (T := TX3) (N := 12) (n := 12) hts inX3 (hts (.instantiable RX3 12) (List.mem_of_getElem? (i := 214) rfl))
  obtain ⟨c4, i4, k4⟩ := u_known (C := RX4) (T := TX4) (N := 3) (n := 3) hts inX4 (hts (.instantiable RX4 3) (List.mem_of_getElem? (i := 391) rfl))
  obtain ⟨c5, i5, k5⟩ := u_known (C := RX5) (T := TX5) (N := 2) (n := 2) hts inX5 (hts (.instantiable RX5 2) (List.mem_of_getElem? (i := 337) rfl))
  obtain ⟨c6, i6, k6⟩ := u_known (C := RX6) (T := TX6) (N := 5) (n := 5) hts inX6 (hts (.instantiable RX6 5) (List.mem_of_getElem? (i := 366) rfl))
  obtain ⟨c7, i7, k7⟩ := u_known (C := RX7) (T := TX7) (N := 3) (n := 3) hts inX7 (hts (.instantiable RX7 3) (List.mem_of_getElem? (i := 350) rfl))
  obtain ⟨c8, i8, k8⟩ := u_known (C := RX8) (T := TX8) (N := 11) (n := 11) hts inX8 (hts (.instantiable RX8 11) (List.mem_of_getElem? (i := 124) rfl))
  obtain ⟨c9, i9, k9⟩ := u_known (C := RX9) (T := TX9) (N := 46) (n := 46) hts inX9 (hts (.instantiable RX9 46) (List.mem_of_getElem? (i := 1227) rfl))
  obtain ⟨a0, q0, o0, f0, g0, e0⟩ := Cond.arrayClass_spec (hts (.arrayClass .int) (List.mem_of_getElem? (i := 211) rfl))
  obtain ⟨a1, q1, o1, f1, g1, e1⟩ := Cond.arrayClass_spec (hts (.arrayClass .byte) (List.mem_of_getElem? (i := 260) rfl))
  obtain ⟨a2, q2, o2, f2, g2, e2⟩ := Cond.arrayClass_spec (hts (.arrayClass .boolean) (List.mem_of_getElem? (i := 259) rfl))
  obtain ⟨a3, q3, o3, f3, g3, e3⟩ := Cond.arrayClass_spec (hts (.arrayClass .long) (List.mem_of_getElem? (i := 411) rfl))
  obtain ⟨o4, a4, q4, d4, -, g4, e4, f4⟩ := Cond.arrayOver_spec (hts (.arrayOver (.object "JuggledPost$City")) (List.mem_of_getElem? (i := 212) rfl))
  refine ⟨(fun k => match k with | 0 => c0 | 1 => c1 | 2 => c2 | 3 => c3 | 4 => c4 | 5 => c5 | 6 => c6 | 7 => c7 | 8 => c8 | _ => c9, fun k => match k with | 0 => i0 | 1 => i1 | 2 => i2 | 3 => i3 | 4 => i4 | 5 => i5 | 6 => i6 | 7 => i7 | 8 => i8 | _ => i9), (fun t => match t with | 0 => a0 | 1 => a1 | 2 => a2 | 3 => a3 | 4 => a4 | t + 5 => ks (t + 5)), ⟨fun k q hq => ?_, fun k q hq => ?_⟩, fun _ => rfl⟩
  · match k, hq with
    | 0, hq => cases hq; exact k0
    | 1, hq => cases hq; exact k1
    | 2, hq => cases hq; exact k2
    | 3, hq => cases hq; exact k3
    | 4, hq => cases hq; exact k4
    | 5, hq => cases hq; exact k5
    | 6, hq => cases hq; exact k6
    | 7, hq => cases hq; exact k7
    | 8, hq => cases hq; exact k8
    | 9, hq => cases hq; exact k9
    | k + 10, hq => simp [vwCl] at hq
  · match k, hq with
    | 0, hq => cases hq; exact ⟨fun n z => ⟨fun k h => (by cases h), q0, g0, o0, e0⟩, f0⟩
    | 1, hq => cases hq; exact ⟨fun n z => ⟨fun k h => (by cases h), q1, g1, o1, e1⟩, f1⟩
    | 2, hq => cases hq; exact ⟨fun n z => ⟨fun k h => (by cases h), q2, g2, o2, e2⟩, f2⟩
    | 3, hq => cases hq; exact ⟨fun n z => ⟨fun k h => (by cases h), q3, g3, o3, e3⟩, f3⟩
    | 4, hq => cases hq; exact ⟨fun n z => ⟨fun k h => (by cases h), q4, g4, o4, e4⟩, q4, o4, g4, e4, d4, f4⟩
    | k + 5, hq => simp [jv_T] at hq
set_option maxRecDepth 100000 in
theorem jx_Nw {s : State} {b : Nat} {kp : Nat → ClassId} {f : Nat → Nat} {A : Nat → Prop} (hts : ∀ w ∈ lw_tbl, w.before #[Value.ref b] s = true) (hS : jz_S kp f A s s.heap) : jv_Nw ck_NN kp f A s := by
  refine ⟨fun q hq => ?_, va_AO.of (hts (.arrayOver (.object "JuggledPost$City")) (List.mem_of_getElem? (i := 212) rfl)), hS⟩
  simp only [ck_NN, List.mem_cons, List.not_mem_nil, or_false] at hq
  rcases hq with rfl | rfl | rfl | rfl | rfl | rfl | rfl
  · exact va_Nw.of rfl (hts (.methodLinkNest RX8 9 yX0_init "JuggledPost") (List.mem_of_getElem? (i := 133) rfl))
  · exact va_Nw.of rfl (hts (.methodLinkNest RX8 38 yX1_init "JuggledPost") (List.mem_of_getElem? (i := 263) rfl))
  · exact va_Nw.of rfl (hts (.methodLinkNest RX8 45 yX2_init "JuggledPost") (List.mem_of_getElem? (i := 300) rfl))
  · exact va_Nw.of rfl (hts (.methodLinkNest RX8 52 yX5_init "JuggledPost") (List.mem_of_getElem? (i := 338) rfl))
  · exact va_Nw.of rfl (hts (.methodLinkNest RX8 59 yX7_init "JuggledPost") (List.mem_of_getElem? (i := 351) rfl))
  · exact va_Nw.of rfl (hts (.methodLinkNest RX8 66 yX6_init "JuggledPost") (List.mem_of_getElem? (i := 367) rfl))
  · exact va_Nw.of rfl (hts (.methodLinkNest RX0 80 yX8_isWithin "JuggledPost") (List.mem_of_getElem? (i := 583) rfl))
def jx_tm (i : Nat) : Term := .string "JuggledPost$Scribe" ((jz_tx.getD i (0, "")).1)
set_option maxRecDepth 100000 in
set_option maxHeartbeats 8000000 in
theorem jx_S {s : State} {b : Nat} (hts : ∀ w ∈ lw_tbl, w.before #[Value.ref b] s = true) (hgv : (Jvm.Cond.and given_1 narrow_1).before #[Value.ref b] s = true) : ∃ (ks : Nat → Nat), ∀ (kp : Nat → ClassId) (f : Nat → Nat), (∀ t, kp (t + 5) = ks (t + 5)) → (∀ j, j < 15 → f (1000001 + j) = kp (1000 + j) ∧ f (2000001 + j) = kp (2000 + j)) → f 3000001 = kp 3000 → jz_S kp f (fun q : Nat => s.heap.size ≤ q) s s.heap := by
  have hs := flat_of_before _ hgv
  have hA : ∀ a : Nat, a < s.heap.size → ¬ (fun q : Nat => s.heap.size ≤ q) a := fun a h => Nat.not_le.mpr h
  have m1 : ∀ i, i < 15 → Cond.exactly (jx_tm i) "java/lang/String" ∈ flatC (Jvm.Cond.and given_1 narrow_1) := by decide +kernel
  have m2 : ∀ i, i < 15 → Cond.eq (.field (jx_tm i) "java/lang/String" "coder" "B") (.int 0) ∈ flatC (Jvm.Cond.and given_1 narrow_1) := by decide +kernel
  have m3 : ∀ i, i < 15 → Cond.arrayOf (.field (jx_tm i) "java/lang/String" "value" "[B") .byte ∈ flatC (Jvm.Cond.and given_1 narrow_1) := by decide +kernel
  have m4 : ∀ i, i < 15 → Cond.eq (.length (.field (jx_tm i) "java/lang/String" "value" "[B")) (.int (Int32.ofNat (jz_len.getD i 0))) ∈ flatC (Jvm.Cond.and given_1 narrow_1) := by decide +kernel
  have m5 : ∀ i, i < 15 → ∀ j, j < jz_len.getD i 0 → Cond.eq (.elem (.field (jx_tm i) "java/lang/String" "value" "[B") (.int (Int32.ofNat j))) (.int ((jz_byt.getD i []).getD j 0)) ∈ flatC (Jvm.Cond.and given_1 narrow_1) := by decide +kernel
  have m6 : ∀ j, j < 15 → ∀ i, i < j → Cond.not (Cond.eq (jx_tm i) (jx_tm j)) ∈ flatC (Jvm.Cond.and given_1 narrow_1) := by decide +kernel
  obtain ⟨adK, adV, h1, h2⟩ := vk_Sof (args := #[Value.ref b]) (s := s) (N := 15) (tm := jx_tm) (len := jz_len) (byt := jz_byt) (A := fun q : Nat => s.heap.size ≤ q) (by decide) (fun i hi => hs _ (m1 i hi)) (fun i hi => hs _ (m2 i hi)) (fun i hi => hs _ (m3 i hi)) (fun i hi => hs _ (m4 i hi)) (fun i hi j hj => hs _ (m5 i hi j hj)) (fun i j hi hj hne => by
    rcases Nat.lt_or_gt_of_ne hne with q | q
    · exact Or.inl (hs _ (m6 j hj i q))
    · exact Or.inr (hs _ (m6 i hi j q))) hA
  have z1 : va_Z "java/lang/String" "COMPACT_STRINGS" "Z" (.int 1) (fun q : Nat => s.heap.size ≤ q) s s.heap := va_Zof (args := #[Value.ref b]) (hts (.laysStatic "java/lang/String" "COMPACT_STRINGS" "Z") (List.mem_of_getElem? (i := 519) rfl)) (hts (.initialized "java/lang/String") (List.mem_of_getElem? (i := 117) rfl)) (va_eqt (hs _ (by decide +kernel))) hA
  have z2 : va_Zq "jdk/internal/util/Preconditions" "SIOOBE_FORMATTER" "Ljava/util/function/BiFunction;" (fun q : Nat => s.heap.size ≤ q) s s.heap := va_Zqof (args := #[Value.ref b]) (hts (.laysStatic "jdk/internal/util/Preconditions" "SIOOBE_FORMATTER" "Ljava/util/function/BiFunction;") (List.mem_of_getElem? (i := 535) rfl)) (hts (.initialized "jdk/internal/util/Preconditions") (List.mem_of_getElem? (i := 119) rfl)) (hs _ (by decide +kernel)) hA
  have r0 : ∀ (j : Nat) (q : Nat × String), jz_tx[j]? = some q → (Cond.stringRef "JuggledPost$Scribe" q.1 q.2).before #[Value.ref b] s = true ∧ j < 15 ∧ jx_tm j = .string "JuggledPost$Scribe" q.1 := fun j q hq => by
    match j, hq with
    | 0, hq => cases hq; exact ⟨hts (.stringRef "JuggledPost$Scribe" 99 "roofs") (List.mem_of_getElem? (i := 501) rfl), by decide, rfl⟩
    | 1, hq => cases hq; exact ⟨hts (.stringRef "JuggledPost$Scribe" 64 "thrower") (List.mem_of_getElem? (i := 586) rfl), by decide, rfl⟩
    | 2, hq => cases hq; exact ⟨hts (.stringRef "JuggledPost$Scribe" 126 "plain") (List.mem_of_getElem? (i := 599) rfl), by decide, rfl⟩
    | 3, hq => cases hq; exact ⟨hts (.stringRef "JuggledPost$Scribe" 128 "left") (List.mem_of_getElem? (i := 600) rfl), by decide, rfl⟩
    | 4, hq => cases hq; exact ⟨hts (.stringRef "JuggledPost$Scribe" 130 "slow") (List.mem_of_getElem? (i := 601) rfl), by decide, rfl⟩
    | 5, hq => cases hq; exact ⟨hts (.stringRef "JuggledPost$Scribe" 132 "blind") (List.mem_of_getElem? (i := 602) rfl), by decide, rfl⟩
    | 6, hq => cases hq; exact ⟨hts (.stringRef "JuggledPost$Scribe" 134 "learner") (List.mem_of_getElem? (i := 603) rfl), by decide, rfl⟩
    | 7, hq => cases hq; exact ⟨hts (.stringRef "JuggledPost$Scribe" 73 "throws") (List.mem_of_getElem? (i := 608) rfl), by decide, rfl⟩
    | 8, hq => cases hq; exact ⟨hts (.stringRef "JuggledPost$Scribe" 143 "to") (List.mem_of_getElem? (i := 617) rfl), by decide, rfl⟩
    | 9, hq => cases hq; exact ⟨hts (.stringRef "JuggledPost$Scribe" 78 "cross") (List.mem_of_getElem? (i := 623) rfl), by decide, rfl⟩
    | 10, hq => cases hq; exact ⟨hts (.stringRef "JuggledPost$Scribe" 83 "letter") (List.mem_of_getElem? (i := 632) rfl), by decide, rfl⟩
    | 11, hq => cases hq; exact ⟨hts (.stringRef "JuggledPost$Scribe" 160 "at") (List.mem_of_getElem? (i := 637) rfl), by decide, rfl⟩
    | 12, hq => cases hq; exact ⟨hts (.stringRef "JuggledPost$Scribe" 88 "gusts") (List.mem_of_getElem? (i := 642) rfl), by decide, rfl⟩
    | 13, hq => cases hq; exact ⟨hts (.stringRef "JuggledPost$Scribe" 166 "from") (List.mem_of_getElem? (i := 647) rfl), by decide, rfl⟩
    | 14, hq => cases hq; exact ⟨hts (.stringRef "JuggledPost$Scribe" 171 "odds") (List.mem_of_getElem? (i := 648) rfl), by decide, rfl⟩
    | j + 15, hq => simp [jz_tx] at hq
  have main : ∀ (c9 : Nat), (va_Z "jdk/internal/util/Preconditions" "SIOOBE_FORMATTER" "Ljava/util/function/BiFunction;" .null (fun q : Nat => s.heap.size ≤ q) s s.heap ∨ va_Z "jdk/internal/util/Preconditions" "SIOOBE_FORMATTER" "Ljava/util/function/BiFunction;" (.ref c9) (fun q : Nat => s.heap.size ≤ q) s s.heap) → ∃ (ks : Nat → Nat), ∀ (kp : Nat → ClassId) (f : Nat → Nat), (∀ t, kp (t + 5) = ks (t + 5)) → (∀ j, j < 15 → f (1000001 + j) = kp (1000 + j) ∧ f (2000001 + j) = kp (2000 + j)) → f 3000001 = kp 3000 → jz_S kp f (fun q : Nat => s.heap.size ≤ q) s s.heap := fun c9 hc9 => by
    refine ⟨fun t => if t < 2000 then adK (t - 1000) else if t < 3000 then adV (t - 2000) else c9, fun kp f hkp hf hf3 => ?_⟩
    have eK : ∀ j, j < 15 → kp (1000 + j) = adK j := fun j hj => by
      have e := hkp (995 + j)
      rw [show 995 + j + 5 = 1000 + j by omega] at e
      dsimp only at e
      rw [if_pos (by omega), show 1000 + j - 1000 = j by omega] at e
      exact e
    have eV : ∀ j, j < 15 → kp (2000 + j) = adV j := fun j hj => by
      have e := hkp (1995 + j)
      rw [show 1995 + j + 5 = 2000 + j by omega] at e
      dsimp only at e
      rw [if_neg (by omega), if_pos (by omega), show 2000 + j - 2000 = j by omega] at e
      exact e
    have e9 : kp 3000 = c9 := hkp 2995
    refine ⟨hf, ⟨fun i hi => ?_, fun i j hi hj h => h1.2 i j hi hj ?_⟩, z1, ?_, fun j q hq => ?_⟩
    · have a := h1.1 i hi
      rw [← eK i hi, ← eV i hi] at a
      exact a
    · rw [← eK i hi, ← eK j hj]; exact h
    · rcases hc9 with h | h
      · exact Or.inl h
      · exact Or.inr ⟨by rw [e9]; exact h, hf3⟩
    · obtain ⟨a1, a2, a3⟩ := r0 j q hq
      have a4 := h2 j a2
      rw [a3, ← eK j a2] at a4
      exact vk_R.of a1 a4
  rcases z2 with h | ⟨t, h⟩
  · exact main 0 (Or.inl h)
  · exact main t (Or.inr h)
set_option maxRecDepth 100000 in
set_option maxHeartbeats 16000000 in
theorem law_main {l : Launch} {D : va_G} {kp : Nat → ClassId} {G : jv_G} {L : Nat} {xs : Nat → Int32} (hL : L ≤ 3072) (C : jv_C D vwCl kp G cL_law RL wsL_law room_1 ck_NN) (C2 : jv_C D vwCl kp G cL_law (ck_nm (ck_mo 9998)) (ck_ws 9998) room_1 ck_NN) (hnl : jv_nL G = 4) (SS : jv_S G L xs) (QQ : jv_end l D vwCl kp G) {E : Nat → jv_E} : jv_V l D vwCl kp G 0 0 0 E 0 [(0, .ref 1000000)] [] := by
  refine jv_new (ci := 8) (fs := [.null, .null, .null, .null, .null, .null, .null, .null, .null, .null, .null]) C (by decide) rfl inlX8 tyX8 tyX8_ok (List.mem_of_getElem? (i := 0) rfl) (List.mem_of_getElem? (i := 1) rfl) (List.mem_of_getElem? (i := 2) rfl) (by decide +kernel) (by decide +kernel) ⟨by decide, by decide⟩ dL_law_0 ?_
  refine jv_dup C dL_law_3 rfl ?_
  refine jv_callI (na := 0) (As := []) (st := [.ref 0]) C (c_X8_init l D kp (va_up_self _ _ _)) gL_law_X8_init rfl (List.mem_of_getElem? (i := 2) rfl) (List.mem_of_getElem? (i := 7) rfl) (List.mem_of_getElem? (i := 8) rfl) rfl rfl rfl q_X8_init rfl ⟨by decide, by decide⟩ ⟨by decide, by decide⟩ (fun _ h => List.mem_append_left [(RX0, 80, yX8_isWithin, "JuggledPost")] h) (Nat.le_of_ble_eq_true rfl) rfl dL_law_4 (fun r n1 E1 hp _ => ?_)
  obtain ⟨rfl, rfl, -, e0, e1, e2, e3, e4, e5, e6, e7, e8, e9, e10, e11, e12, e13, e14, e15, e16, e17, e18, e19, e20, e21, e22, e23, e24, e25, e26, e27, e28, e29, e30, e31, e32, e33, e34, e35, e36, e37, e38, e39, e40, e41, e42, e43, e44, e45, e46, e47, e48, e49, e50, e51, e52, e53, e54, e55, e56, e57⟩ := hp
  show jv_V l D vwCl kp G 58 7073 58 E1 7 [(0, .ref 1000000)] [.ref 0]
  refine jv_astore_n (lv2 := [(1, .ref 0), (0, .ref 1000000)]) C dL_law_7 rfl hnl (by decide) rfl ?_
  refine jv_new (ci := 9) (fs := [.int 0, .null, .null, .null, .null, .null, .int 0, .int 0, .int 0, .int 0, .int 0, .long 0, .int 0, .int 0, .int 0, .int 0, .null, .null, .null, .null, .null, .null, .null, .null, .null, .null, .int 0, .null, .null, .null, .int 0, .int 0, .null, .null, .null, .int 0, .int 0, .int 0, .null, .null, .null, .long 0, .null, .int 0, .int 0, .int 0]) C (by decide) rfl inlX9 tyX9 tyX9_ok (List.mem_of_getElem? (i := 3) rfl) (List.mem_of_getElem? (i := 4) rfl) (List.mem_of_getElem? (i := 5) rfl) (by decide +kernel) (by decide +kernel) ⟨by decide, by decide⟩ dL_law_8 ?_
  refine jv_dup C dL_law_11 rfl ?_
  refine jv_callI (na := 0) (As := []) (st := [.ref 58]) C (c_X9_init l D kp (va_up_self _ _ _)) gL_law_X9_init rfl (List.mem_of_getElem? (i := 5) rfl) (List.mem_of_getElem? (i := 103) rfl) (List.mem_of_getElem? (i := 104) rfl) rfl rfl rfl q_X9_init rfl ⟨by decide, by decide⟩ ⟨by decide, by decide⟩ (fun _ h => absurd h List.not_mem_nil) (Nat.le_of_ble_eq_true rfl) rfl dL_law_12 (fun r n1 E2 hp _ => ?_)
  obtain ⟨rfl, rfl, hf, e58, e59, e60, e61, e62, e63, e64, e65, e66, e67, e68, e69, e70, e71, e72, e73, e74, e75, e76, e77, e78, e79, e80, e81, e82, e83⟩ := hp
  show jv_V l D vwCl kp G 84 99182 84 E2 15 [(1, .ref 0), (0, .ref 1000000)] [.ref 58]
  have hX : jx_F E2 := ⟨(hf 0 (by decide) (by decide)).trans (jv_n (by decide) e0), (hf 1 (by decide) (by decide)).trans (jv_n (by decide) e1), (hf 2 (by decide) (by decide)).trans (jv_n (by decide) e2), (hf 3 (by decide) (by decide)).trans (jv_n (by decide) e3), (hf 4 (by decide) (by decide)).trans (jv_n (by decide) e4), (hf 5 (by decide) (by decide)).trans (jv_n (by decide) e5), (hf 6 (by decide) (by decide)).trans (jv_n (by decide) e6), (hf 7 (by decide) (by decide)).trans (jv_n (by decide) e7), (hf 8 (by decide) (by decide)).trans (jv_n (by decide) e8), (hf 9 (by decide) (by decide)).trans (jv_n (by decide) e9), (hf 10 (by decide) (by decide)).trans (jv_n (by decide) e10), (hf 11 (by decide) (by decide)).trans (jv_n (by decide) e11), (hf 12 (by decide) (by decide)).trans (jv_n (by decide) e12), (hf 13 (by decide) (by decide)).trans (jv_n (by decide) e13), (hf 14 (by decide) (by decide)).trans (jv_n (by decide) e14), (hf 15 (by decide) (by decide)).trans (jv_n (by decide) e15), (hf 16 (by decide) (by decide)).trans (jv_n (by decide) e16), (hf 17 (by decide) (by decide)).trans (jv_n (by decide) e17), (hf 18 (by decide) (by decide)).trans (jv_n (by decide) e18), (hf 19 (by decide) (by decide)).trans (jv_n (by decide) e19), (hf 20 (by decide) (by decide)).trans (jv_n (by decide) e20), (hf 21 (by decide) (by decide)).trans (jv_n (by decide) e21), (hf 22 (by decide) (by decide)).trans (jv_n (by decide) e22), (hf 23 (by decide) (by decide)).trans (jv_n (by decide) e23), (hf 24 (by decide) (by decide)).trans (jv_n (by decide) e24), (hf 25 (by decide) (by decide)).trans (jv_n (by decide) e25), (hf 26 (by decide) (by decide)).trans (jv_n (by decide) e26), (hf 27 (by decide) (by decide)).trans (jv_n (by decide) e27), (hf 28 (by decide) (by decide)).trans (jv_n (by decide) e28), (hf 29 (by decide) (by decide)).trans (jv_n (by decide) e29), (hf 30 (by decide) (by decide)).trans (jv_n (by decide) e30), (hf 31 (by decide) (by decide)).trans (jv_n (by decide) e31), (hf 32 (by decide) (by decide)).trans (jv_n (by decide) e32), (hf 33 (by decide) (by decide)).trans (jv_n (by decide) e33), (hf 34 (by decide) (by decide)).trans (jv_n (by decide) e34), (hf 35 (by decide) (by decide)).trans (jv_n (by decide) e35), (hf 36 (by decide) (by decide)).trans (jv_n (by decide) e36), (hf 37 (by decide) (by decide)).trans (jv_n (by decide) e37), (hf 38 (by decide) (by decide)).trans (jv_n (by decide) e38), (hf 39 (by decide) (by decide)).trans (jv_n (by decide) e39), (hf 40 (by decide) (by decide)).trans (jv_n (by decide) e40), (hf 41 (by decide) (by decide)).trans (jv_n (by decide) e41), (hf 42 (by decide) (by decide)).trans (jv_n (by decide) e42), (hf 43 (by decide) (by decide)).trans (jv_n (by decide) e43), (hf 44 (by decide) (by decide)).trans (jv_n (by decide) e44), (hf 45 (by decide) (by decide)).trans (jv_n (by decide) e45), (hf 46 (by decide) (by decide)).trans (jv_n (by decide) e46), (hf 47 (by decide) (by decide)).trans (jv_n (by decide) e47), (hf 48 (by decide) (by decide)).trans (jv_n (by decide) e48), (hf 49 (by decide) (by decide)).trans (jv_n (by decide) e49), (hf 50 (by decide) (by decide)).trans (jv_n (by decide) e50), (hf 51 (by decide) (by decide)).trans (jv_n (by decide) e51), (hf 52 (by decide) (by decide)).trans (jv_n (by decide) e52), (hf 53 (by decide) (by decide)).trans (jv_n (by decide) e53), (hf 54 (by decide) (by decide)).trans (jv_n (by decide) e54), (hf 55 (by decide) (by decide)).trans (jv_n (by decide) e55), (hf 56 (by decide) (by decide)).trans (jv_n (by decide) e56), (hf 57 (by decide) (by decide)).trans (jv_n (by decide) e57), e58, e59, e60, e61, e62, e63, e64, e65, e66, e67, e68, e69, e70, e71, e72, e73, e74, e75, e76, e77, e78, e79, e80, e81, e82, e83⟩
  refine jv_astore_n (lv2 := [(2, .ref 58), (1, .ref 0), (0, .ref 1000000)]) C dL_law_15 rfl hnl (by decide) rfl ?_
  refine jv_Ecg (E2 := va_up E2 300 (.inl (0, L, .inl xs))) (fun i hi => (va_up_ne _ _ (by omega)).symm) ?_
  have hX3 : jx_F (va_up E2 300 (.inl (0, L, .inl xs))) := hX
  refine jv_lpk [2, 1, 0] rfl ?_
  refine ck_law_ok (e := ceLaw) (pg := pg_L) (ND := cdLaw) gaLaw_ok pg_L_ok C2 ⟨⟨rfl, rfl⟩, by decide, by decide⟩ (hnl.trans rfl) SS hL (fun n9 E9 pc9 lv9 hd9 => QQ _ _ n9 E9 pc9 lv9 (by decide) (by decide) hd9) chLaw _ (List.mem_of_getElem? (i := 0) rfl) (fun _ => (L : Int)) _ _ _ rfl (va_up_self _ _ _) ⟨fr_gi hX3, ⟨?_, ?_⟩, ?_, trivial, ?_, fr_gf hX3⟩
  · refine List.forall_mem_cons.mpr ⟨?_, List.forall_mem_cons.mpr ⟨?_, fun _ h => absurd h List.not_mem_nil⟩⟩
    · show (0 : Int) ≤ 0 + (1 * (L : Int) + 0)
      omega
    · show (0 : Int) ≤ 3072 + (-1 * (L : Int) + 0)
      omega
  · exact fun f hf => ck_wb_ok (List.all_eq_true.mp (show List.all _ (ck_wb 1) = true from rfl) f hf)
  · exact ⟨rfl, rfl, rfl, rfl, rfl, rfl, trivial⟩
  · exact (List.forall_mem_cons.mpr ⟨⟨⟨ck_wb_ok rfl, ck_wb_ok rfl⟩, (show (0 : Int) ≤ 0 + 0 by decide), fr_108 hX3 0⟩, (List.forall_mem_cons.mpr ⟨⟨⟨ck_wb_ok rfl, ck_wb_ok rfl⟩, (show (0 : Int) ≤ 1 + 0 by decide), fr_108 hX3 1⟩, (List.forall_mem_cons.mpr ⟨⟨⟨ck_wb_ok rfl, ck_wb_ok rfl⟩, (show (0 : Int) ≤ 2 + 0 by decide), fr_108 hX3 2⟩, (List.forall_mem_cons.mpr ⟨⟨⟨ck_wb_ok rfl, ck_wb_ok rfl⟩, (show (0 : Int) ≤ 3 + 0 by decide), fr_108 hX3 3⟩, (List.forall_mem_cons.mpr ⟨⟨⟨ck_wb_ok rfl, ck_wb_ok rfl⟩, (show (0 : Int) ≤ 0 + 0 by decide), fr_n34 hX3⟩, (List.forall_mem_cons.mpr ⟨⟨⟨ck_wb_ok rfl, ck_wb_ok rfl⟩, (show (0 : Int) ≤ 1 + 0 by decide), fr_n34 hX3⟩, (List.forall_mem_cons.mpr ⟨⟨⟨ck_wb_ok rfl, ck_wb_ok rfl⟩, (show (0 : Int) ≤ 2 + 0 by decide), fr_n34 hX3⟩, (List.forall_mem_cons.mpr ⟨⟨⟨ck_wb_ok rfl, ck_wb_ok rfl⟩, (show (0 : Int) ≤ 3 + 0 by decide), fr_n34 hX3⟩, (List.forall_mem_cons.mpr ⟨⟨⟨ck_wb_ok rfl, ck_wb_ok rfl⟩, (show (0 : Int) ≤ 0 + 0 by decide), fr_n35_0 hX3⟩, (List.forall_mem_cons.mpr ⟨⟨⟨ck_wb_ok rfl, ck_wb_ok rfl⟩, (show (0 : Int) ≤ 1 + 0 by decide), fr_n35_1 hX3⟩, (List.forall_mem_cons.mpr ⟨⟨⟨ck_wb_ok rfl, ck_wb_ok rfl⟩, (show (0 : Int) ≤ 2 + 0 by decide), fr_n35_2 hX3⟩, (List.forall_mem_cons.mpr ⟨⟨⟨ck_wb_ok rfl, ck_wb_ok rfl⟩, (show (0 : Int) ≤ 3 + 0 by decide), fr_n35_3 hX3⟩, (List.forall_mem_cons.mpr ⟨⟨⟨ck_wb_ok rfl, ck_wb_ok rfl⟩, (show (0 : Int) ≤ 0 + 0 by decide), fr_n59_0 hX3⟩, (List.forall_mem_cons.mpr ⟨⟨⟨ck_wb_ok rfl, ck_wb_ok rfl⟩, (show (0 : Int) ≤ 1 + 0 by decide), fr_n59_1 hX3⟩, (List.forall_mem_cons.mpr ⟨⟨⟨ck_wb_ok rfl, ck_wb_ok rfl⟩, (show (0 : Int) ≤ 2 + 0 by decide), fr_n59_2 hX3⟩, (List.forall_mem_cons.mpr ⟨⟨⟨ck_wb_ok rfl, ck_wb_ok rfl⟩, (show (0 : Int) ≤ 3 + 0 by decide), fr_n59_3 hX3⟩, (List.forall_mem_cons.mpr ⟨⟨⟨ck_wb_ok rfl, ck_wb_ok rfl⟩, (show (0 : Int) ≤ 0 + 0 by decide), fr_n60 hX3⟩, (List.forall_mem_cons.mpr ⟨⟨⟨ck_wb_ok rfl, ck_wb_ok rfl⟩, (show (0 : Int) ≤ 1 + 0 by decide), fr_n60 hX3⟩, (List.forall_mem_cons.mpr ⟨⟨⟨ck_wb_ok rfl, ck_wb_ok rfl⟩, (show (0 : Int) ≤ 2 + 0 by decide), fr_n60 hX3⟩, (List.forall_mem_cons.mpr ⟨⟨⟨ck_wb_ok rfl, ck_wb_ok rfl⟩, (show (0 : Int) ≤ 3 + 0 by decide), fr_n60 hX3⟩, (fun _ h => absurd h List.not_mem_nil)⟩)⟩)⟩)⟩)⟩)⟩)⟩)⟩)⟩)⟩)⟩)⟩)⟩)⟩)⟩)⟩)⟩)⟩)⟩)⟩)
def jx_f (kp : Nat → ClassId) (b : Nat) : Nat → Nat := fun i => if i = 1000000 then b else if i < 1000016 then kp (1000 + (i - 1000001)) else if i < 2000016 then kp (2000 + (i - 2000001)) else kp 3000
set_option maxRecDepth 100000 in
set_option maxHeartbeats 8000000 in
theorem whole_start {p : Program} {e : Env} {s : State} {m : MethodId} {below : List Frame} {meth : Method} {c : Code} (l : Launch) {b L : Nat} {xs : Nat → Int32} (hL : L ≤ 3072) (hcode : (Jvm.Cond.code x code maxLocals ret).before #[Value.ref b] s = true) (C0 : lw_At p s m meth c b L xs) : W p l e room_1 s m #[Value.ref b] below meth c s.heap [] 0 0 (lw_Z below #[Value.ref b] s) (entryFrame m ([Value.ref b] : List Value).toArray 4) := by
  obtain ⟨hx, hb, hr, hml, hown, hts, hX, hbl, hlocks, hgv⟩ := id C0
  obtain ⟨ks, hks⟩ := jx_S hts hgv
  obtain ⟨D, kp, hK, hkp⟩ := jx_known hts ks
  have hS := hks kp (jx_f kp b) hkp (fun j hj => ⟨by unfold jx_f; rw [if_neg (by omega), if_pos (by omega), show 1000001 + j - 1000001 = j by omega], by unfold jx_f; rw [if_neg (by omega), if_neg (by omega), if_pos (by omega), show 2000001 + j - 2000001 = j by omega]⟩) rfl
  have hN := jx_Nw hts hS
  have C : jv_C D vwCl kp (p, e, room_1, s, m, #[Value.ref b], below, meth, c, (fun q : Nat => s.heap.size ≤ q), 4, 0, jx_f kp b, lw_Z below #[Value.ref b] s) cL_law RL wsL_law room_1 ck_NN := ⟨hx, hb, hml, hown, fun w h => hts w (wsL_law_in w h), hK, fun _ h => h, hlocks, rfl, hN⟩
  have C2 : jv_C D vwCl kp (p, e, room_1, s, m, #[Value.ref b], below, meth, c, (fun q : Nat => s.heap.size ≤ q), 4, 0, jx_f kp b, lw_Z below #[Value.ref b] s) cL_law (ck_nm (ck_mo 9998)) (ck_ws 9998) room_1 ck_NN := ⟨hx, hb, hml, hown, (fun w h => (List.mem_cons.mp h).elim (fun q => by rw [q]; exact hcode) (fun q => hts w (List.mem_filter.mp q).1)), hK, fun _ h => h, hlocks, rfl, hN⟩
  have SS : jv_S (p, e, room_1, s, m, #[Value.ref b], below, meth, c, (fun q : Nat => s.heap.size ≤ q), 4, 0, jx_f kp b, lw_Z below #[Value.ref b] s) L xs := ⟨hX, hbl, Nat.not_le.mpr hbl⟩
  have QQ : jv_end l D vwCl kp (p, e, room_1, s, m, #[Value.ref b], below, meth, c, (fun q : Nat => s.heap.size ≤ q), 4, 0, jx_f kp b, lw_Z below #[Value.ref b] s) := by
    intro cs ss n E pc lv h1 h2 hd f H locs ls hP hD hS hE hL2 hs hn hf hl
    refine va_forget (fun q hq => hS.2.2 q hq) ?_
    refine W.widen (k := 600000) (n := 7302250) h1 h2 ?_
    exact lw_ret hx hb hr hlocks hd
  have hV := law_main (E := fun _ => .inr (0, [])) hL C C2 rfl SS QQ
  have hl := lv_entry ([.ref b]) (n := 4) (Nat.le_of_ble_eq_true rfl)
  rw [lg_entry_eq]
  generalize (lg_sl ([.ref b]) ++ List.replicate (4 - (lg_sl ([.ref b])).length) Slot.unset).toArray = ls at hl ⊢
  exact hV (jx_f kp b) s.heap [] ls (fun k q h => by simp [jv_W] at h) ⟨fun i j p q h => by simp [jv_W] at h, fun k q h => by simp [jv_W] at h⟩ va_S.rf (fun i h => absurd h (Nat.not_lt_zero i)) (fun q hq => by
    rw [List.mem_singleton.mp hq]
    intro k hk
    cases hk
    exact Or.inr (Nat.le_refl _)) (fun v h => by cases h) (Nat.le_refl _) (fun _ _ => rfl) hl
-- ===== YOUR PART ENDS =====
set_option maxHeartbeats 4000000 in
theorem lw_walk (l : Launch) (b : Addr) (xs : List Int32) : MetFree l x (headSpec (Jvm.Cond.code x code maxLocals ret :: tables_1) room_1) (lw_P b xs) (fun _ _ _ _ _ => True) lw_Q := by
  refine MetFree.of_bodyS (code := code) (maxLocals := maxLocals) (ret := ret) (by decide) ?_ ?_
  · intro args s m h hn
    obtain ⟨meth, c, h1, h2, h3, h4, h5, h6, -, -⟩ := Cond.code_spec hn (atoms_spec (ws := Jvm.Cond.code x code maxLocals ret :: tables_1) h _ List.mem_cons_self)
    exact ⟨meth, c, h1, h2, h3, h4, h5, h6⟩
  · intro p e s m args below meth c s₁ B hml0 hP _
    obtain ⟨rfl, hx, hbd, hgv⟩ := hP
    obtain ⟨scr, harrAt, hlist, hof, hsmall⟩ := hx
    obtain ⟨hcb, hkn, -, -⟩ := State.arrayAt?_spec harrAt
    have hown : s.vm.findClass R_law = some m.cls := findClass_of_methodNamed B.named
    have hts0 : ∀ c ∈ (Jvm.Cond.code x code maxLocals ret :: tables_1), c.before #[Value.ref b] s = true := atoms_spec (ws := Jvm.Cond.code x code maxLocals ret :: tables_1) B.pre
    have hts : ∀ w ∈ lw_tbl, w.before #[Value.ref b] s = true := k2_hts_sels lw_privs (fun w hw => hts0 w (List.mem_cons_of_mem _ hw)) lw_privs_ok
    have hml : c.maxLocals = 4 := B.maxLocals_eq (hts0 _ List.mem_cons_self)
    have X₀ : Stand p l e room_1 s m #[Value.ref b] below meth c s₁ [] 0 0 := Stand.of_body B
    have hh0 : s₁.heap = s.heap := by rw [B.state]; rfl
    have hsz : scr.slots.size = xs.length := by rw [← Array.length_toList, hlist, List.length_map]
    have hval : ∀ j : Nat, j < xs.length → scr.slots[j]? = some (.int (xs.getD j 0)) := fun j hj => by
      rw [← Array.getElem?_toList, hlist]
      simp [hj]
    have hbl : b < s.heap.size := (Array.getElem?_eq_some_iff.mp hcb).1
    have hX : va_X b xs.length (fun j => xs.getD j 0) s s.heap := ⟨scr, hcb, hof, hkn, hsz, hval⟩
    have K : W p l e room_1 s m #[Value.ref b] below meth c s₁.heap [] 0 0 (lw_Z below #[Value.ref b] s) (entryFrame m ([Value.ref b] : List Value).toArray 4) := by
      rw [hh0]
      exact whole_start l hbd (hts0 _ List.mem_cons_self) ⟨B.exec, B.bytes, B.returns, hml, hown, hts, hX, hbl, B.notSynchronized, hgv⟩
    obtain ⟨t, a1, o, b1, b2, b3⟩ := K s₁ rfl X₀
    exact ⟨t, o, a1, b1, b2, b3⟩
theorem lw_pre_spec {args : Array Value} {s : State} (h : (Jvm.Cond.and given_1 narrow_1).before args s = true) (hr : rest_1_c.before args s = true) : ∃ (b : Addr) (xs : List Int32), lw_P b xs args s := by
  have hs := flat_of_before _ h
  have hq := flat_of_before _ hr
  have hc : (Cond.count 1).before args s = true := hs _ (by decide +kernel)
  have harr : (Cond.arrayOf (.arg 0) .int).before args s = true := hs _ (by decide +kernel)
  have hle : (Cond.le (.length (.arg 0)) (.int 3072)).before args s = true := hs _ (by decide +kernel)
  have hlen : (Cond.isInt (.length (.arg 0))).before args s = true := hq _ (by decide +kernel)
  have hall : (Cond.all (.arg 0) (.isInt (.elem (.arg 0) (.index 0)))).before args s = true := hq _ (by decide +kernel)
  obtain ⟨b, xs, hb, hx⟩ := State.ints_of_pre rfl harr hlen hall
  have hsm : xs.length < 2 ^ 31 := hx.choose_spec.2.2.2
  have hev : (Term.length (.arg 0)).eval args s none [] s = some (.int xs.length.toInt32) := hx.length_eval hb
  have hv := Cond.le_ints hev (show (Term.int 3072).eval args s none [] s = some (.int 3072) from rfl)
  have hd : xs.length.toInt32 ≤ 3072 := by
    simpa [Cond.before, Cond.holds, hv] using hle
  have hN : xs.length ≤ 3072 := (Int32.ofNat_le_ofNat hsm (by decide)).mp (show Int32.ofNat xs.length ≤ Int32.ofNat 3072 from hd)
  exact ⟨b, xs, Cond.one_arg hc (show args[0]? = some (.ref b) from hb), hx, hN, h⟩
theorem lw_comes (l : Launch) : Comes l x (Jvm.Cond.code x code maxLocals ret :: tables_1) room_1 (fun tb e args s => Calls_1 tb e args s ∧ rest_1 tb e args s ∧ Pre_1 tb e args s)
    (fun _ _ args s o t => lw_Q args s o t) := by
  intro p e ha hc hk s m args below hf hfit hheap happ hpre
  obtain ⟨b, xs, hP⟩ := lw_pre_spec hpre.2.2 hpre.2.1
  obtain ⟨k, o, h1, h2, h3, hQ⟩ := lw_walk l b xs p e ha hc hk s m args below hf ((Spec.applies_iff_loose hf).mp happ).1 hP trivial
  exact ⟨k, o, h1, h2, h3, hQ⟩
theorem lw_frame {s t : State} {o : Outcome} {args : Array Value} (h : Framed s o t [] 600000 7302250) :
    Framed s o t (fieldLocs frame_1_writes args s ++ arrayLocs frame_1_arrays args s ++ staticLocs frame_1_statics s) 600000 7302250 := h
theorem lw_limb (L : Cond) (hL : ∀ (args : Array Value) (s t : State), L.after args s (.returned (some (.int 1))) t = true) :
    ArmFor flags0 classFile x code maxLocals ret World_1 tables_1 room_1 Calls_1 rest_1 Pre_1
      (fun tb e a s o t => postC L tb e a s o t ∧ Framed s o t (fieldLocs frame_1_writes a s ++ arrayLocs frame_1_arrays a s ++ staticLocs frame_1_statics s) 600000 7302250) := by
  intro l _ _ _ p e ha hc hk s m args below hf hfit hheap happ hpre
  obtain ⟨k, o, h1, h2, h3, rfl, hF⟩ := lw_comes l p e ha hc hk s m args below hf hfit hheap happ hpre
  exact ⟨k, _, h1, h2, h3, hL args s _, lw_frame hF⟩
theorem i_vc : Claimed_1_1 ∧ Claimed_1_2 := ⟨lw_limb limb_1_1 (fun args s t => by simp [limb_1_1, Cond.after, Cond.holds, Cond.value]), lw_limb limb_1_2 (fun args s t => Cond.after_iff.mpr (by
  first | (rw [show limb_1_2 = Cond.eq .result (.int 1) from rfl, Cond.eq_ints (x := 1) (y := 1) rfl rfl]; simp; done) | (simp [limb_1_2, Cond.value, Term.eval]; done)))⟩
