/-! THE LOGICAL MACHINE: cells by their numbers 0 .. n-1; a value .ref k means the cell of number k; from 1000000 on: cells that are not ours (the script) -/
def jv_v (f : Nat → Nat) (v : Value) : Value := match v with
  | .ref k => .ref (f k)
  | x => x
theorem jv_v_cat (f : Nat → Nat) (v : Value) : (jv_v f v).category = v.category := by cases v <;> rfl
abbrev jv_E : Type := (Nat × vp_A) ⊕ (Nat × List Value)
def jv_a (f : Nat → Nat) (a : vp_A) : vp_A := (a.1, match a.2 with
  | .inr (.inr (.inr (.inr g))) => .inr (.inr (.inr (.inr (fun j => (g j).map f))))
  | x => x)
def jv_e (f : Nat → Nat) (kp : Nat → ClassId) (e : jv_E) : va_E := match e with
  | .inl q => .inl (kp q.1, jv_a f q.2)
  | .inr q => .inr (q.1, q.2.map (jv_v f))
def jv_W (n : Nat) (f : Nat → Nat) (kp : Nat → ClassId) (E : Nat → jv_E) : va_W := (List.range n).map (fun i => (f i, jv_e f kp (E i)))
def jv_T (kp : Nat → ClassId) : List (ClassId × FieldType) := [(kp 0, .int), (kp 1, .byte), (kp 2, .boolean), (kp 3, .long), (kp 4, .object "JuggledPost$City")]
def jv_ok (n : Nat) (v : Value) : Prop := ∀ k, v = .ref k → (k < n ∨ 1000000 ≤ k)
def jv_oke (n : Nat) (e : jv_E) : Prop := match e with
  | .inl q => ∀ g : Nat → Option Nat, q.2.2 = .inr (.inr (.inr (.inr g))) → ∀ j k, g j = some k → k < n
  | .inr q => ∀ v ∈ q.2, jv_ok n v
theorem jv_ok_i {n : Nat} {x : Int32} : jv_ok n (.int x) := fun _ h => by cases h
theorem jv_ok_l {n : Nat} {x : Int64} : jv_ok n (.long x) := fun _ h => by cases h
theorem jv_ok_n {n : Nat} : jv_ok n .null := fun _ h => by cases h
theorem jv_ok_r {n k : Nat} (h : k < n) : jv_ok n (.ref k) := fun _ e => by cases e; exact Or.inl h
theorem jv_lt {n k : Nat} (h : jv_ok n (.ref k)) (hk : k < 1000000) : k < n := (h k rfl).resolve_right (Nat.not_le.mpr hk)
theorem jv_ok_up {n m : Nat} (h : n ≤ m) {v : Value} (hv : jv_ok n v) : jv_ok m v := fun k e => (hv k e).imp (fun h2 => Nat.lt_of_lt_of_le h2 h) id
theorem jv_oke_up {n m : Nat} (h : n ≤ m) {e : jv_E} (he : jv_oke n e) : jv_oke m e := by
  cases e with
  | inl q => exact fun g hg j k hk => Nat.lt_of_lt_of_le (he g hg j k hk) h
  | inr q => exact fun v hv => jv_ok_up h (he v hv)
theorem jv_get {n : Nat} {f : Nat → Nat} {kp : Nat → ClassId} {E : Nat → jv_E} {k : Nat} (h : k < n) : (jv_W n f kp E)[k]? = some (f k, jv_e f kp (E k)) := by
  simp [jv_W, h]
theorem jv_len {n : Nat} {f : Nat → Nat} {kp : Nat → ClassId} {E : Nat → jv_E} : (jv_W n f kp E).length = n := by simp [jv_W]
theorem jv_set {n : Nat} {f : Nat → Nat} {kp : Nat → ClassId} {E : Nat → jv_E} {k : Nat} (h : k < n) (c : jv_E) : (jv_W n f kp E).set k (f k, jv_e f kp c) = jv_W n f kp (va_up E k c) := by
  apply List.ext_getElem?
  intro i
  rw [List.getElem?_set]
  by_cases hi : k = i
  · subst hi
    rw [if_pos rfl, jv_len, if_pos h, jv_get h, va_up_self]
  · rw [if_neg hi]
    by_cases hn : i < n
    · rw [jv_get hn, jv_get hn, va_up_ne _ _ (fun e => hi e.symm)]
    · rw [List.getElem?_eq_none (by rw [jv_len]; omega), List.getElem?_eq_none (by rw [jv_len]; omega)]
theorem jv_v_congr {n : Nat} {f g : Nat → Nat} (h : ∀ i, (i < n ∨ 1000000 ≤ i) → g i = f i) {v : Value} (hv : jv_ok n v) : jv_v g v = jv_v f v := by
  cases v <;> first | rfl | (rename_i k; show Value.ref (g k) = Value.ref (f k); rw [h k (hv k rfl)])
theorem jv_vs_congr {n : Nat} {f g : Nat → Nat} (h : ∀ i, (i < n ∨ 1000000 ≤ i) → g i = f i) {vs : List Value} (hv : ∀ v ∈ vs, jv_ok n v) : vs.map (jv_v g) = vs.map (jv_v f) :=
  List.map_congr_left (fun v hm => jv_v_congr h (hv v hm))
theorem jv_lv_congr {n : Nat} {f g : Nat → Nat} (h : ∀ i, (i < n ∨ 1000000 ≤ i) → g i = f i) {lv : List (Nat × Value)} (hv : ∀ q ∈ lv, jv_ok n q.2) : lv.map (fun q => (q.1, jv_v g q.2)) = lv.map (fun q => (q.1, jv_v f q.2)) :=
  List.map_congr_left (fun q hm => by rw [jv_v_congr h (hv q hm)])
theorem jv_e_congr {n : Nat} {f g : Nat → Nat} {kp : Nat → ClassId} (h : ∀ i, (i < n ∨ 1000000 ≤ i) → g i = f i) {e : jv_E} (he : jv_oke n e) : jv_e g kp e = jv_e f kp e := by
  cases e with
  | inl q =>
    obtain ⟨t, z, a⟩ := q
    show (Sum.inl (kp t, jv_a g (z, a)) : va_E) = Sum.inl (kp t, jv_a f (z, a))
    have key : jv_a g (z, a) = jv_a f (z, a) := by
      rcases a with a | a | a | a | a
      · rfl
      · rfl
      · rfl
      · rfl
      · show ((z, .inr (.inr (.inr (.inr (fun j => (a j).map g))))) : vp_A) = (z, .inr (.inr (.inr (.inr (fun j => (a j).map f)))))
        have : (fun j => (a j).map g) = (fun j => (a j).map f) := by
          funext j
          cases hj : a j with
          | none => rfl
          | some k => exact congrArg some (h k (Or.inl (he a rfl j k hj)))
        rw [this]
    rw [key]
  | inr q =>
    show (Sum.inr (q.1, q.2.map (jv_v g)) : va_E) = Sum.inr (q.1, q.2.map (jv_v f))
    rw [jv_vs_congr h he]
theorem jv_push {n : Nat} {f : Nat → Nat} {kp : Nat → ClassId} {E : Nat → jv_E} {q : Nat} {c : jv_E} (hn : n < 1000000) (hE : ∀ i, i < n → jv_oke n (E i)) (hc : jv_oke n c) : jv_W n f kp E ++ [(q, jv_e f kp c)] = jv_W (n + 1) (va_up f n q) kp (va_up E n c) := by
  have hf : ∀ i, (i < n ∨ 1000000 ≤ i) → va_up f n q i = f i := fun i hi => va_up_ne _ _ (by omega)
  apply List.ext_getElem?
  intro i
  by_cases hi : i < n
  · rw [List.getElem?_append_left (by rw [jv_len]; exact hi), jv_get hi, jv_get (Nat.lt_succ_of_lt hi), va_up_ne E c (Nat.ne_of_lt hi), hf i (Or.inl hi), jv_e_congr hf (hE i hi)]
  · by_cases hi2 : i = n
    · subst hi2
      rw [List.getElem?_append_right (by rw [jv_len]; exact Nat.le_refl _), jv_len, Nat.sub_self, jv_get (Nat.lt_succ_self _), va_up_self, va_up_self, jv_e_congr hf hc]
      rfl
    · rw [List.getElem?_eq_none (by rw [List.length_append, jv_len]; simp; omega), List.getElem?_eq_none (by rw [jv_len]; omega)]
theorem jv_i_lt {x y : Int32} (h : x < y) : x.toInt < y.toInt := Int32.lt_iff_toInt_lt.mp h
theorem jv_i_le {x y : Int32} (h : x ≤ y) : x.toInt ≤ y.toInt := Int32.le_iff_toInt_le.mp h
theorem jv_i_nlt {x y : Int32} (h : ¬ x < y) : y.toInt ≤ x.toInt := Int.not_lt.mp (fun q => h (Int32.lt_iff_toInt_lt.mpr q))
theorem jv_i_nle {x y : Int32} (h : ¬ x ≤ y) : y.toInt < x.toInt := Int.not_le.mp (fun q => h (Int32.le_iff_toInt_le.mpr q))
theorem jv_i_eq {x y : Int32} (h : x = y) : x.toInt = y.toInt := congrArg _ h
theorem jv_i_ne {x y : Int32} (h : ¬ x = y) : ¬ x.toInt = y.toInt := fun q => h (Int32.toInt_inj.mp q)
theorem jv_r_lt {x y : Int32} (h : x.toInt < y.toInt) : x < y := Int32.lt_iff_toInt_lt.mpr h
theorem jv_r_le {x y : Int32} (h : x.toInt ≤ y.toInt) : x ≤ y := Int32.le_iff_toInt_le.mpr h
theorem jv_r_nlt {x y : Int32} (h : y.toInt ≤ x.toInt) : ¬ x < y := fun q => Int.not_lt.mpr h (jv_i_lt q)
theorem jv_r_nle {x y : Int32} (h : y.toInt < x.toInt) : ¬ x ≤ y := fun q => Int.not_le.mpr h (jv_i_le q)
theorem jv_r_eq {x y : Int32} (h : x.toInt = y.toInt) : x = y := Int32.toInt_inj.mp h
theorem jv_r_ne {x y : Int32} (h : ¬ x.toInt = y.toInt) : ¬ x = y := fun q => h (jv_i_eq q)
theorem jv_lc_lt {x y : Int64} (h : lg_cmp x y < 0) : x.toInt < y.toInt := by
  by_cases q : y ≤ x
  · exact absurd ((lg_cmp_ge x y).mpr q) (fun r => by have a := jv_i_lt h; have b := jv_i_le r; omega)
  · exact Int.not_le.mp (fun r => q (Int64.le_iff_toInt_le.mpr r))
theorem jv_lc_nlt {x y : Int64} (h : ¬ lg_cmp x y < 0) : y.toInt ≤ x.toInt := Int64.le_iff_toInt_le.mp ((lg_cmp_ge x y).mp (jv_r_le (jv_i_nlt h)))
theorem jv_lc_ge {x y : Int64} (h : 0 ≤ lg_cmp x y) : y.toInt ≤ x.toInt := Int64.le_iff_toInt_le.mp ((lg_cmp_ge x y).mp h)
theorem jv_lc_nge {x y : Int64} (h : ¬ 0 ≤ lg_cmp x y) : x.toInt < y.toInt := jv_lc_lt (jv_r_lt (jv_i_nle h))
theorem jv_lc_gt {x y : Int64} (h : 0 < lg_cmp x y) : y.toInt < x.toInt := by
  unfold lg_cmp at h
  by_cases q : x > y
  · exact Int64.lt_iff_toInt_lt.mp q
  · rw [if_neg q] at h
    by_cases r : x = y
    · rw [if_pos r] at h; exact absurd h (by decide)
    · rw [if_neg r] at h; exact absurd h (by decide)
theorem jv_lc_ngt {x y : Int64} (h : ¬ 0 < lg_cmp x y) : x.toInt ≤ y.toInt := by
  unfold lg_cmp at h
  by_cases q : x > y
  · rw [if_pos q] at h; exact absurd (by decide) h
  · exact Int.not_lt.mp (fun r => q (Int64.lt_iff_toInt_lt.mpr r))
theorem jv_lc_le {x y : Int64} (h : lg_cmp x y ≤ 0) : x.toInt ≤ y.toInt := jv_lc_ngt (jv_r_nlt (jv_i_le h))
theorem jv_lc_nle {x y : Int64} (h : ¬ lg_cmp x y ≤ 0) : y.toInt < x.toInt := jv_lc_gt (jv_r_lt (jv_i_nle h))
theorem jv_lc_eq {x y : Int64} (h : lg_cmp x y = 0) : x.toInt = y.toInt := by
  have a := jv_lc_ge (x := x) (y := y) (by rw [h]; decide)
  have b := jv_lc_le (x := x) (y := y) (by rw [h]; decide)
  omega
theorem jv_lc_self (x : Int64) : lg_cmp x x = 0 := by
  unfold lg_cmp
  rw [if_neg (fun h => by have := Int64.lt_iff_toInt_lt.mp h; omega), if_pos rfl]
theorem jv_n {E : Nat → jv_E} {k j : Nat} {c x : jv_E} (h : j ≠ k) (e : E j = x) : va_up E k c j = x := (va_up_ne _ _ h).trans e
/-- the machine, the frame and the way back -/
abbrev jv_G : Type := Program × Env × Room × State × MethodId × Array Value × List Frame × Method × Code × (Nat → Prop) × Nat × Nat × (Nat → Nat) × (State → Prop)
def jv_nL (G : jv_G) : Nat := match G with
  | (_, _, _, _, _, _, _, _, _, _, nL, _, _, _) => nL
/-- the words of nest mates -/
abbrev jv_N : Type := List (String × Nat × MethodName × String)
/-- the String constants: entry and text, length, bytes -/
def jz_tx : List (Nat × String) := [(99, "roofs"), (64, "thrower"), (126, "plain"), (128, "left"), (130, "slow"), (132, "blind"), (134, "learner"), (73, "throws"), (143, "to"), (78, "cross"), (83, "letter"), (160, "at"), (88, "gusts"), (166, "from"), (171, "odds")]
def jz_len : List Nat := [5, 7, 5, 4, 4, 5, 7, 6, 2, 5, 6, 2, 5, 4, 4]
def jz_byt : List (List Int32) := [[114, 111, 111, 102, 115], [116, 104, 114, 111, 119, 101, 114], [112, 108, 97, 105, 110], [108, 101, 102, 116], [115, 108, 111, 119], [98, 108, 105, 110, 100], [108, 101, 97, 114, 110, 101, 114], [116, 104, 114, 111, 119, 115], [116, 111], [99, 114, 111, 115, 115], [108, 101, 116, 116, 101, 114], [97, 116], [103, 117, 115, 116, 115], [102, 114, 111, 109], [111, 100, 100, 115]]
def jz_S (kp : Nat → ClassId) (f : Nat → Nat) (A : Nat → Prop) (U : State) (H : Heap) : Prop := (∀ j, j < 15 → f (1000001 + j) = kp (1000 + j) ∧ f (2000001 + j) = kp (2000 + j)) ∧ vk_S 15 jz_len jz_byt (fun j => kp (1000 + j)) (fun j => kp (2000 + j)) A U H ∧ va_Z "java/lang/String" "COMPACT_STRINGS" "Z" (.int 1) A U H ∧ (va_Z "jdk/internal/util/Preconditions" "SIOOBE_FORMATTER" "Ljava/util/function/BiFunction;" .null A U H ∨ (va_Z "jdk/internal/util/Preconditions" "SIOOBE_FORMATTER" "Ljava/util/function/BiFunction;" (.ref (kp 3000)) A U H ∧ f 3000001 = kp 3000)) ∧ ∀ j q, jz_tx[j]? = some q → vk_R "JuggledPost$Scribe" q.1 q.2 (kp (1000 + j)) U
def jv_Nw (N : jv_N) (kp : Nat → ClassId) (f : Nat → Nat) (A : Nat → Prop) (U : State) : Prop := (∀ q ∈ N, va_Nw (.methodLinkNest q.1 q.2.1 q.2.2.1 q.2.2.2) U) ∧ va_AO "JuggledPost$City" U ∧ jz_S kp f A U U.heap
theorem jv_Nw_sub {N N2 : jv_N} {kp : Nat → ClassId} {f f0 : Nat → Nat} {A B : Nat → Prop} {s U : State} {H : Heap} {locs : List Loc} (h : ∀ q ∈ N2, q ∈ N) (hW : s.WarmedH U.vm) (hU : U.heap = H) (hS : va_S A s.heap H locs) (hAB : ∀ q, B q → A q) (hf : ∀ i, 1000000 ≤ i → f i = f0 i) (hN : jv_Nw N kp f0 A s) : jv_Nw N2 kp f B U := by
  obtain ⟨h1, h2, h3, h4, h5, h7, h6⟩ := hN
  refine ⟨fun q hq => va_Nw.warmM hW (h1 q (h q hq)), va_AO.moved hW.alike h2, fun j hj => ?_, ?_, ?_, ?_, fun j q hq => vk_R.warm hW (h6 j q hq)⟩
  · rw [hf _ (by omega), hf _ (by omega)]; exact h3 j hj
  · rw [hU]; exact ((h4.kept hS.2.1).moved hW.alike).narrow hAB
  · rw [hU]; exact ((h5.kept hS.2.1).moved hW.alike).narrow hAB
  · rw [hU, hf _ (by omega)]
    exact h7.imp (fun z => ((z.kept hS.2.1).moved hW.alike).narrow hAB) (fun z => ⟨((z.1.kept hS.2.1).moved hW.alike).narrow hAB, z.2⟩)
def jv_V (l : Launch) (D : va_G) (cl : List vw_C) (kp : Nat → ClassId) (G : jv_G) (cs ss n : Nat) (E : Nat → jv_E) (pc : Nat) (lv : List (Nat × Value)) (st : List Value) : Prop := match G with
  | (p, e, R, s, m, args, below, meth, c, A, nL, n0, f0, Q) => ∀ (f : Nat → Nat) (H : Heap) (locs : List Loc) (ls : Array Slot), va_P D cl (jv_W n f kp E) H → va_D A (jv_W n f kp E) → va_S A s.heap H locs → (∀ i, i < n → jv_oke n (E i)) → (∀ q ∈ lv, jv_ok n q.2) → (∀ v ∈ st, jv_ok n v) → n0 ≤ n → (∀ i, (i < n0 ∨ 1000000 ≤ i) → f i = f0 i) → lv_has ls nL (lv.map (fun q => (q.1, jv_v f q.2))) → W p l e R s m args below meth c H locs cs ss Q (F0 m pc ls (st.map (jv_v f)))
def jv_C (D : va_G) (cl : List vw_C) (kp : Nat → ClassId) (G : jv_G) (cc : ByteArray) (own : String) (Ts : List Cond) (rm : Room) (N : jv_N) : Prop := match G with
  | (p, e, R, s, m, args, below, meth, c, A, nL, n0, f0, Q) => p.tables.exec = Jvm.exec ∧ c.code = cc ∧ c.maxLocals = nL ∧ s.vm.findClass own = some m.cls ∧ (∀ w ∈ Ts, w.before args s = true) ∧ va_K D cl (jv_T kp) s ∧ (∀ q, s.heap.size ≤ q → A q) ∧ meth.locks = false ∧ R = rm ∧ jv_Nw N kp f0 A s
def jv_Q (D : va_G) (cl : List vw_C) (kp : Nat → ClassId) (n0 : Nat) (f0 : Nat → Nat) (E0 : Nat → jv_E) (sz : Nat) (post : Option Value → Nat → (Nat → jv_E) → Prop) : Array Value → State → Outcome → State → Prop := fun _ st oc t =>
  (∃ (r : Option Value) (n1 : Nat) (E1 : Nat → jv_E) (f1 : Nat → Nat), oc = .returned (r.map (jv_v f1)) ∧ post r n1 E1 ∧ n0 ≤ n1 ∧ (∀ i, (i < n0 ∨ 1000000 ≤ i) → f1 i = f0 i) ∧ (∀ i, i < n1 → jv_oke n1 (E1 i)) ∧ (∀ v, r = some v → jv_ok n1 v) ∧ va_P D cl (jv_W n1 f1 kp E1) t.heap ∧ va_D (va_A (jv_W n0 f0 kp E0) sz) (jv_W n1 f1 kp E1)) ∧ va_F (va_A (jv_W n0 f0 kp E0) sz) st t
def jv_P (D : va_G) (cl : List vw_C) (kp : Nat → ClassId) (N : jv_N) (ar : List Value) (n : Nat) (E : Nat → jv_E) (f0 : Nat → Nat) (sz : Nat) : Array Value → State → Prop := va_Pc (ar.map (jv_v f0)) (fun U => U.heap.size = sz ∧ va_P D cl (jv_W n f0 kp E) U.heap ∧ va_K D cl (jv_T kp) U ∧ va_D (fun _ => True) (jv_W n f0 kp E) ∧ (∀ i, i < n → jv_oke n (E i)) ∧ (∀ v ∈ ar, jv_ok n v) ∧ jv_Nw N kp f0 (va_A (jv_W n f0 kp E) sz) U)
/-- a contract: called with the values ar over the cells E it comes back, 'post answer n E' holds, at most mc cells of ms slots are new -/
def jv_M (l : Launch) (D : va_G) (cl : List vw_C) (kp : Nat → ClassId) (y : MethodName) (ws : List Cond) (rm : Room) (N : jv_N) (ar : List Value) (n : Nat) (E : Nat → jv_E) (mc ms : Nat) (post : Option Value → Nat → (Nat → jv_E) → Prop) : Prop :=
  ∀ (f0 : Nat → Nat) (sz : Nat), Met l y ws rm (jv_P D cl kp N ar n E f0 sz) (jv_Q D cl kp n f0 E sz post) mc ms (va_A (jv_W n f0 kp E) sz)
/-- the way back of a contract -/
def jv_R (D : va_G) (cl : List vw_C) (kp : Nat → ClassId) (G : jv_G) (E0 : Nat → jv_E) (rt : Option FieldType) (mc ms : Nat) (post : Option Value → Nat → (Nat → jv_E) → Prop) : Prop := match G with
  | (p, e, R, s, m, args, below, meth, c, A, nL, n0, f0, Q) => meth.sig.returnType = rt ∧ A = va_A (jv_W n0 f0 kp E0) s.heap.size ∧ Q = MQ below (jv_Q D cl kp n0 f0 E0 s.heap.size post) args s mc ms A
theorem jv_lvargs (f : Nat → Nat) : ∀ (vs : List Value) (i : Nat), lv_args i (vs.map (jv_v f)) = (lv_args i vs).map (fun q => (q.1, jv_v f q.2))
  | [], _ => rfl
  | v :: vs, i => by
    show (i, jv_v f v) :: lv_args (if (jv_v f v).category = 2 then i + 2 else i + 1) (vs.map (jv_v f)) = (i, jv_v f v) :: (lv_args (if v.category = 2 then i + 2 else i + 1) vs).map (fun q => (q.1, jv_v f q.2))
    rw [jv_v_cat, jv_lvargs f vs]
theorem jv_sl_len (f : Nat → Nat) : ∀ vs : List Value, (lg_sl (vs.map (jv_v f))).length = (lg_sl vs).length
  | [] => rfl
  | v :: vs => by
    have ih := jv_sl_len f vs
    unfold lg_sl at ih ⊢
    rw [List.map_cons, List.flatMap_cons, List.flatMap_cons, List.length_append, List.length_append, ih, jv_v_cat]
    congr 1
    by_cases h : v.category = 2
    · rw [if_pos h, if_pos h]; rfl
    · rw [if_neg h, if_neg h]; rfl
theorem jv_args_ok {n : Nat} : ∀ (vs : List Value) (i : Nat), (∀ v ∈ vs, jv_ok n v) → ∀ q ∈ lv_args i vs, jv_ok n q.2
  | [], _, _, q, hq => by cases hq
  | v :: vs, i, h, q, hq => by
    rcases List.mem_cons.mp hq with rfl | hq
    · exact h v List.mem_cons_self
    · exact jv_args_ok vs _ (fun w hw => h w (List.mem_cons_of_mem _ hw)) q hq
def jv_I (G : jv_G) : Prop := match G with
  | (_, _, _, _, _, _, _, meth, _, _, _, _, _, _) => meth.name = "<init>"
/-- a contract out of a walk -/
theorem jv_of {l : Launch} {D : va_G} {cl : List vw_C} {kp : Nat → ClassId} {y : MethodName} {ws ws' : List Cond} {rm : Room} {N : jv_N} {ar : List Value} {n : Nat} {E : Nat → jv_E} {mc ms : Nat} {post : Option Value → Nat → (Nat → jv_E) → Prop} {cc : ByteArray} {maxL : Nat} {rt : Option FieldType} (hy : plainName y.cls = true) (hw : ws = Cond.code y cc maxL rt :: ws') (hlen : (lg_sl ar).length ≤ maxL)
    (body : ∀ G : jv_G, jv_C D cl kp G cc y.cls ws rm N → jv_R D cl kp G E rt mc ms post → (y.name = "<init>" → jv_I G) → jv_nL G = maxL → jv_V l D cl kp G 0 0 n E 0 (lv_args 0 ar) []) : jv_M l D cl kp y ws rm N ar n E mc ms post := by
  intro f0 sz
  refine Met.ofW (cc := cc) (maxL := maxL) (ret := rt) hy hw ?_
  intro p e s m args below meth c s₁ B hml hv
  obtain ⟨rfl, hsz, hP, hK, hD0, hE, hA, hN⟩ := hv
  subst hsz
  have hD := hD0.self (sz := s.heap.size)
  have hts := atoms_spec (ws := ws) B.pre
  have hown : s.vm.findClass y.cls = some m.cls := findClass_of_methodNamed B.named
  have key := body (p, e, (headSpec ws rm).room, s, m, (ar.map (jv_v f0)).toArray, below, meth, c, va_A (jv_W n f0 kp E) s.heap.size, maxL, n, f0, MQ below (jv_Q D cl kp n f0 E s.heap.size post) (ar.map (jv_v f0)).toArray s mc ms (va_A (jv_W n f0 kp E) s.heap.size)) ⟨B.exec, B.bytes, hml, hown, hts, hK, fun q h => Or.inr h, B.notSynchronized, rfl, hN⟩ ⟨B.returns, rfl, rfl⟩ (fun h => (name_of_methodNamed B.named B.method).1.trans h) rfl
  have hl := lv_entry (ar.map (jv_v f0)) (n := maxL) (by rw [jv_sl_len]; exact hlen)
  rw [lg_entry_eq]
  generalize (lg_sl (ar.map (jv_v f0)) ++ List.replicate (maxL - (lg_sl (ar.map (jv_v f0))).length) Slot.unset).toArray = ls at hl ⊢
  rw [jv_lvargs] at hl
  exact key f0 s.heap [] ls hP hD va_S.rf hE (jv_args_ok ar 0 hA) (fun v h => by cases h) (Nat.le_refl _) (fun i _ => rfl) hl
section JV
variable {l : Launch} {D : va_G} {cl : List vw_C} {kp : Nat → ClassId} {G : jv_G} {cc : ByteArray} {own : String} {Ts : List Cond} {rm : Room} {N : jv_N} {cs ss n : Nat} {E : Nat → jv_E} {pc : Nat} {lv : List (Nat × Value)} {st : List Value}
theorem jv_s1 {a b : Value} (h : ∀ v ∈ a :: st, jv_ok n v) (hb : jv_ok n b) : ∀ v ∈ b :: st, jv_ok n v := fun v hv => (List.mem_cons.mp hv).elim (fun e => e ▸ hb) (fun h2 => h v (List.mem_cons_of_mem _ h2))
theorem jv_s0 {b : Value} (h : ∀ v ∈ st, jv_ok n v) (hb : jv_ok n b) : ∀ v ∈ b :: st, jv_ok n v := fun v hv => (List.mem_cons.mp hv).elim (fun e => e ▸ hb) (fun h2 => h v h2)
theorem jv_sd {a : Value} (h : ∀ v ∈ a :: st, jv_ok n v) : ∀ v ∈ st, jv_ok n v := fun v hv => h v (List.mem_cons_of_mem _ hv)
theorem jv_sh {a : Value} (h : ∀ v ∈ a :: st, jv_ok n v) : jv_ok n a := h a List.mem_cons_self
theorem jv_ti {x y : Int32} (h : x = y) (k : jv_V l D cl kp G cs ss n E pc lv (.int y :: st)) : jv_V l D cl kp G cs ss n E pc lv (.int x :: st) := h ▸ k
theorem jv_tl {x y : Int64} (h : x = y) (k : jv_V l D cl kp G cs ss n E pc lv (.long y :: st)) : jv_V l D cl kp G cs ss n E pc lv (.long x :: st) := h ▸ k
theorem jv_tn {x : Int32} (k : ∀ y, y = x → jv_V l D cl kp G cs ss n E pc lv (.int y :: st)) : jv_V l D cl kp G cs ss n E pc lv (.int x :: st) := k x rfl
theorem jv_tnl {x : Int64} (k : ∀ y, y = x → jv_V l D cl kp G cs ss n E pc lv (.long y :: st)) : jv_V l D cl kp G cs ss n E pc lv (.long x :: st) := k x rfl
theorem jv_tE {E2 : Nat → jv_E} (h : E = E2) (k : jv_V l D cl kp G cs ss n E2 pc lv st) : jv_V l D cl kp G cs ss n E pc lv st := h ▸ k

theorem jv_iadd (C : jv_C D cl kp G cc own Ts rm N) {x y : Int32} (hd : decode cc pc = .ok (.iadd, 1)) (k : jv_V l D cl kp G cs ss n E (pc + 1) lv (.int (x + y) :: st)) : jv_V l D cl kp G cs ss n E (pc) lv (.int y :: .int x :: st) := by
  obtain ⟨p, e, R, s, m, args, below, meth, c, A, nL, n0, f0, Q⟩ := G
  intro f H locs ls hP hD hS hE hL hs hn hf hl
  obtain ⟨hx, hb, hml, hown, hts, hK, hA, hlk, hRm, hNw⟩ := C
  refine lv_iadd hx hb hd ?_
  exact k f H locs ls hP hD hS hE hL (jv_s1 (jv_sd hs) jv_ok_i) hn hf hl

theorem jv_isub (C : jv_C D cl kp G cc own Ts rm N) {x y : Int32} (hd : decode cc pc = .ok (.isub, 1)) (k : jv_V l D cl kp G cs ss n E (pc + 1) lv (.int (x - y) :: st)) : jv_V l D cl kp G cs ss n E (pc) lv (.int y :: .int x :: st) := by
  obtain ⟨p, e, R, s, m, args, below, meth, c, A, nL, n0, f0, Q⟩ := G
  intro f H locs ls hP hD hS hE hL hs hn hf hl
  obtain ⟨hx, hb, hml, hown, hts, hK, hA, hlk, hRm, hNw⟩ := C
  refine lv_isub hx hb hd ?_
  exact k f H locs ls hP hD hS hE hL (jv_s1 (jv_sd hs) jv_ok_i) hn hf hl

theorem jv_imul (C : jv_C D cl kp G cc own Ts rm N) {x y : Int32} (hd : decode cc pc = .ok (.imul, 1)) (k : jv_V l D cl kp G cs ss n E (pc + 1) lv (.int (x * y) :: st)) : jv_V l D cl kp G cs ss n E (pc) lv (.int y :: .int x :: st) := by
  obtain ⟨p, e, R, s, m, args, below, meth, c, A, nL, n0, f0, Q⟩ := G
  intro f H locs ls hP hD hS hE hL hs hn hf hl
  obtain ⟨hx, hb, hml, hown, hts, hK, hA, hlk, hRm, hNw⟩ := C
  refine lv_imul hx hb hd ?_
  exact k f H locs ls hP hD hS hE hL (jv_s1 (jv_sd hs) jv_ok_i) hn hf hl

theorem jv_iand (C : jv_C D cl kp G cc own Ts rm N) {x y : Int32} (hd : decode cc pc = .ok (.iand, 1)) (k : jv_V l D cl kp G cs ss n E (pc + 1) lv (.int (x &&& y) :: st)) : jv_V l D cl kp G cs ss n E (pc) lv (.int y :: .int x :: st) := by
  obtain ⟨p, e, R, s, m, args, below, meth, c, A, nL, n0, f0, Q⟩ := G
  intro f H locs ls hP hD hS hE hL hs hn hf hl
  obtain ⟨hx, hb, hml, hown, hts, hK, hA, hlk, hRm, hNw⟩ := C
  refine lv_iand hx hb hd ?_
  exact k f H locs ls hP hD hS hE hL (jv_s1 (jv_sd hs) jv_ok_i) hn hf hl

theorem jv_ior (C : jv_C D cl kp G cc own Ts rm N) {x y : Int32} (hd : decode cc pc = .ok (.ior, 1)) (k : jv_V l D cl kp G cs ss n E (pc + 1) lv (.int (x ||| y) :: st)) : jv_V l D cl kp G cs ss n E (pc) lv (.int y :: .int x :: st) := by
  obtain ⟨p, e, R, s, m, args, below, meth, c, A, nL, n0, f0, Q⟩ := G
  intro f H locs ls hP hD hS hE hL hs hn hf hl
  obtain ⟨hx, hb, hml, hown, hts, hK, hA, hlk, hRm, hNw⟩ := C
  refine lv_ior hx hb hd ?_
  exact k f H locs ls hP hD hS hE hL (jv_s1 (jv_sd hs) jv_ok_i) hn hf hl

theorem jv_ixor (C : jv_C D cl kp G cc own Ts rm N) {x y : Int32} (hd : decode cc pc = .ok (.ixor, 1)) (k : jv_V l D cl kp G cs ss n E (pc + 1) lv (.int (x ^^^ y) :: st)) : jv_V l D cl kp G cs ss n E (pc) lv (.int y :: .int x :: st) := by
  obtain ⟨p, e, R, s, m, args, below, meth, c, A, nL, n0, f0, Q⟩ := G
  intro f H locs ls hP hD hS hE hL hs hn hf hl
  obtain ⟨hx, hb, hml, hown, hts, hK, hA, hlk, hRm, hNw⟩ := C
  refine lv_ixor hx hb hd ?_
  exact k f H locs ls hP hD hS hE hL (jv_s1 (jv_sd hs) jv_ok_i) hn hf hl

theorem jv_ishl (C : jv_C D cl kp G cc own Ts rm N) {x y : Int32} (hd : decode cc pc = .ok (.ishl, 1)) (k : jv_V l D cl kp G cs ss n E (pc + 1) lv (.int (x <<< (y &&& 31)) :: st)) : jv_V l D cl kp G cs ss n E (pc) lv (.int y :: .int x :: st) := by
  obtain ⟨p, e, R, s, m, args, below, meth, c, A, nL, n0, f0, Q⟩ := G
  intro f H locs ls hP hD hS hE hL hs hn hf hl
  obtain ⟨hx, hb, hml, hown, hts, hK, hA, hlk, hRm, hNw⟩ := C
  refine lv_ishl hx hb hd ?_
  exact k f H locs ls hP hD hS hE hL (jv_s1 (jv_sd hs) jv_ok_i) hn hf hl

theorem jv_ishr (C : jv_C D cl kp G cc own Ts rm N) {x y : Int32} (hd : decode cc pc = .ok (.ishr, 1)) (k : jv_V l D cl kp G cs ss n E (pc + 1) lv (.int (x >>> (y &&& 31)) :: st)) : jv_V l D cl kp G cs ss n E (pc) lv (.int y :: .int x :: st) := by
  obtain ⟨p, e, R, s, m, args, below, meth, c, A, nL, n0, f0, Q⟩ := G
  intro f H locs ls hP hD hS hE hL hs hn hf hl
  obtain ⟨hx, hb, hml, hown, hts, hK, hA, hlk, hRm, hNw⟩ := C
  refine lv_ishr hx hb hd ?_
  exact k f H locs ls hP hD hS hE hL (jv_s1 (jv_sd hs) jv_ok_i) hn hf hl

theorem jv_idiv (C : jv_C D cl kp G cc own Ts rm N) {x y : Int32} (hd : decode cc pc = .ok (.idiv, 1)) (hne : ¬ y = 0) (k : jv_V l D cl kp G cs ss n E (pc + 1) lv (.int (x / y) :: st)) : jv_V l D cl kp G cs ss n E (pc) lv (.int y :: .int x :: st) := by
  obtain ⟨p, e, R, s, m, args, below, meth, c, A, nL, n0, f0, Q⟩ := G
  intro f H locs ls hP hD hS hE hL hs hn hf hl
  obtain ⟨hx, hb, hml, hown, hts, hK, hA, hlk, hRm, hNw⟩ := C
  refine lv_idiv hx hb hd hne ?_
  exact k f H locs ls hP hD hS hE hL (jv_s1 (jv_sd hs) jv_ok_i) hn hf hl

theorem jv_irem (C : jv_C D cl kp G cc own Ts rm N) {x y : Int32} (hd : decode cc pc = .ok (.irem, 1)) (hne : ¬ y = 0) (k : jv_V l D cl kp G cs ss n E (pc + 1) lv (.int (x - x / y * y) :: st)) : jv_V l D cl kp G cs ss n E (pc) lv (.int y :: .int x :: st) := by
  obtain ⟨p, e, R, s, m, args, below, meth, c, A, nL, n0, f0, Q⟩ := G
  intro f H locs ls hP hD hS hE hL hs hn hf hl
  obtain ⟨hx, hb, hml, hown, hts, hK, hA, hlk, hRm, hNw⟩ := C
  refine lv_irem hx hb hd hne ?_
  exact k f H locs ls hP hD hS hE hL (jv_s1 (jv_sd hs) jv_ok_i) hn hf hl

theorem jv_ladd (C : jv_C D cl kp G cc own Ts rm N) {x y : Int64} (hd : decode cc pc = .ok (.ladd, 1)) (k : jv_V l D cl kp G cs ss n E (pc + 1) lv (.long (x + y) :: st)) : jv_V l D cl kp G cs ss n E (pc) lv (.long y :: .long x :: st) := by
  obtain ⟨p, e, R, s, m, args, below, meth, c, A, nL, n0, f0, Q⟩ := G
  intro f H locs ls hP hD hS hE hL hs hn hf hl
  obtain ⟨hx, hb, hml, hown, hts, hK, hA, hlk, hRm, hNw⟩ := C
  refine lv_ladd hx hb hd ?_
  exact k f H locs ls hP hD hS hE hL (jv_s1 (jv_sd hs) jv_ok_l) hn hf hl

theorem jv_lsub (C : jv_C D cl kp G cc own Ts rm N) {x y : Int64} (hd : decode cc pc = .ok (.lsub, 1)) (k : jv_V l D cl kp G cs ss n E (pc + 1) lv (.long (x - y) :: st)) : jv_V l D cl kp G cs ss n E (pc) lv (.long y :: .long x :: st) := by
  obtain ⟨p, e, R, s, m, args, below, meth, c, A, nL, n0, f0, Q⟩ := G
  intro f H locs ls hP hD hS hE hL hs hn hf hl
  obtain ⟨hx, hb, hml, hown, hts, hK, hA, hlk, hRm, hNw⟩ := C
  refine lv_lsub hx hb hd ?_
  exact k f H locs ls hP hD hS hE hL (jv_s1 (jv_sd hs) jv_ok_l) hn hf hl

theorem jv_lmul (C : jv_C D cl kp G cc own Ts rm N) {x y : Int64} (hd : decode cc pc = .ok (.lmul, 1)) (k : jv_V l D cl kp G cs ss n E (pc + 1) lv (.long (x * y) :: st)) : jv_V l D cl kp G cs ss n E (pc) lv (.long y :: .long x :: st) := by
  obtain ⟨p, e, R, s, m, args, below, meth, c, A, nL, n0, f0, Q⟩ := G
  intro f H locs ls hP hD hS hE hL hs hn hf hl
  obtain ⟨hx, hb, hml, hown, hts, hK, hA, hlk, hRm, hNw⟩ := C
  refine lv_lmul hx hb hd ?_
  exact k f H locs ls hP hD hS hE hL (jv_s1 (jv_sd hs) jv_ok_l) hn hf hl

theorem jv_land (C : jv_C D cl kp G cc own Ts rm N) {x y : Int64} (hd : decode cc pc = .ok (.land, 1)) (k : jv_V l D cl kp G cs ss n E (pc + 1) lv (.long (x &&& y) :: st)) : jv_V l D cl kp G cs ss n E (pc) lv (.long y :: .long x :: st) := by
  obtain ⟨p, e, R, s, m, args, below, meth, c, A, nL, n0, f0, Q⟩ := G
  intro f H locs ls hP hD hS hE hL hs hn hf hl
  obtain ⟨hx, hb, hml, hown, hts, hK, hA, hlk, hRm, hNw⟩ := C
  refine lv_land hx hb hd ?_
  exact k f H locs ls hP hD hS hE hL (jv_s1 (jv_sd hs) jv_ok_l) hn hf hl

theorem jv_lor (C : jv_C D cl kp G cc own Ts rm N) {x y : Int64} (hd : decode cc pc = .ok (.lor, 1)) (k : jv_V l D cl kp G cs ss n E (pc + 1) lv (.long (x ||| y) :: st)) : jv_V l D cl kp G cs ss n E (pc) lv (.long y :: .long x :: st) := by
  obtain ⟨p, e, R, s, m, args, below, meth, c, A, nL, n0, f0, Q⟩ := G
  intro f H locs ls hP hD hS hE hL hs hn hf hl
  obtain ⟨hx, hb, hml, hown, hts, hK, hA, hlk, hRm, hNw⟩ := C
  refine lv_lor hx hb hd ?_
  exact k f H locs ls hP hD hS hE hL (jv_s1 (jv_sd hs) jv_ok_l) hn hf hl

theorem jv_lxor (C : jv_C D cl kp G cc own Ts rm N) {x y : Int64} (hd : decode cc pc = .ok (.lxor, 1)) (k : jv_V l D cl kp G cs ss n E (pc + 1) lv (.long (x ^^^ y) :: st)) : jv_V l D cl kp G cs ss n E (pc) lv (.long y :: .long x :: st) := by
  obtain ⟨p, e, R, s, m, args, below, meth, c, A, nL, n0, f0, Q⟩ := G
  intro f H locs ls hP hD hS hE hL hs hn hf hl
  obtain ⟨hx, hb, hml, hown, hts, hK, hA, hlk, hRm, hNw⟩ := C
  refine lv_lxor hx hb hd ?_
  exact k f H locs ls hP hD hS hE hL (jv_s1 (jv_sd hs) jv_ok_l) hn hf hl

theorem jv_ldiv (C : jv_C D cl kp G cc own Ts rm N) {x y : Int64} (hd : decode cc pc = .ok (.ldiv, 1)) (hne : ¬ y = 0) (k : jv_V l D cl kp G cs ss n E (pc + 1) lv (.long (x / y) :: st)) : jv_V l D cl kp G cs ss n E (pc) lv (.long y :: .long x :: st) := by
  obtain ⟨p, e, R, s, m, args, below, meth, c, A, nL, n0, f0, Q⟩ := G
  intro f H locs ls hP hD hS hE hL hs hn hf hl
  obtain ⟨hx, hb, hml, hown, hts, hK, hA, hlk, hRm, hNw⟩ := C
  refine lv_ldiv hx hb hd hne ?_
  exact k f H locs ls hP hD hS hE hL (jv_s1 (jv_sd hs) jv_ok_l) hn hf hl

theorem jv_lrem (C : jv_C D cl kp G cc own Ts rm N) {x y : Int64} (hd : decode cc pc = .ok (.lrem, 1)) (hne : ¬ y = 0) (k : jv_V l D cl kp G cs ss n E (pc + 1) lv (.long (x - x / y * y) :: st)) : jv_V l D cl kp G cs ss n E (pc) lv (.long y :: .long x :: st) := by
  obtain ⟨p, e, R, s, m, args, below, meth, c, A, nL, n0, f0, Q⟩ := G
  intro f H locs ls hP hD hS hE hL hs hn hf hl
  obtain ⟨hx, hb, hml, hown, hts, hK, hA, hlk, hRm, hNw⟩ := C
  refine lv_lrem hx hb hd hne ?_
  exact k f H locs ls hP hD hS hE hL (jv_s1 (jv_sd hs) jv_ok_l) hn hf hl

theorem jv_iushr (C : jv_C D cl kp G cc own Ts rm N) {x y : Int32} (hd : decode cc pc = .ok (.iushr, 1)) (k : jv_V l D cl kp G cs ss n E (pc + 1) lv (.int (x.toUInt32 >>> (y.toUInt32 &&& Int32.toUInt32 31)).toInt32 :: st)) : jv_V l D cl kp G cs ss n E (pc) lv (.int y :: .int x :: st) := by
  obtain ⟨p, e, R, s, m, args, below, meth, c, A, nL, n0, f0, Q⟩ := G
  intro f H locs ls hP hD hS hE hL hs hn hf hl
  obtain ⟨hx, hb, hml, hown, hts, hK, hA, hlk, hRm, hNw⟩ := C
  refine lv_iushr hx hb hd rfl ?_
  exact k f H locs ls hP hD hS hE hL (jv_s1 (jv_sd hs) jv_ok_i) hn hf hl

theorem jv_lushr (C : jv_C D cl kp G cc own Ts rm N) {x : Int64} {y : Int32} (hd : decode cc pc = .ok (.lushr, 1)) (k : jv_V l D cl kp G cs ss n E (pc + 1) lv (.long (x.toUInt64 >>> (y.toInt64.toUInt64 &&& Int64.toUInt64 63)).toInt64 :: st)) : jv_V l D cl kp G cs ss n E (pc) lv (.int y :: .long x :: st) := by
  obtain ⟨p, e, R, s, m, args, below, meth, c, A, nL, n0, f0, Q⟩ := G
  intro f H locs ls hP hD hS hE hL hs hn hf hl
  obtain ⟨hx, hb, hml, hown, hts, hK, hA, hlk, hRm, hNw⟩ := C
  refine lv_lushr hx hb hd rfl ?_
  exact k f H locs ls hP hD hS hE hL (jv_s1 (jv_sd hs) jv_ok_l) hn hf hl

theorem jv_lshl (C : jv_C D cl kp G cc own Ts rm N) {x : Int64} {y : Int32} (hd : decode cc pc = .ok (.lshl, 1)) (k : jv_V l D cl kp G cs ss n E (pc + 1) lv (.long (x <<< (y.toInt64 &&& 63)) :: st)) : jv_V l D cl kp G cs ss n E (pc) lv (.int y :: .long x :: st) := by
  obtain ⟨p, e, R, s, m, args, below, meth, c, A, nL, n0, f0, Q⟩ := G
  intro f H locs ls hP hD hS hE hL hs hn hf hl
  obtain ⟨hx, hb, hml, hown, hts, hK, hA, hlk, hRm, hNw⟩ := C
  refine lv_lshl hx hb hd rfl ?_
  exact k f H locs ls hP hD hS hE hL (jv_s1 (jv_sd hs) jv_ok_l) hn hf hl

theorem jv_lshr (C : jv_C D cl kp G cc own Ts rm N) {x : Int64} {y : Int32} (hd : decode cc pc = .ok (.lshr, 1)) (k : jv_V l D cl kp G cs ss n E (pc + 1) lv (.long (x >>> (y.toInt64 &&& 63)) :: st)) : jv_V l D cl kp G cs ss n E (pc) lv (.int y :: .long x :: st) := by
  obtain ⟨p, e, R, s, m, args, below, meth, c, A, nL, n0, f0, Q⟩ := G
  intro f H locs ls hP hD hS hE hL hs hn hf hl
  obtain ⟨hx, hb, hml, hown, hts, hK, hA, hlk, hRm, hNw⟩ := C
  refine lv_lshr hx hb hd rfl ?_
  exact k f H locs ls hP hD hS hE hL (jv_s1 (jv_sd hs) jv_ok_l) hn hf hl

theorem jv_lcmp (C : jv_C D cl kp G cc own Ts rm N) {x y : Int64} (hd : decode cc pc = .ok (.lcmp, 1)) (k : jv_V l D cl kp G cs ss n E (pc + 1) lv (.int (lg_cmp x y) :: st)) : jv_V l D cl kp G cs ss n E (pc) lv (.long y :: .long x :: st) := by
  obtain ⟨p, e, R, s, m, args, below, meth, c, A, nL, n0, f0, Q⟩ := G
  intro f H locs ls hP hD hS hE hL hs hn hf hl
  obtain ⟨hx, hb, hml, hown, hts, hK, hA, hlk, hRm, hNw⟩ := C
  refine W.lcmp hx hb hd ?_
  exact k f H locs ls hP hD hS hE hL (jv_s1 (jv_sd hs) jv_ok_i) hn hf hl

theorem jv_ineg (C : jv_C D cl kp G cc own Ts rm N) {x : Int32} (hd : decode cc pc = .ok (.ineg, 1)) (k : jv_V l D cl kp G cs ss n E (pc + 1) lv (.int (-x) :: st)) : jv_V l D cl kp G cs ss n E (pc) lv (.int x :: st) := by
  obtain ⟨p, e, R, s, m, args, below, meth, c, A, nL, n0, f0, Q⟩ := G
  intro f H locs ls hP hD hS hE hL hs hn hf hl
  obtain ⟨hx, hb, hml, hown, hts, hK, hA, hlk, hRm, hNw⟩ := C
  refine lv_ineg hx hb hd ?_
  exact k f H locs ls hP hD hS hE hL (jv_s1 hs jv_ok_i) hn hf hl

theorem jv_i2l (C : jv_C D cl kp G cc own Ts rm N) {x : Int32} (hd : decode cc pc = .ok (.i2l, 1)) (k : jv_V l D cl kp G cs ss n E (pc + 1) lv (.long x.toInt64 :: st)) : jv_V l D cl kp G cs ss n E (pc) lv (.int x :: st) := by
  obtain ⟨p, e, R, s, m, args, below, meth, c, A, nL, n0, f0, Q⟩ := G
  intro f H locs ls hP hD hS hE hL hs hn hf hl
  obtain ⟨hx, hb, hml, hown, hts, hK, hA, hlk, hRm, hNw⟩ := C
  refine lv_i2l hx hb hd rfl ?_
  exact k f H locs ls hP hD hS hE hL (jv_s1 hs jv_ok_l) hn hf hl

theorem jv_l2i (C : jv_C D cl kp G cc own Ts rm N) {x : Int64} (hd : decode cc pc = .ok (.l2i, 1)) (k : jv_V l D cl kp G cs ss n E (pc + 1) lv (.int x.toInt32 :: st)) : jv_V l D cl kp G cs ss n E (pc) lv (.long x :: st) := by
  obtain ⟨p, e, R, s, m, args, below, meth, c, A, nL, n0, f0, Q⟩ := G
  intro f H locs ls hP hD hS hE hL hs hn hf hl
  obtain ⟨hx, hb, hml, hown, hts, hK, hA, hlk, hRm, hNw⟩ := C
  refine lv_l2i hx hb hd rfl ?_
  exact k f H locs ls hP hD hS hE hL (jv_s1 hs jv_ok_i) hn hf hl

theorem jv_i2b (C : jv_C D cl kp G cc own Ts rm N) {x : Int32} (hd : decode cc pc = .ok (.i2b, 1)) (k : jv_V l D cl kp G cs ss n E (pc + 1) lv (.int x.toInt8.toInt32 :: st)) : jv_V l D cl kp G cs ss n E (pc) lv (.int x :: st) := by
  obtain ⟨p, e, R, s, m, args, below, meth, c, A, nL, n0, f0, Q⟩ := G
  intro f H locs ls hP hD hS hE hL hs hn hf hl
  obtain ⟨hx, hb, hml, hown, hts, hK, hA, hlk, hRm, hNw⟩ := C
  refine lv_i2b hx hb hd rfl ?_
  exact k f H locs ls hP hD hS hE hL (jv_s1 hs jv_ok_i) hn hf hl

theorem jv_i2s (C : jv_C D cl kp G cc own Ts rm N) {x : Int32} (hd : decode cc pc = .ok (.i2s, 1)) (k : jv_V l D cl kp G cs ss n E (pc + 1) lv (.int x.toInt16.toInt32 :: st)) : jv_V l D cl kp G cs ss n E (pc) lv (.int x :: st) := by
  obtain ⟨p, e, R, s, m, args, below, meth, c, A, nL, n0, f0, Q⟩ := G
  intro f H locs ls hP hD hS hE hL hs hn hf hl
  obtain ⟨hx, hb, hml, hown, hts, hK, hA, hlk, hRm, hNw⟩ := C
  refine lv_i2s hx hb hd rfl ?_
  exact k f H locs ls hP hD hS hE hL (jv_s1 hs jv_ok_i) hn hf hl

theorem jv_i2c (C : jv_C D cl kp G cc own Ts rm N) {x : Int32} (hd : decode cc pc = .ok (.i2c, 1)) (k : jv_V l D cl kp G cs ss n E (pc + 1) lv (.int (x.toUInt32 % 65536).toInt32 :: st)) : jv_V l D cl kp G cs ss n E (pc) lv (.int x :: st) := by
  obtain ⟨p, e, R, s, m, args, below, meth, c, A, nL, n0, f0, Q⟩ := G
  intro f H locs ls hP hD hS hE hL hs hn hf hl
  obtain ⟨hx, hb, hml, hown, hts, hK, hA, hlk, hRm, hNw⟩ := C
  refine lv_i2c hx hb hd rfl ?_
  exact k f H locs ls hP hD hS hE hL (jv_s1 hs jv_ok_i) hn hf hl

theorem jv_iconst (C : jv_C D cl kp G cc own Ts rm N) {z : Int} {v : Int32} (hd : decode cc pc = .ok (.iconst z, 1)) (hv : Int32.ofInt z = v) (k : jv_V l D cl kp G cs ss n E (pc + 1) lv (.int v :: st)) : jv_V l D cl kp G cs ss n E (pc) lv st := by
  obtain ⟨p, e, R, s, m, args, below, meth, c, A, nL, n0, f0, Q⟩ := G
  intro f H locs ls hP hD hS hE hL hs hn hf hl
  obtain ⟨hx, hb, hml, hown, hts, hK, hA, hlk, hRm, hNw⟩ := C
  refine lv_iconst hx hb hd hv ?_
  exact k f H locs ls hP hD hS hE hL (jv_s0 hs jv_ok_i) hn hf hl

theorem jv_bipush (C : jv_C D cl kp G cc own Ts rm N) {z : Int} {v : Int32} (hd : decode cc pc = .ok (.bipush z, 2)) (hv : (Int8.ofInt z).toInt32 = v) (k : jv_V l D cl kp G cs ss n E (pc + 2) lv (.int v :: st)) : jv_V l D cl kp G cs ss n E (pc) lv st := by
  obtain ⟨p, e, R, s, m, args, below, meth, c, A, nL, n0, f0, Q⟩ := G
  intro f H locs ls hP hD hS hE hL hs hn hf hl
  obtain ⟨hx, hb, hml, hown, hts, hK, hA, hlk, hRm, hNw⟩ := C
  refine lv_bipush hx hb hd hv ?_
  exact k f H locs ls hP hD hS hE hL (jv_s0 hs jv_ok_i) hn hf hl

theorem jv_sipush (C : jv_C D cl kp G cc own Ts rm N) {z : Int} {v : Int32} (hd : decode cc pc = .ok (.sipush z, 3)) (hv : (Int16.ofInt z).toInt32 = v) (k : jv_V l D cl kp G cs ss n E (pc + 3) lv (.int v :: st)) : jv_V l D cl kp G cs ss n E (pc) lv st := by
  obtain ⟨p, e, R, s, m, args, below, meth, c, A, nL, n0, f0, Q⟩ := G
  intro f H locs ls hP hD hS hE hL hs hn hf hl
  obtain ⟨hx, hb, hml, hown, hts, hK, hA, hlk, hRm, hNw⟩ := C
  refine lv_sipush hx hb hd hv ?_
  exact k f H locs ls hP hD hS hE hL (jv_s0 hs jv_ok_i) hn hf hl

theorem jv_lconst (C : jv_C D cl kp G cc own Ts rm N) {z : Fin 2} {v : Int64} (hd : decode cc pc = .ok (.lconst z, 1)) (hv : Int64.ofNat (z : Nat) = v) (k : jv_V l D cl kp G cs ss n E (pc + 1) lv (.long v :: st)) : jv_V l D cl kp G cs ss n E (pc) lv st := by
  obtain ⟨p, e, R, s, m, args, below, meth, c, A, nL, n0, f0, Q⟩ := G
  intro f H locs ls hP hD hS hE hL hs hn hf hl
  obtain ⟨hx, hb, hml, hown, hts, hK, hA, hlk, hRm, hNw⟩ := C
  refine lv_lconst hx hb hd hv ?_
  exact k f H locs ls hP hD hS hE hL (jv_s0 hs jv_ok_l) hn hf hl

theorem jv_ldc (C : jv_C D cl kp G cc own Ts rm N) {z : Nat} {v : Int32} (hd : decode cc pc = .ok (.ldc z, 2)) (hw : Cond.constant own z v ∈ Ts) (k : jv_V l D cl kp G cs ss n E (pc + 2) lv (.int v :: st)) : jv_V l D cl kp G cs ss n E (pc) lv st := by
  obtain ⟨p, e, R, s, m, args, below, meth, c, A, nL, n0, f0, Q⟩ := G
  intro f H locs ls hP hD hS hE hL hs hn hf hl
  obtain ⟨hx, hb, hml, hown, hts, hK, hA, hlk, hRm, hNw⟩ := C
  refine lv_ldc hx hb hown (hts _ hw) hd ?_
  exact k f H locs ls hP hD hS hE hL (jv_s0 hs jv_ok_i) hn hf hl

theorem jv_ldcw (C : jv_C D cl kp G cc own Ts rm N) {z : Nat} {v : Int32} (hd : decode cc pc = .ok (.ldc_w z, 3)) (hw : Cond.constant own z v ∈ Ts) (k : jv_V l D cl kp G cs ss n E (pc + 3) lv (.int v :: st)) : jv_V l D cl kp G cs ss n E (pc) lv st := by
  obtain ⟨p, e, R, s, m, args, below, meth, c, A, nL, n0, f0, Q⟩ := G
  intro f H locs ls hP hD hS hE hL hs hn hf hl
  obtain ⟨hx, hb, hml, hown, hts, hK, hA, hlk, hRm, hNw⟩ := C
  refine lv_ldcw hx hb hown (hts _ hw) hd ?_
  exact k f H locs ls hP hD hS hE hL (jv_s0 hs jv_ok_i) hn hf hl

theorem jv_ldc2 (C : jv_C D cl kp G cc own Ts rm N) {z : Nat} {v : Int64} (hd : decode cc pc = .ok (.ldc2_w z, 3)) (hw : Cond.constantLong own z v ∈ Ts) (k : jv_V l D cl kp G cs ss n E (pc + 3) lv (.long v :: st)) : jv_V l D cl kp G cs ss n E (pc) lv st := by
  obtain ⟨p, e, R, s, m, args, below, meth, c, A, nL, n0, f0, Q⟩ := G
  intro f H locs ls hP hD hS hE hL hs hn hf hl
  obtain ⟨hx, hb, hml, hown, hts, hK, hA, hlk, hRm, hNw⟩ := C
  refine lv_ldc2 hx hb hown (hts _ hw) hd ?_
  exact k f H locs ls hP hD hS hE hL (jv_s0 hs jv_ok_l) hn hf hl

theorem jv_null (C : jv_C D cl kp G cc own Ts rm N) (hd : decode cc pc = .ok (.aconst_null, 1)) (k : jv_V l D cl kp G cs ss n E (pc + 1) lv (.null :: st)) : jv_V l D cl kp G cs ss n E (pc) lv st := by
  obtain ⟨p, e, R, s, m, args, below, meth, c, A, nL, n0, f0, Q⟩ := G
  intro f H locs ls hP hD hS hE hL hs hn hf hl
  obtain ⟨hx, hb, hml, hown, hts, hK, hA, hlk, hRm, hNw⟩ := C
  refine lv_null hx hb hd ?_
  exact k f H locs ls hP hD hS hE hL (jv_s0 hs jv_ok_n) hn hf hl

theorem jv_iload_n (C : jv_C D cl kp G cc own Ts rm N) {i : Fin 4} {x : Int32} (hd : decode cc pc = .ok (.iload_n i, 1)) (j : Nat) (hk : lv[j]? = some ((i : Nat), .int x)) (k : jv_V l D cl kp G cs ss n E (pc + 1) lv (.int x :: st)) : jv_V l D cl kp G cs ss n E (pc) lv st := by
  obtain ⟨p, e, R, s, m, args, below, meth, c, A, nL, n0, f0, Q⟩ := G
  intro f H locs ls hP hD hS hE hL hs hn hf hl
  obtain ⟨hx, hb, hml, hown, hts, hK, hA, hlk, hRm, hNw⟩ := C
  refine lv_iload_n hx hb hd rfl (lv_at hl j (by rw [List.getElem?_map, hk]; rfl)) ?_
  exact k f H locs ls hP hD hS hE hL (jv_s0 hs jv_ok_i) hn hf hl

theorem jv_lload_n (C : jv_C D cl kp G cc own Ts rm N) {i : Fin 4} {x : Int64} (hd : decode cc pc = .ok (.lload_n i, 1)) (j : Nat) (hk : lv[j]? = some ((i : Nat), .long x)) (k : jv_V l D cl kp G cs ss n E (pc + 1) lv (.long x :: st)) : jv_V l D cl kp G cs ss n E (pc) lv st := by
  obtain ⟨p, e, R, s, m, args, below, meth, c, A, nL, n0, f0, Q⟩ := G
  intro f H locs ls hP hD hS hE hL hs hn hf hl
  obtain ⟨hx, hb, hml, hown, hts, hK, hA, hlk, hRm, hNw⟩ := C
  refine lv_lload_n hx hb hd rfl (lv_at hl j (by rw [List.getElem?_map, hk]; rfl)) ?_
  exact k f H locs ls hP hD hS hE hL (jv_s0 hs jv_ok_l) hn hf hl

theorem jv_aload_n (C : jv_C D cl kp G cc own Ts rm N) {i : Fin 4} {x : Nat} (hd : decode cc pc = .ok (.aload_n i, 1)) (j : Nat) (hk : lv[j]? = some ((i : Nat), .ref x)) (k : jv_V l D cl kp G cs ss n E (pc + 1) lv (.ref x :: st)) : jv_V l D cl kp G cs ss n E (pc) lv st := by
  obtain ⟨p, e, R, s, m, args, below, meth, c, A, nL, n0, f0, Q⟩ := G
  intro f H locs ls hP hD hS hE hL hs hn hf hl
  obtain ⟨hx, hb, hml, hown, hts, hK, hA, hlk, hRm, hNw⟩ := C
  refine lv_aload_n hx hb hd rfl (lv_at hl j (by rw [List.getElem?_map, hk]; rfl)) ?_
  exact k f H locs ls hP hD hS hE hL (jv_s0 hs (hL _ (List.mem_of_getElem? hk) : jv_ok n (.ref x))) hn hf hl

theorem jv_iload (C : jv_C D cl kp G cc own Ts rm N) {i : Nat} {x : Int32} (hd : decode cc pc = .ok (.iload i, 2)) (j : Nat) (hk : lv[j]? = some (i, .int x)) (k : jv_V l D cl kp G cs ss n E (pc + 2) lv (.int x :: st)) : jv_V l D cl kp G cs ss n E (pc) lv st := by
  obtain ⟨p, e, R, s, m, args, below, meth, c, A, nL, n0, f0, Q⟩ := G
  intro f H locs ls hP hD hS hE hL hs hn hf hl
  obtain ⟨hx, hb, hml, hown, hts, hK, hA, hlk, hRm, hNw⟩ := C
  refine lv_iload hx hb hd (lv_at hl j (by rw [List.getElem?_map, hk]; rfl)) ?_
  exact k f H locs ls hP hD hS hE hL (jv_s0 hs jv_ok_i) hn hf hl

theorem jv_lload (C : jv_C D cl kp G cc own Ts rm N) {i : Nat} {x : Int64} (hd : decode cc pc = .ok (.lload i, 2)) (j : Nat) (hk : lv[j]? = some (i, .long x)) (k : jv_V l D cl kp G cs ss n E (pc + 2) lv (.long x :: st)) : jv_V l D cl kp G cs ss n E (pc) lv st := by
  obtain ⟨p, e, R, s, m, args, below, meth, c, A, nL, n0, f0, Q⟩ := G
  intro f H locs ls hP hD hS hE hL hs hn hf hl
  obtain ⟨hx, hb, hml, hown, hts, hK, hA, hlk, hRm, hNw⟩ := C
  refine lv_lload hx hb hd (lv_at hl j (by rw [List.getElem?_map, hk]; rfl)) ?_
  exact k f H locs ls hP hD hS hE hL (jv_s0 hs jv_ok_l) hn hf hl

theorem jv_aload (C : jv_C D cl kp G cc own Ts rm N) {i : Nat} {x : Nat} (hd : decode cc pc = .ok (.aload i, 2)) (j : Nat) (hk : lv[j]? = some (i, .ref x)) (k : jv_V l D cl kp G cs ss n E (pc + 2) lv (.ref x :: st)) : jv_V l D cl kp G cs ss n E (pc) lv st := by
  obtain ⟨p, e, R, s, m, args, below, meth, c, A, nL, n0, f0, Q⟩ := G
  intro f H locs ls hP hD hS hE hL hs hn hf hl
  obtain ⟨hx, hb, hml, hown, hts, hK, hA, hlk, hRm, hNw⟩ := C
  refine lv_aload hx hb hd (lv_at hl j (by rw [List.getElem?_map, hk]; rfl)) ?_
  exact k f H locs ls hP hD hS hE hL (jv_s0 hs (hL _ (List.mem_of_getElem? hk) : jv_ok n (.ref x))) hn hf hl

theorem jv_dup (C : jv_C D cl kp G cc own Ts rm N) {v : Value} (hd : decode cc pc = .ok (.dup, 1)) (hc : v.category = 1) (k : jv_V l D cl kp G cs ss n E (pc + 1) lv (v :: v :: st)) : jv_V l D cl kp G cs ss n E (pc) lv (v :: st) := by
  obtain ⟨p, e, R, s, m, args, below, meth, c, A, nL, n0, f0, Q⟩ := G
  intro f H locs ls hP hD hS hE hL hs hn hf hl
  obtain ⟨hx, hb, hml, hown, hts, hK, hA, hlk, hRm, hNw⟩ := C
  refine lv_dup hx hb hd ((jv_v_cat f v).trans hc) ?_
  exact k f H locs ls hP hD hS hE hL (jv_s0 hs (jv_sh hs)) hn hf hl

theorem jv_dup_x1 (C : jv_C D cl kp G cc own Ts rm N) {v u : Value} (hd : decode cc pc = .ok (.dup_x1, 1)) (hc : v.category = 1) (hc2 : u.category = 1) (k : jv_V l D cl kp G cs ss n E (pc + 1) lv (v :: u :: v :: st)) : jv_V l D cl kp G cs ss n E (pc) lv (v :: u :: st) := by
  obtain ⟨p, e, R, s, m, args, below, meth, c, A, nL, n0, f0, Q⟩ := G
  intro f H locs ls hP hD hS hE hL hs hn hf hl
  obtain ⟨hx, hb, hml, hown, hts, hK, hA, hlk, hRm, hNw⟩ := C
  refine lv_dup_x1 hx hb hd ((jv_v_cat f v).trans hc) ((jv_v_cat f u).trans hc2) ?_
  exact k f H locs ls hP hD hS hE hL (jv_s0 (jv_s0 (jv_s1 (jv_sd hs) (jv_sh hs)) (jv_sh (jv_sd hs))) (jv_sh hs)) hn hf hl

theorem jv_dup2 (C : jv_C D cl kp G cc own Ts rm N) {v u : Value} (hd : decode cc pc = .ok (.dup2, 1)) (hc : v.category = 1) (hc2 : u.category = 1) (k : jv_V l D cl kp G cs ss n E (pc + 1) lv (v :: u :: v :: u :: st)) : jv_V l D cl kp G cs ss n E (pc) lv (v :: u :: st) := by
  obtain ⟨p, e, R, s, m, args, below, meth, c, A, nL, n0, f0, Q⟩ := G
  intro f H locs ls hP hD hS hE hL hs hn hf hl
  obtain ⟨hx, hb, hml, hown, hts, hK, hA, hlk, hRm, hNw⟩ := C
  refine lv_dup2_11 hx hb hd ((jv_v_cat f v).trans hc) ((jv_v_cat f u).trans hc2) ?_
  exact k f H locs ls hP hD hS hE hL (jv_s0 (jv_s0 hs (jv_sh (jv_sd hs))) (jv_sh hs)) hn hf hl

theorem jv_pop (C : jv_C D cl kp G cc own Ts rm N) {v : Value} (hd : decode cc pc = .ok (.pop, 1)) (hc : v.category = 1) (k : jv_V l D cl kp G cs ss n E (pc + 1) lv st) : jv_V l D cl kp G cs ss n E (pc) lv (v :: st) := by
  obtain ⟨p, e, R, s, m, args, below, meth, c, A, nL, n0, f0, Q⟩ := G
  intro f H locs ls hP hD hS hE hL hs hn hf hl
  obtain ⟨hx, hb, hml, hown, hts, hK, hA, hlk, hRm, hNw⟩ := C
  refine lv_pop hx hb hd ((jv_v_cat f v).trans hc) ?_
  exact k f H locs ls hP hD hS hE hL (jv_sd hs) hn hf hl

theorem jv_goto (C : jv_C D cl kp G cc own Ts rm N) {off : Int} {tgt : Nat} (hd : decode cc pc = .ok (.goto off, 3)) (ht : (pc : Int) + off = (tgt : Int)) (k : jv_V l D cl kp G cs ss n E (tgt) lv st) : jv_V l D cl kp G cs ss n E (pc) lv st := by
  obtain ⟨p, e, R, s, m, args, below, meth, c, A, nL, n0, f0, Q⟩ := G
  intro f H locs ls hP hD hS hE hL hs hn hf hl
  obtain ⟨hx, hb, hml, hown, hts, hK, hA, hlk, hRm, hNw⟩ := C
  refine lv_goto hx hb hd ht ?_
  exact k f H locs ls hP hD hS hE hL hs hn hf hl

theorem jv_if_eq (C : jv_C D cl kp G cc own Ts rm N) {x : Int32} {off : Int} {tgt : Nat} (hd : decode cc pc = .ok (.ifCond .eq off, 3)) (ht : (pc : Int) + off = (tgt : Int)) (kt : x = 0 → jv_V l D cl kp G cs ss n E (tgt) lv st) (kf : ¬ x = 0 → jv_V l D cl kp G cs ss n E (pc + 3) lv st) : jv_V l D cl kp G cs ss n E (pc) lv (.int x :: st) := by
  obtain ⟨p, e, R, s, m, args, below, meth, c, A, nL, n0, f0, Q⟩ := G
  intro f H locs ls hP hD hS hE hL hs hn hf hl
  obtain ⟨hx, hb, hml, hown, hts, hK, hA, hlk, hRm, hNw⟩ := C
  refine lv_if_eq hx hb hd ht (fun h => ?_) (fun h => ?_)
  · exact kt h f H locs ls hP hD hS hE hL (jv_sd hs) hn hf hl
  · exact kf h f H locs ls hP hD hS hE hL (jv_sd hs) hn hf hl

theorem jv_if_ne (C : jv_C D cl kp G cc own Ts rm N) {x : Int32} {off : Int} {tgt : Nat} (hd : decode cc pc = .ok (.ifCond .ne off, 3)) (ht : (pc : Int) + off = (tgt : Int)) (kt : ¬ x = 0 → jv_V l D cl kp G cs ss n E (tgt) lv st) (kf : x = 0 → jv_V l D cl kp G cs ss n E (pc + 3) lv st) : jv_V l D cl kp G cs ss n E (pc) lv (.int x :: st) := by
  obtain ⟨p, e, R, s, m, args, below, meth, c, A, nL, n0, f0, Q⟩ := G
  intro f H locs ls hP hD hS hE hL hs hn hf hl
  obtain ⟨hx, hb, hml, hown, hts, hK, hA, hlk, hRm, hNw⟩ := C
  refine lv_if_ne hx hb hd ht (fun h => ?_) (fun h => ?_)
  · exact kt h f H locs ls hP hD hS hE hL (jv_sd hs) hn hf hl
  · exact kf h f H locs ls hP hD hS hE hL (jv_sd hs) hn hf hl

theorem jv_if_lt (C : jv_C D cl kp G cc own Ts rm N) {x : Int32} {off : Int} {tgt : Nat} (hd : decode cc pc = .ok (.ifCond .lt off, 3)) (ht : (pc : Int) + off = (tgt : Int)) (kt : x < 0 → jv_V l D cl kp G cs ss n E (tgt) lv st) (kf : ¬ x < 0 → jv_V l D cl kp G cs ss n E (pc + 3) lv st) : jv_V l D cl kp G cs ss n E (pc) lv (.int x :: st) := by
  obtain ⟨p, e, R, s, m, args, below, meth, c, A, nL, n0, f0, Q⟩ := G
  intro f H locs ls hP hD hS hE hL hs hn hf hl
  obtain ⟨hx, hb, hml, hown, hts, hK, hA, hlk, hRm, hNw⟩ := C
  refine lv_if_lt hx hb hd ht (fun h => ?_) (fun h => ?_)
  · exact kt h f H locs ls hP hD hS hE hL (jv_sd hs) hn hf hl
  · exact kf h f H locs ls hP hD hS hE hL (jv_sd hs) hn hf hl

theorem jv_if_ge (C : jv_C D cl kp G cc own Ts rm N) {x : Int32} {off : Int} {tgt : Nat} (hd : decode cc pc = .ok (.ifCond .ge off, 3)) (ht : (pc : Int) + off = (tgt : Int)) (kt : 0 ≤ x → jv_V l D cl kp G cs ss n E (tgt) lv st) (kf : ¬ 0 ≤ x → jv_V l D cl kp G cs ss n E (pc + 3) lv st) : jv_V l D cl kp G cs ss n E (pc) lv (.int x :: st) := by
  obtain ⟨p, e, R, s, m, args, below, meth, c, A, nL, n0, f0, Q⟩ := G
  intro f H locs ls hP hD hS hE hL hs hn hf hl
  obtain ⟨hx, hb, hml, hown, hts, hK, hA, hlk, hRm, hNw⟩ := C
  refine lv_if_ge hx hb hd ht (fun h => ?_) (fun h => ?_)
  · exact kt h f H locs ls hP hD hS hE hL (jv_sd hs) hn hf hl
  · exact kf h f H locs ls hP hD hS hE hL (jv_sd hs) hn hf hl

theorem jv_if_gt (C : jv_C D cl kp G cc own Ts rm N) {x : Int32} {off : Int} {tgt : Nat} (hd : decode cc pc = .ok (.ifCond .gt off, 3)) (ht : (pc : Int) + off = (tgt : Int)) (kt : 0 < x → jv_V l D cl kp G cs ss n E (tgt) lv st) (kf : ¬ 0 < x → jv_V l D cl kp G cs ss n E (pc + 3) lv st) : jv_V l D cl kp G cs ss n E (pc) lv (.int x :: st) := by
  obtain ⟨p, e, R, s, m, args, below, meth, c, A, nL, n0, f0, Q⟩ := G
  intro f H locs ls hP hD hS hE hL hs hn hf hl
  obtain ⟨hx, hb, hml, hown, hts, hK, hA, hlk, hRm, hNw⟩ := C
  refine lv_if_gt hx hb hd ht (fun h => ?_) (fun h => ?_)
  · exact kt h f H locs ls hP hD hS hE hL (jv_sd hs) hn hf hl
  · exact kf h f H locs ls hP hD hS hE hL (jv_sd hs) hn hf hl

theorem jv_if_le (C : jv_C D cl kp G cc own Ts rm N) {x : Int32} {off : Int} {tgt : Nat} (hd : decode cc pc = .ok (.ifCond .le off, 3)) (ht : (pc : Int) + off = (tgt : Int)) (kt : x ≤ 0 → jv_V l D cl kp G cs ss n E (tgt) lv st) (kf : ¬ x ≤ 0 → jv_V l D cl kp G cs ss n E (pc + 3) lv st) : jv_V l D cl kp G cs ss n E (pc) lv (.int x :: st) := by
  obtain ⟨p, e, R, s, m, args, below, meth, c, A, nL, n0, f0, Q⟩ := G
  intro f H locs ls hP hD hS hE hL hs hn hf hl
  obtain ⟨hx, hb, hml, hown, hts, hK, hA, hlk, hRm, hNw⟩ := C
  refine lv_if_le hx hb hd ht (fun h => ?_) (fun h => ?_)
  · exact kt h f H locs ls hP hD hS hE hL (jv_sd hs) hn hf hl
  · exact kf h f H locs ls hP hD hS hE hL (jv_sd hs) hn hf hl

theorem jv_icmp_eq (C : jv_C D cl kp G cc own Ts rm N) {x y : Int32} {off : Int} {tgt : Nat} (hd : decode cc pc = .ok (.if_icmp .eq off, 3)) (ht : (pc : Int) + off = (tgt : Int)) (kt : x = y → jv_V l D cl kp G cs ss n E (tgt) lv st) (kf : ¬ x = y → jv_V l D cl kp G cs ss n E (pc + 3) lv st) : jv_V l D cl kp G cs ss n E (pc) lv (.int y :: .int x :: st) := by
  obtain ⟨p, e, R, s, m, args, below, meth, c, A, nL, n0, f0, Q⟩ := G
  intro f H locs ls hP hD hS hE hL hs hn hf hl
  obtain ⟨hx, hb, hml, hown, hts, hK, hA, hlk, hRm, hNw⟩ := C
  refine lv_icmp_eq hx hb hd ht (fun h => ?_) (fun h => ?_)
  · exact kt h f H locs ls hP hD hS hE hL (jv_sd (jv_sd hs)) hn hf hl
  · exact kf h f H locs ls hP hD hS hE hL (jv_sd (jv_sd hs)) hn hf hl

theorem jv_icmp_ne (C : jv_C D cl kp G cc own Ts rm N) {x y : Int32} {off : Int} {tgt : Nat} (hd : decode cc pc = .ok (.if_icmp .ne off, 3)) (ht : (pc : Int) + off = (tgt : Int)) (kt : ¬ x = y → jv_V l D cl kp G cs ss n E (tgt) lv st) (kf : x = y → jv_V l D cl kp G cs ss n E (pc + 3) lv st) : jv_V l D cl kp G cs ss n E (pc) lv (.int y :: .int x :: st) := by
  obtain ⟨p, e, R, s, m, args, below, meth, c, A, nL, n0, f0, Q⟩ := G
  intro f H locs ls hP hD hS hE hL hs hn hf hl
  obtain ⟨hx, hb, hml, hown, hts, hK, hA, hlk, hRm, hNw⟩ := C
  refine lv_icmp_ne hx hb hd ht (fun h => ?_) (fun h => ?_)
  · exact kt h f H locs ls hP hD hS hE hL (jv_sd (jv_sd hs)) hn hf hl
  · exact kf h f H locs ls hP hD hS hE hL (jv_sd (jv_sd hs)) hn hf hl

theorem jv_icmp_lt (C : jv_C D cl kp G cc own Ts rm N) {x y : Int32} {off : Int} {tgt : Nat} (hd : decode cc pc = .ok (.if_icmp .lt off, 3)) (ht : (pc : Int) + off = (tgt : Int)) (kt : x < y → jv_V l D cl kp G cs ss n E (tgt) lv st) (kf : ¬ x < y → jv_V l D cl kp G cs ss n E (pc + 3) lv st) : jv_V l D cl kp G cs ss n E (pc) lv (.int y :: .int x :: st) := by
  obtain ⟨p, e, R, s, m, args, below, meth, c, A, nL, n0, f0, Q⟩ := G
  intro f H locs ls hP hD hS hE hL hs hn hf hl
  obtain ⟨hx, hb, hml, hown, hts, hK, hA, hlk, hRm, hNw⟩ := C
  refine lv_icmp_lt hx hb hd ht (fun h => ?_) (fun h => ?_)
  · exact kt h f H locs ls hP hD hS hE hL (jv_sd (jv_sd hs)) hn hf hl
  · exact kf h f H locs ls hP hD hS hE hL (jv_sd (jv_sd hs)) hn hf hl

theorem jv_icmp_ge (C : jv_C D cl kp G cc own Ts rm N) {x y : Int32} {off : Int} {tgt : Nat} (hd : decode cc pc = .ok (.if_icmp .ge off, 3)) (ht : (pc : Int) + off = (tgt : Int)) (kt : y ≤ x → jv_V l D cl kp G cs ss n E (tgt) lv st) (kf : ¬ y ≤ x → jv_V l D cl kp G cs ss n E (pc + 3) lv st) : jv_V l D cl kp G cs ss n E (pc) lv (.int y :: .int x :: st) := by
  obtain ⟨p, e, R, s, m, args, below, meth, c, A, nL, n0, f0, Q⟩ := G
  intro f H locs ls hP hD hS hE hL hs hn hf hl
  obtain ⟨hx, hb, hml, hown, hts, hK, hA, hlk, hRm, hNw⟩ := C
  refine lv_icmp_ge hx hb hd ht (fun h => ?_) (fun h => ?_)
  · exact kt h f H locs ls hP hD hS hE hL (jv_sd (jv_sd hs)) hn hf hl
  · exact kf h f H locs ls hP hD hS hE hL (jv_sd (jv_sd hs)) hn hf hl

theorem jv_icmp_gt (C : jv_C D cl kp G cc own Ts rm N) {x y : Int32} {off : Int} {tgt : Nat} (hd : decode cc pc = .ok (.if_icmp .gt off, 3)) (ht : (pc : Int) + off = (tgt : Int)) (kt : y < x → jv_V l D cl kp G cs ss n E (tgt) lv st) (kf : ¬ y < x → jv_V l D cl kp G cs ss n E (pc + 3) lv st) : jv_V l D cl kp G cs ss n E (pc) lv (.int y :: .int x :: st) := by
  obtain ⟨p, e, R, s, m, args, below, meth, c, A, nL, n0, f0, Q⟩ := G
  intro f H locs ls hP hD hS hE hL hs hn hf hl
  obtain ⟨hx, hb, hml, hown, hts, hK, hA, hlk, hRm, hNw⟩ := C
  refine lv_icmp_gt hx hb hd ht (fun h => ?_) (fun h => ?_)
  · exact kt h f H locs ls hP hD hS hE hL (jv_sd (jv_sd hs)) hn hf hl
  · exact kf h f H locs ls hP hD hS hE hL (jv_sd (jv_sd hs)) hn hf hl

theorem jv_icmp_le (C : jv_C D cl kp G cc own Ts rm N) {x y : Int32} {off : Int} {tgt : Nat} (hd : decode cc pc = .ok (.if_icmp .le off, 3)) (ht : (pc : Int) + off = (tgt : Int)) (kt : x ≤ y → jv_V l D cl kp G cs ss n E (tgt) lv st) (kf : ¬ x ≤ y → jv_V l D cl kp G cs ss n E (pc + 3) lv st) : jv_V l D cl kp G cs ss n E (pc) lv (.int y :: .int x :: st) := by
  obtain ⟨p, e, R, s, m, args, below, meth, c, A, nL, n0, f0, Q⟩ := G
  intro f H locs ls hP hD hS hE hL hs hn hf hl
  obtain ⟨hx, hb, hml, hown, hts, hK, hA, hlk, hRm, hNw⟩ := C
  refine lv_icmp_le hx hb hd ht (fun h => ?_) (fun h => ?_)
  · exact kt h f H locs ls hP hD hS hE hL (jv_sd (jv_sd hs)) hn hf hl
  · exact kf h f H locs ls hP hD hS hE hL (jv_sd (jv_sd hs)) hn hf hl

theorem jv_tabIn (C : jv_C D cl kp G cc own Ts rm N) {dflt lo hi : Int} {offs : Array Int} {len : Nat} {x : Int32} {off : Int} {tgt : Nat} (hd : decode cc pc = .ok (.tableswitch dflt lo hi offs, len)) (h1 : ¬ x.toInt < lo) (h2 : ¬ hi < x.toInt) (ho : offs[(x.toInt - lo).toNat]? = some off) (ht : (pc : Int) + off = (tgt : Int)) (k : jv_V l D cl kp G cs ss n E (tgt) lv st) : jv_V l D cl kp G cs ss n E (pc) lv (.int x :: st) := by
  obtain ⟨p, e, R, s, m, args, below, meth, c, A, nL, n0, f0, Q⟩ := G
  intro f H locs ls hP hD hS hE hL hs hn hf hl
  obtain ⟨hx, hb, hml, hown, hts, hK, hA, hlk, hRm, hNw⟩ := C
  refine lv_tableIn hx hb hd h1 h2 ho ht ?_
  exact k f H locs ls hP hD hS hE hL (jv_sd hs) hn hf hl

theorem jv_tabOut (C : jv_C D cl kp G cc own Ts rm N) {dflt lo hi : Int} {offs : Array Int} {len : Nat} {x : Int32} {tgt : Nat} (hd : decode cc pc = .ok (.tableswitch dflt lo hi offs, len)) (h : x.toInt < lo ∨ hi < x.toInt) (ht : (pc : Int) + dflt = (tgt : Int)) (k : jv_V l D cl kp G cs ss n E (tgt) lv st) : jv_V l D cl kp G cs ss n E (pc) lv (.int x :: st) := by
  obtain ⟨p, e, R, s, m, args, below, meth, c, A, nL, n0, f0, Q⟩ := G
  intro f H locs ls hP hD hS hE hL hs hn hf hl
  obtain ⟨hx, hb, hml, hown, hts, hK, hA, hlk, hRm, hNw⟩ := C
  refine lv_tableOut hx hb hd h ht ?_
  exact k f H locs ls hP hD hS hE hL (jv_sd hs) hn hf hl

theorem jv_ifnonnull (C : jv_C D cl kp G cc own Ts rm N) {x : Nat} {off : Int} {tgt : Nat} (hd : decode cc pc = .ok (.ifnonnull off, 3)) (ht : (pc : Int) + off = (tgt : Int)) (k : jv_V l D cl kp G cs ss n E (tgt) lv st) : jv_V l D cl kp G cs ss n E (pc) lv (.ref x :: st) := by
  obtain ⟨p, e, R, s, m, args, below, meth, c, A, nL, n0, f0, Q⟩ := G
  intro f H locs ls hP hD hS hE hL hs hn hf hl
  obtain ⟨hx, hb, hml, hown, hts, hK, hA, hlk, hRm, hNw⟩ := C
  refine lv_ifnonnull hx hb hd ht ?_
  exact k f H locs ls hP hD hS hE hL (jv_sd hs) hn hf hl

theorem jv_ifnonnullN (C : jv_C D cl kp G cc own Ts rm N) {off : Int} (hd : decode cc pc = .ok (.ifnonnull off, 3)) (k : jv_V l D cl kp G cs ss n E (pc + 3) lv st) : jv_V l D cl kp G cs ss n E (pc) lv (.null :: st) := by
  obtain ⟨p, e, R, s, m, args, below, meth, c, A, nL, n0, f0, Q⟩ := G
  intro f H locs ls hP hD hS hE hL hs hn hf hl
  obtain ⟨hx, hb, hml, hown, hts, hK, hA, hlk, hRm, hNw⟩ := C
  refine lv_ifnonnullN hx hb hd ?_
  exact k f H locs ls hP hD hS hE hL (jv_sd hs) hn hf hl

theorem jv_filt1 (f : Nat → Nat) (i : Nat) (v : Value) (lv : List (Nat × Value)) : (i, jv_v f v) :: (lv.map (fun q => (q.1, jv_v f q.2))).filter (fun q => !(q.1 == i) && !(q.1 + 1 == i && q.2.category == 2)) = ((i, v) :: lv.filter (fun q => !(q.1 == i) && !(q.1 + 1 == i && q.2.category == 2))).map (fun q => (q.1, jv_v f q.2)) := by
  rw [List.map_cons, List.filter_map]
  congr 2
  congr 1
  funext q
  simp [Function.comp, jv_v_cat]
theorem jv_filt2 (f : Nat → Nat) (i : Nat) (v : Value) (lv : List (Nat × Value)) : (i, jv_v f v) :: (lv.map (fun q => (q.1, jv_v f q.2))).filter (fun q => !(q.1 == i) && (!(q.1 == i + 1) && !(q.1 + 1 == i && q.2.category == 2))) = ((i, v) :: lv.filter (fun q => !(q.1 == i) && (!(q.1 == i + 1) && !(q.1 + 1 == i && q.2.category == 2)))).map (fun q => (q.1, jv_v f q.2)) := by
  rw [List.map_cons, List.filter_map]
  congr 2
  congr 1
  funext q
  simp [Function.comp, jv_v_cat]
theorem jv_lok {i : Nat} {v : Value} {g : Nat × Value → Bool} (h : ∀ q ∈ lv, jv_ok n q.2) (hv : jv_ok n v) : ∀ q ∈ (i, v) :: lv.filter g, jv_ok n q.2 := fun q hq => (List.mem_cons.mp hq).elim (fun e => e ▸ hv) (fun h2 => h q (List.mem_filter.mp h2).1)

theorem jv_istore_n (C : jv_C D cl kp G cc own Ts rm N) {i0 : Fin 4} {i : Nat} {x : Int32} {nl : Nat} {lv2 : List (Nat × Value)} (hd : decode cc pc = .ok (.istore_n i0, 1)) (hi : (i0 : Nat) = i) (hnl : jv_nL G = nl) (hi2 : i < nl) (h2 : (i, .int x) :: lv.filter (fun q => !(q.1 == i) && !(q.1 + 1 == i && q.2.category == 2)) = lv2) (k : jv_V l D cl kp G cs ss n E (pc + 1) lv2 st) : jv_V l D cl kp G cs ss n E (pc) lv (.int x :: st) := by
  subst h2
  obtain ⟨p, e, R, s, m, args, below, meth, c, A, nL, n0, f0, Q⟩ := G
  intro f H locs ls hP hD hS hE hL hs hn hf hl
  obtain ⟨hx, hb, hml, hown, hts, hK, hA, hlk, hRm, hNw⟩ := C
  subst hnl
  refine lv_istore_n hx hb hd hi hl hi2 (jv_filt1 f i (.int x) lv) (fun ls' hl' => ?_)
  exact k f H locs ls' hP hD hS hE (jv_lok hL (jv_ok_i)) (jv_sd hs) hn hf hl'

theorem jv_istore (C : jv_C D cl kp G cc own Ts rm N) {i : Nat} {x : Int32} {nl : Nat} {lv2 : List (Nat × Value)} (hd : decode cc pc = .ok (.istore i, 2)) (hnl : jv_nL G = nl) (hi2 : i < nl) (h2 : (i, .int x) :: lv.filter (fun q => !(q.1 == i) && !(q.1 + 1 == i && q.2.category == 2)) = lv2) (k : jv_V l D cl kp G cs ss n E (pc + 2) lv2 st) : jv_V l D cl kp G cs ss n E (pc) lv (.int x :: st) := by
  subst h2
  obtain ⟨p, e, R, s, m, args, below, meth, c, A, nL, n0, f0, Q⟩ := G
  intro f H locs ls hP hD hS hE hL hs hn hf hl
  obtain ⟨hx, hb, hml, hown, hts, hK, hA, hlk, hRm, hNw⟩ := C
  subst hnl
  refine lv_istore hx hb hd hl hi2 (jv_filt1 f i (.int x) lv) (fun ls' hl' => ?_)
  exact k f H locs ls' hP hD hS hE (jv_lok hL (jv_ok_i)) (jv_sd hs) hn hf hl'

theorem jv_astore_n (C : jv_C D cl kp G cc own Ts rm N) {i0 : Fin 4} {i : Nat} {x : Nat} {nl : Nat} {lv2 : List (Nat × Value)} (hd : decode cc pc = .ok (.astore_n i0, 1)) (hi : (i0 : Nat) = i) (hnl : jv_nL G = nl) (hi2 : i < nl) (h2 : (i, .ref x) :: lv.filter (fun q => !(q.1 == i) && !(q.1 + 1 == i && q.2.category == 2)) = lv2) (k : jv_V l D cl kp G cs ss n E (pc + 1) lv2 st) : jv_V l D cl kp G cs ss n E (pc) lv (.ref x :: st) := by
  subst h2
  obtain ⟨p, e, R, s, m, args, below, meth, c, A, nL, n0, f0, Q⟩ := G
  intro f H locs ls hP hD hS hE hL hs hn hf hl
  obtain ⟨hx, hb, hml, hown, hts, hK, hA, hlk, hRm, hNw⟩ := C
  subst hnl
  refine lv_astore_n hx hb hd hi hl hi2 (jv_filt1 f i (.ref x) lv) (fun ls' hl' => ?_)
  exact k f H locs ls' hP hD hS hE (jv_lok hL (jv_sh hs)) (jv_sd hs) hn hf hl'

theorem jv_astore (C : jv_C D cl kp G cc own Ts rm N) {i : Nat} {x : Nat} {nl : Nat} {lv2 : List (Nat × Value)} (hd : decode cc pc = .ok (.astore i, 2)) (hnl : jv_nL G = nl) (hi2 : i < nl) (h2 : (i, .ref x) :: lv.filter (fun q => !(q.1 == i) && !(q.1 + 1 == i && q.2.category == 2)) = lv2) (k : jv_V l D cl kp G cs ss n E (pc + 2) lv2 st) : jv_V l D cl kp G cs ss n E (pc) lv (.ref x :: st) := by
  subst h2
  obtain ⟨p, e, R, s, m, args, below, meth, c, A, nL, n0, f0, Q⟩ := G
  intro f H locs ls hP hD hS hE hL hs hn hf hl
  obtain ⟨hx, hb, hml, hown, hts, hK, hA, hlk, hRm, hNw⟩ := C
  subst hnl
  refine lv_astore hx hb hd hl hi2 (jv_filt1 f i (.ref x) lv) (fun ls' hl' => ?_)
  exact k f H locs ls' hP hD hS hE (jv_lok hL (jv_sh hs)) (jv_sd hs) hn hf hl'

theorem jv_lstore_n (C : jv_C D cl kp G cc own Ts rm N) {i0 : Fin 4} {i : Nat} {x : Int64} {nl : Nat} {lv2 : List (Nat × Value)} (hd : decode cc pc = .ok (.lstore_n i0, 1)) (hi : (i0 : Nat) = i) (hnl : jv_nL G = nl) (hi2 : i + 1 < nl) (h2 : (i, .long x) :: lv.filter (fun q => !(q.1 == i) && (!(q.1 == i + 1) && !(q.1 + 1 == i && q.2.category == 2))) = lv2) (k : jv_V l D cl kp G cs ss n E (pc + 1) lv2 st) : jv_V l D cl kp G cs ss n E (pc) lv (.long x :: st) := by
  subst h2
  obtain ⟨p, e, R, s, m, args, below, meth, c, A, nL, n0, f0, Q⟩ := G
  intro f H locs ls hP hD hS hE hL hs hn hf hl
  obtain ⟨hx, hb, hml, hown, hts, hK, hA, hlk, hRm, hNw⟩ := C
  subst hnl
  refine lv_lstore_n hx hb hd hi hl hi2 (jv_filt2 f i (.long x) lv) (fun ls' hl' => ?_)
  exact k f H locs ls' hP hD hS hE (jv_lok hL (jv_ok_l)) (jv_sd hs) hn hf hl'

theorem jv_lstore (C : jv_C D cl kp G cc own Ts rm N) {i : Nat} {x : Int64} {nl : Nat} {lv2 : List (Nat × Value)} (hd : decode cc pc = .ok (.lstore i, 2)) (hnl : jv_nL G = nl) (hi2 : i + 1 < nl) (h2 : (i, .long x) :: lv.filter (fun q => !(q.1 == i) && (!(q.1 == i + 1) && !(q.1 + 1 == i && q.2.category == 2))) = lv2) (k : jv_V l D cl kp G cs ss n E (pc + 2) lv2 st) : jv_V l D cl kp G cs ss n E (pc) lv (.long x :: st) := by
  subst h2
  obtain ⟨p, e, R, s, m, args, below, meth, c, A, nL, n0, f0, Q⟩ := G
  intro f H locs ls hP hD hS hE hL hs hn hf hl
  obtain ⟨hx, hb, hml, hown, hts, hK, hA, hlk, hRm, hNw⟩ := C
  subst hnl
  refine lv_lstore hx hb hd hl hi2 (jv_filt2 f i (.long x) lv) (fun ls' hl' => ?_)
  exact k f H locs ls' hP hD hS hE (jv_lok hL (jv_ok_l)) (jv_sd hs) hn hf hl'

theorem jv_astore_nN (C : jv_C D cl kp G cc own Ts rm N) {i0 : Fin 4} {i : Nat} {nl : Nat} {lv2 : List (Nat × Value)} (hd : decode cc pc = .ok (.astore_n i0, 1)) (hi : (i0 : Nat) = i) (hnl : jv_nL G = nl) (hi2 : i < nl) (h2 : (i, Value.null) :: lv.filter (fun q => !(q.1 == i) && !(q.1 + 1 == i && q.2.category == 2)) = lv2) (k : jv_V l D cl kp G cs ss n E (pc + 1) lv2 st) : jv_V l D cl kp G cs ss n E (pc) lv (.null :: st) := by
  subst h2
  obtain ⟨p, e, R, s, m, args, below, meth, c, A, nL, n0, f0, Q⟩ := G
  intro f H locs ls hP hD hS hE hL hs hn hf hl
  obtain ⟨hx, hb, hml, hown, hts, hK, hA, hlk, hRm, hNw⟩ := C
  subst hnl
  refine lv_astore_nN hx hb hd hi hl hi2 (jv_filt1 f i .null lv) (fun ls' hl' => ?_)
  exact k f H locs ls' hP hD hS hE (jv_lok hL jv_ok_n) (jv_sd hs) hn hf hl'

theorem jv_astoreN (C : jv_C D cl kp G cc own Ts rm N) {i : Nat} {nl : Nat} {lv2 : List (Nat × Value)} (hd : decode cc pc = .ok (.astore i, 2)) (hnl : jv_nL G = nl) (hi2 : i < nl) (h2 : (i, Value.null) :: lv.filter (fun q => !(q.1 == i) && !(q.1 + 1 == i && q.2.category == 2)) = lv2) (k : jv_V l D cl kp G cs ss n E (pc + 2) lv2 st) : jv_V l D cl kp G cs ss n E (pc) lv (.null :: st) := by
  subst h2
  obtain ⟨p, e, R, s, m, args, below, meth, c, A, nL, n0, f0, Q⟩ := G
  intro f H locs ls hP hD hS hE hL hs hn hf hl
  obtain ⟨hx, hb, hml, hown, hts, hK, hA, hlk, hRm, hNw⟩ := C
  subst hnl
  refine lv_astoreN hx hb hd hl hi2 (jv_filt1 f i .null lv) (fun ls' hl' => ?_)
  exact k f H locs ls' hP hD hS hE (jv_lok hL jv_ok_n) (jv_sd hs) hn hf hl'

theorem jv_aload_nN (C : jv_C D cl kp G cc own Ts rm N) {i : Fin 4} (hd : decode cc pc = .ok (.aload_n i, 1)) (j : Nat) (hk : lv[j]? = some ((i : Nat), .null)) (k : jv_V l D cl kp G cs ss n E (pc + 1) lv (.null :: st)) : jv_V l D cl kp G cs ss n E (pc) lv st := by
  obtain ⟨p, e, R, s, m, args, below, meth, c, A, nL, n0, f0, Q⟩ := G
  intro f H locs ls hP hD hS hE hL hs hn hf hl
  obtain ⟨hx, hb, hml, hown, hts, hK, hA, hlk, hRm, hNw⟩ := C
  refine lv_aload_nN hx hb hd rfl (lv_at hl j (by rw [List.getElem?_map, hk]; rfl)) ?_
  exact k f H locs ls hP hD hS hE hL (jv_s0 hs jv_ok_n) hn hf hl

theorem jv_aloadN (C : jv_C D cl kp G cc own Ts rm N) {i : Nat} (hd : decode cc pc = .ok (.aload i, 2)) (j : Nat) (hk : lv[j]? = some (i, .null)) (k : jv_V l D cl kp G cs ss n E (pc + 2) lv (.null :: st)) : jv_V l D cl kp G cs ss n E (pc) lv st := by
  obtain ⟨p, e, R, s, m, args, below, meth, c, A, nL, n0, f0, Q⟩ := G
  intro f H locs ls hP hD hS hE hL hs hn hf hl
  obtain ⟨hx, hb, hml, hown, hts, hK, hA, hlk, hRm, hNw⟩ := C
  refine lv_aloadN hx hb hd (lv_at hl j (by rw [List.getElem?_map, hk]; rfl)) ?_
  exact k f H locs ls hP hD hS hE hL (jv_s0 hs jv_ok_n) hn hf hl

theorem jv_iinc (C : jv_C D cl kp G cc own Ts rm N) {i : Nat} {z : Int} {x v : Int32} {nl : Nat} {lv2 : List (Nat × Value)} (hd : decode cc pc = .ok (.iinc i z, 3)) (hnl : jv_nL G = nl) (j : Nat) (hk : lv[j]? = some (i, .int x)) (hv : x + Int32.ofInt z = v) (hi2 : i < nl) (h2 : (i, .int v) :: lv.filter (fun q => !(q.1 == i) && !(q.1 + 1 == i && q.2.category == 2)) = lv2) (k : jv_V l D cl kp G cs ss n E (pc + 3) lv2 st) : jv_V l D cl kp G cs ss n E (pc) lv st := by
  subst h2
  obtain ⟨p, e, R, s, m, args, below, meth, c, A, nL, n0, f0, Q⟩ := G
  intro f H locs ls hP hD hS hE hL hs hn hf hl
  obtain ⟨hx, hb, hml, hown, hts, hK, hA, hlk, hRm, hNw⟩ := C
  subst hnl
  refine lv_iinc (k := j) hx hb hd hl (by rw [List.getElem?_map, hk]; rfl) hv hi2 (jv_filt1 f i (.int v) lv) (fun ls' hl' => ?_)
  exact k f H locs ls' hP hD hS hE (jv_lok hL jv_ok_i) hs hn hf hl'
theorem jv_free {A : Nat → Prop} {n : Nat} {f : Nat → Nat} {kp : Nat → ClassId} {E : Nat → jv_E} {H0 H : Heap} {locs : List Loc} (hD : va_D A (jv_W n f kp E)) (hS : va_S A H0 H locs) (hA : ∀ q, H0.size ≤ q → A q) : ∀ q, va_A (jv_W n f kp E) H.size q → A q := fun q hq => by
  rcases hq with ⟨k, e, h⟩ | h
  · exact hD.2 k _ h
  · exact hA q (Nat.le_trans hS.1 h)
/-- behind any call -/
theorem jv_go {p : Program} {e : Env} {R : Room} {s : State} {m : MethodId} {args : Array Value} {below : List Frame} {meth : Method} {c : Code} {A : Nat → Prop} {nL n0 : Nat} {f0 : Nat → Nat} {Q : State → Prop} {f : Nat → Nat} {H : Heap} {locs : List Loc} {ls : Array Slot} {mc ms : Nat} {a : Array Value} {stk : List Value} {post : Option Value → Nat → (Nat → jv_E) → Prop}
    (hr : va_Run p l e R s m args below meth c H locs cs ss mc ms (F0 m pc ls stk) (st.map (jv_v f)) (jv_Q D cl kp n f E H.size post a) (va_A (jv_W n f kp E) H.size))
    (hD : va_D A (jv_W n f kp E)) (hS : va_S A s.heap H locs) (hA : ∀ q, s.heap.size ≤ q → A q) (hL : ∀ q ∈ lv, jv_ok n q.2) (hs : ∀ v ∈ st, jv_ok n v) (hn : n0 ≤ n) (hf : ∀ i, (i < n0 ∨ 1000000 ≤ i) → f i = f0 i) (hl : lv_has ls nL (lv.map (fun q => (q.1, jv_v f q.2))))
    (kk : ∀ (r : Option Value) (n1 : Nat) (E1 : Nat → jv_E), post r n1 E1 → n ≤ n1 → jv_V l D cl kp (p, e, R, s, m, args, below, meth, c, A, nL, n0, f0, Q) (cs + mc) (ss + ms) n1 E1 (pc + 3) lv (r.toList ++ st)) : W p l e R s m args below meth c H locs cs ss Q (F0 m pc ls stk) := by
  intro T hT X
  obtain ⟨v, st₀, t, T', L, h0, X', hL', e1, e2, ⟨⟨r, n1, E1, f1, hv, hpost, hle, hag, hE1, hr1, hP1, hD1⟩, hz, hk1⟩, stp⟩ := hr T hT X
  cases hv
  rw [h0] at hz hk1
  have hFc := jv_free hD hS hA
  have hls : lv_has ls nL (lv.map (fun q => (q.1, jv_v f1 q.2))) := by rw [jv_lv_congr hag hL]; exact hl
  obtain ⟨t2, a1, b1⟩ := kk r n1 E1 hpost hle f1 T'.heap (locs ++ L) ls (by rw [e1]; exact hP1) (hD1.weaken (fun _ q _ h => hFc q.1 h))
    ⟨Nat.le_trans hS.1 (by rw [e1]; exact hz), fun q h1 h2 => by rw [e1, hk1 q (Nat.lt_of_lt_of_le h1 hS.1) (fun z => h2 (hFc q z))]; exact hS.2.1 q h1 h2, fun q hq => by
      rcases List.mem_append.mp hq with h | h
      · exact hS.2.2 q h
      · exact hFc _ (hL' q h)⟩
    hE1 (fun q hq => jv_ok_up hle (hL q hq)) (fun v hv => by
      rcases List.mem_append.mp hv with h | h
      · exact hr1 v (by cases r with
          | none => cases h
          | some x => rw [List.mem_singleton.mp h])
      · exact jv_ok_up hle (hs v h)) (Nat.le_trans hn hle) (fun i hi => (hag i (hi.imp (fun h => Nat.lt_of_lt_of_le h hn) id)).trans (hf i hi)) hls T' rfl X'
  refine ⟨t2, stp t2 ?_, b1⟩
  have he : (r.toList ++ st).map (jv_v f1) = (r.map (jv_v f1)).toList ++ st.map (jv_v f) := by
    rw [List.map_append, jv_vs_congr hag hs]
    cases r <;> rfl
  rw [he] at a1
  exact a1
theorem jv_blind {ar : List Value} {f0 : Nat → Nat} {sz : Nat} : FrameBlind (jv_P D cl kp N ar n E f0 sz) := fun a U g mk q => by
  obtain ⟨q0, q1, qP, qK, qD, qE, qA, qN⟩ := q
  exact ⟨q0, q1, qP, va_K.moved (u := U) (U := U.calling g mk a) (Vm.Alike.refl U.vm) qK, qD, qE, qA, ⟨fun w hw => va_Nw.same rfl rfl (qN.1 w hw), va_AO.moved (u := U) (U := U.calling g mk a) (Vm.Alike.refl U.vm) qN.2.1, qN.2.2.1, vk_S.moved (u := U) (U := U.calling g mk a) (Vm.Alike.refl U.vm) qN.2.2.2.1, va_Z.moved (u := U) (U := U.calling g mk a) (Vm.Alike.refl U.vm) qN.2.2.2.2.1, qN.2.2.2.2.2.1.imp (fun z => va_Z.moved (u := U) (U := U.calling g mk a) (Vm.Alike.refl U.vm) z) (fun z => ⟨va_Z.moved (u := U) (U := U.calling g mk a) (Vm.Alike.refl U.vm) z.1, z.2⟩), fun j q hq => vk_R.same (u := U) (U := U.calling g mk a) rfl (qN.2.2.2.2.2.2 j q hq)⟩⟩
theorem jv_cat {f : Nat → Nat} (h : (st.map fun v => v.category).sum ≤ 8) : ((st.map (jv_v f)).map fun v => v.category).sum ≤ 8 := by
  rw [List.map_map, show ((fun v : Value => v.category) ∘ jv_v f) = (fun v : Value => v.category) from funext (jv_v_cat f)]
  exact h
section JVC
variable {y : MethodName} {ws ws' : List Cond} {rm2 : Room} {N2 : jv_N} {As stk : List Value} {mc ms k ci M index maxL na : Nat} {bytes : ByteArray} {ret : Option FieldType} {T : u_T} {fs : List Value} {post : Option Value → Nat → (Nat → jv_E) → Prop} {host : String}
theorem jv_args {k : Nat} (hs : ∀ v ∈ As.reverse ++ .ref k :: st, jv_ok n v) : (∀ v ∈ .ref k :: As, jv_ok n v) ∧ ∀ v ∈ st, jv_ok n v := ⟨fun v hv => hs v (by
    rcases List.mem_cons.mp hv with rfl | h
    · exact List.mem_append_right _ List.mem_cons_self
    · exact List.mem_append_left _ (List.mem_reverse.mpr h)), fun v hv => hs v (List.mem_append_right _ (List.mem_cons_of_mem _ hv))⟩
theorem jv_args0 (hs : ∀ v ∈ As.reverse ++ st, jv_ok n v) : (∀ v ∈ As, jv_ok n v) ∧ ∀ v ∈ st, jv_ok n v := ⟨fun v hv => hs v (List.mem_append_left _ (List.mem_reverse.mpr hv)), fun v hv => hs v (List.mem_append_right _ hv)⟩
theorem jv_callV (C : jv_C D cl kp G cc own Ts rm N) (hM : jv_M l D cl kp y ws rm2 N2 (.ref k :: As) n E mc ms post) (hg : GoodIn Ts (wsV own index y.cls y ws)) (hw : ws = Cond.code y bytes maxL ret :: ws') (hk : k < 1000000) (he : E k = .inr (ci, fs)) (hc : cl[ci]? = some (y.cls, T, M)) (hrc : rm2.cells = mc) (hrs : rm2.slots = ms)
    (hd0 : y.cls ≠ "java/lang/invoke/MethodHandle" ∧ y.cls ≠ "java/lang/invoke/VarHandle" ∧ (parseMethodDescriptor y.desc).map (fun d => d.parameters.length) = some na) (hna : As.length = na) (hR : rm2.frames + 1 ≤ rm.frames ∧ 8 + (maxL + 11) + rm2.locals ≤ rm.locals) (hcs : cs + mc ≤ rm.cells ∧ ss + ms ≤ rm.slots) (hNN : ∀ q ∈ N2, q ∈ N) (hst : (st.map fun v => v.category).sum ≤ 8) (hstk : stk = As.reverse ++ .ref k :: st) (hd : decode cc pc = .ok (.invokevirtual index, 3))
    (kk : ∀ (r : Option Value) (n1 : Nat) (E1 : Nat → jv_E), post r n1 E1 → n ≤ n1 → jv_V l D cl kp G (cs + mc) (ss + ms) n1 E1 (pc + 3) lv (r.toList ++ st)) : jv_V l D cl kp G cs ss n E pc lv stk := by
  subst hstk
  subst hna
  obtain ⟨p, e, R, s, m, args, below, meth, c, A, nL, n0, f0, Q⟩ := G
  intro f H locs ls hP hD hS hE hL hs hn hf hl
  obtain ⟨hx, hb, hml, hown, hts, hK, hA, hlk, hRm, hNw⟩ := C
  subst hRm
  obtain ⟨hsA, hsS⟩ := jv_args hs
  have hkn : k < n := jv_lt (hsA _ List.mem_cons_self) hk
  have hg1 : (jv_W n f kp E)[k]? = some (f k, .inr (ci, fs.map (jv_v f))) := by rw [jv_get hkn, he]; rfl
  refine jv_go (va_runV (b := f k) (As := As.map (jv_v f)) (rest := st.map (jv_v f)) ⟨hx, hb, hml, hown, hts⟩ (hM f H.size) (cwV As.length hts hg hw hrc hrs ⟨rfl, hd0⟩ hR) ⟨jv_blind, va_recv hK hP hc hg1, fun U hU hW => ⟨rfl, by rw [hU], by rw [hU]; exact hP, va_K.moved hW.alike hK, hD.weaken (fun _ _ _ _ => trivial), hE, hsA, jv_Nw_sub hNN hW hU hS (jv_free hD hS hA) (fun i hi => hf i (Or.inr hi)) hNw⟩⟩ rfl (by rw [List.length_map]) hl.1 (by show (As.reverse ++ .ref k :: st).map (jv_v f) = _; rw [List.map_append, List.map_reverse]; rfl) (lv_room (jv_cat hst)) hd hcs) hD hS hA hL hsS hn hf hl kk
theorem jv_callS (C : jv_C D cl kp G cc own Ts rm N) (hM : jv_M l D cl kp y ws rm2 N2 As n E mc ms post) (hg : GoodIn Ts (va_wsS own index y ws)) (hw : ws = Cond.code y bytes maxL ret :: ws') (hrc : rm2.cells = mc) (hrs : rm2.slots = ms)
    (hd0 : y.cls ≠ "java/lang/invoke/MethodHandle" ∧ y.cls ≠ "java/lang/invoke/VarHandle" ∧ (parseMethodDescriptor y.desc).map (fun d => d.parameters.length) = some na) (hna : As.length = na) (hR : rm2.frames + 1 ≤ rm.frames ∧ 8 + (maxL + 11) + rm2.locals ≤ rm.locals) (hcs : cs + mc ≤ rm.cells ∧ ss + ms ≤ rm.slots) (hNN : ∀ q ∈ N2, q ∈ N) (hst : (st.map fun v => v.category).sum ≤ 8) (hstk : stk = As.reverse ++ st) (hd : decode cc pc = .ok (.invokestatic index, 3))
    (kk : ∀ (r : Option Value) (n1 : Nat) (E1 : Nat → jv_E), post r n1 E1 → n ≤ n1 → jv_V l D cl kp G (cs + mc) (ss + ms) n1 E1 (pc + 3) lv (r.toList ++ st)) : jv_V l D cl kp G cs ss n E pc lv stk := by
  subst hstk
  subst hna
  obtain ⟨p, e, R, s, m, args, below, meth, c, A, nL, n0, f0, Q⟩ := G
  intro f H locs ls hP hD hS hE hL hs hn hf hl
  obtain ⟨hx, hb, hml, hown, hts, hK, hA, hlk, hRm, hNw⟩ := C
  subst hRm
  obtain ⟨hsA, hsS⟩ := jv_args0 hs
  refine jv_go (va_runS (As := As.map (jv_v f)) (rest := st.map (jv_v f)) ⟨hx, hb, hml, hown, hts⟩ (hM f H.size) (va_cwS As.length hts hg hw hrc hrs hd0 hR) ⟨jv_blind, fun U hU hW => ⟨rfl, by rw [hU], by rw [hU]; exact hP, va_K.moved hW.alike hK, hD.weaken (fun _ _ _ _ => trivial), hE, hsA, jv_Nw_sub hNN hW hU hS (jv_free hD hS hA) (fun i hi => hf i (Or.inr hi)) hNw⟩⟩ rfl (by rw [List.length_map]) hl.1 (by show (As.reverse ++ st).map (jv_v f) = _; rw [List.map_append, List.map_reverse]) (lv_room (jv_cat hst)) hd hcs) hD hS hA hL hsS hn hf hl kk
theorem jv_callI (C : jv_C D cl kp G cc own Ts rm N) (hM : jv_M l D cl kp y ws rm2 N2 (.ref k :: As) n E mc ms post) (hg : GoodIn Ts ws) (hw : ws = Cond.code y bytes maxL none :: ws') (hw1 : Cond.initialized y.cls ∈ Ts) (hw2 : Cond.methodLink own index y ∈ Ts) (hw3 : Cond.instanceMethod y ∈ Ts) (hy : y.name = "<init>") (hrc : rm2.cells = mc) (hrs : rm2.slots = ms)
    (hd0 : y.cls ≠ "java/lang/invoke/MethodHandle" ∧ y.cls ≠ "java/lang/invoke/VarHandle" ∧ (parseMethodDescriptor y.desc).map (fun d => d.parameters.length) = some na) (hna : As.length = na) (hR : rm2.frames + 1 ≤ rm.frames ∧ 8 + (maxL + 11) + rm2.locals ≤ rm.locals) (hcs : cs + mc ≤ rm.cells ∧ ss + ms ≤ rm.slots) (hNN : ∀ q ∈ N2, q ∈ N) (hst : (st.map fun v => v.category).sum ≤ 8) (hstk : stk = As.reverse ++ .ref k :: st) (hd : decode cc pc = .ok (.invokespecial index, 3))
    (kk : ∀ (r : Option Value) (n1 : Nat) (E1 : Nat → jv_E), post r n1 E1 → n ≤ n1 → jv_V l D cl kp G (cs + mc) (ss + ms) n1 E1 (pc + 3) lv (r.toList ++ st)) : jv_V l D cl kp G cs ss n E pc lv stk := by
  subst hstk
  subst hna
  obtain ⟨p, e, R, s, m, args, below, meth, c, A, nL, n0, f0, Q⟩ := G
  intro f H locs ls hP hD hS hE hL hs hn hf hl
  obtain ⟨hx, hb, hml, hown, hts, hK, hA, hlk, hRm, hNw⟩ := C
  subst hRm
  obtain ⟨hsA, hsS⟩ := jv_args hs
  refine jv_go (va_runI (b := f k) (As := As.map (jv_v f)) (rest := st.map (jv_v f)) ⟨hx, hb, hml, hown, hts⟩ (hM f H.size) (cwI As.length hts hg hw hrc hrs (hts _ hw1) (hts _ hw2) (hts _ hw3) hy hd0 hR) ⟨jv_blind, fun U hU hW => ⟨rfl, by rw [hU], by rw [hU]; exact hP, va_K.moved hW.alike hK, hD.weaken (fun _ _ _ _ => trivial), hE, hsA, jv_Nw_sub hNN hW hU hS (jv_free hD hS hA) (fun i hi => hf i (Or.inr hi)) hNw⟩⟩ rfl (by rw [List.length_map]) hl.1 (by show (As.reverse ++ .ref k :: st).map (jv_v f) = _; rw [List.map_append, List.map_reverse]; rfl) (lv_room (jv_cat hst)) hd hcs) hD hS hA hL hsS hn hf hl kk
theorem jv_callIN (C : jv_C D cl kp G cc own Ts rm N) (hM : jv_M l D cl kp y ws rm2 N2 (.ref k :: As) n E mc ms post) (hg : GoodIn Ts ws) (hw : ws = Cond.code y bytes maxL none :: ws') (hw1 : Cond.initialized y.cls ∈ Ts) (hw2 : (own, index, y, host) ∈ N) (hw3 : Cond.instanceMethod y ∈ Ts) (hy : y.name = "<init>") (hrc : rm2.cells = mc) (hrs : rm2.slots = ms)
    (hd0 : y.cls ≠ "java/lang/invoke/MethodHandle" ∧ y.cls ≠ "java/lang/invoke/VarHandle" ∧ (parseMethodDescriptor y.desc).map (fun d => d.parameters.length) = some na) (hna : As.length = na) (hR : rm2.frames + 1 ≤ rm.frames ∧ 8 + (maxL + 11) + rm2.locals ≤ rm.locals) (hcs : cs + mc ≤ rm.cells ∧ ss + ms ≤ rm.slots) (hNN : ∀ q ∈ N2, q ∈ N) (hst : (st.map fun v => v.category).sum ≤ 8) (hstk : stk = As.reverse ++ .ref k :: st) (hd : decode cc pc = .ok (.invokespecial index, 3))
    (kk : ∀ (r : Option Value) (n1 : Nat) (E1 : Nat → jv_E), post r n1 E1 → n ≤ n1 → jv_V l D cl kp G (cs + mc) (ss + ms) n1 E1 (pc + 3) lv (r.toList ++ st)) : jv_V l D cl kp G cs ss n E pc lv stk := by
  subst hstk
  subst hna
  obtain ⟨p, e, R, s, m, args, below, meth, c, A, nL, n0, f0, Q⟩ := G
  intro f H locs ls hP hD hS hE hL hs hn hf hl
  obtain ⟨hx, hb, hml, hown, hts, hK, hA, hlk, hRm, hNw⟩ := C
  subst hRm
  obtain ⟨hsA, hsS⟩ := jv_args hs
  refine jv_go (va_runIN (b := f k) (As := As.map (jv_v f)) (rest := st.map (jv_v f)) ⟨hx, hb, hml, hown, hts⟩ (hM f H.size) ⟨va_cnB As.length hts hg hw hrc hrs (hNw.1 _ hw2) (hts _ hw1) hd0 hR, hy, hts _ hw3⟩ ⟨jv_blind, fun U hU hW => ⟨rfl, by rw [hU], by rw [hU]; exact hP, va_K.moved hW.alike hK, hD.weaken (fun _ _ _ _ => trivial), hE, hsA, jv_Nw_sub hNN hW hU hS (jv_free hD hS hA) (fun i hi => hf i (Or.inr hi)) hNw⟩⟩ rfl (by rw [List.length_map]) hl.1 (by show (As.reverse ++ .ref k :: st).map (jv_v f) = _; rw [List.map_append, List.map_reverse]; rfl) (lv_room (jv_cat hst)) hd hcs) hD hS hA hL hsS hn hf hl kk
theorem jv_callSN (C : jv_C D cl kp G cc own Ts rm N) (hM : jv_M l D cl kp y ws rm2 N2 As n E mc ms post) (hg : GoodIn Ts ws) (hw : ws = Cond.code y bytes maxL ret :: ws') (hw1 : Cond.initialized y.cls ∈ Ts) (hw2 : (own, index, y, host) ∈ N) (hw3 : Cond.static y ∈ Ts) (hrc : rm2.cells = mc) (hrs : rm2.slots = ms)
    (hd0 : y.cls ≠ "java/lang/invoke/MethodHandle" ∧ y.cls ≠ "java/lang/invoke/VarHandle" ∧ (parseMethodDescriptor y.desc).map (fun d => d.parameters.length) = some na) (hna : As.length = na) (hR : rm2.frames + 1 ≤ rm.frames ∧ 8 + (maxL + 11) + rm2.locals ≤ rm.locals) (hcs : cs + mc ≤ rm.cells ∧ ss + ms ≤ rm.slots) (hNN : ∀ q ∈ N2, q ∈ N) (hst : (st.map fun v => v.category).sum ≤ 8) (hstk : stk = As.reverse ++ st) (hd : decode cc pc = .ok (.invokestatic index, 3))
    (kk : ∀ (r : Option Value) (n1 : Nat) (E1 : Nat → jv_E), post r n1 E1 → n ≤ n1 → jv_V l D cl kp G (cs + mc) (ss + ms) n1 E1 (pc + 3) lv (r.toList ++ st)) : jv_V l D cl kp G cs ss n E pc lv stk := by
  subst hstk
  subst hna
  obtain ⟨p, e, R, s, m, args, below, meth, c, A, nL, n0, f0, Q⟩ := G
  intro f H locs ls hP hD hS hE hL hs hn hf hl
  obtain ⟨hx, hb, hml, hown, hts, hK, hA, hlk, hRm, hNw⟩ := C
  subst hRm
  obtain ⟨hsA, hsS⟩ := jv_args0 hs
  refine jv_go (va_runSN (As := As.map (jv_v f)) (rest := st.map (jv_v f)) ⟨hx, hb, hml, hown, hts⟩ (hM f H.size) ⟨va_cnB As.length hts hg hw hrc hrs (hNw.1 _ hw2) (hts _ hw1) hd0 hR, hts _ hw3, trivial⟩ ⟨jv_blind, fun U hU hW => ⟨rfl, by rw [hU], by rw [hU]; exact hP, va_K.moved hW.alike hK, hD.weaken (fun _ _ _ _ => trivial), hE, hsA, jv_Nw_sub hNN hW hU hS (jv_free hD hS hA) (fun i hi => hf i (Or.inr hi)) hNw⟩⟩ rfl (by rw [List.length_map]) hl.1 (by show (As.reverse ++ st).map (jv_v f) = _; rw [List.map_append, List.map_reverse]) (lv_room (jv_cat hst)) hd hcs) hD hS hA hL hsS hn hf hl kk
end JVC
theorem jv_iret (C : jv_C D cl kp G cc own Ts rm N) {E0 : Nat → jv_E} {mc ms : Nat} {post : Option Value → Nat → (Nat → jv_E) → Prop} (B : jv_R D cl kp G E0 (some .int) mc ms post) {x : Int32} (hp : post (some (.int x)) n E) (hcs : cs ≤ mc ∧ ss ≤ ms) (hd : decode cc pc = .ok (.ireturn, 1)) : jv_V l D cl kp G cs ss n E pc lv [.int x] := by
  obtain ⟨p, e, R, s, m, args, below, meth, c, A, nL, n0, f0, Q⟩ := G
  intro f H locs ls hP hD hS hE hL hs hn hf hl
  obtain ⟨hx, hb, hml, hown, hts, hK, hA, hlk, hRm, hNw⟩ := C
  obtain ⟨hrt, rfl, rfl⟩ := B
  refine W.widen (k := mc) (n := ms) hcs.1 hcs.2 ?_
  exact W.iret hx hb hrt (fun t ht hW => ⟨⟨some (.int x), n, E, f, rfl, hp, hn, hf, hE, (fun v hv => by cases hv; exact jv_ok_i), by rw [ht]; exact hP, hD⟩, hS.F ht⟩) hS.2.2 hd hlk
theorem jv_zret (C : jv_C D cl kp G cc own Ts rm N) {E0 : Nat → jv_E} {mc ms : Nat} {post : Option Value → Nat → (Nat → jv_E) → Prop} {ty : FieldType} (B : jv_R D cl kp G E0 (some ty) mc ms post) {x : Int32} (hn0 : narrow ty (.int x) = .int x) (hp : post (some (.int x)) n E) (hcs : cs ≤ mc ∧ ss ≤ ms) (hd : decode cc pc = .ok (.ireturn, 1)) : jv_V l D cl kp G cs ss n E pc lv [.int x] := by
  obtain ⟨p, e, R, s, m, args, below, meth, c, A, nL, n0, f0, Q⟩ := G
  intro f H locs ls hP hD hS hE hL hs hn hf hl
  obtain ⟨hx, hb, hml, hown, hts, hK, hA, hlk, hRm, hNw⟩ := C
  obtain ⟨hrt, rfl, rfl⟩ := B
  refine W.widen (k := mc) (n := ms) hcs.1 hcs.2 ?_
  exact W.zret hx hb hrt hn0 (fun t ht hW => ⟨⟨some (.int x), n, E, f, rfl, hp, hn, hf, hE, (fun v hv => by cases hv; exact jv_ok_i), by rw [ht]; exact hP, hD⟩, hS.F ht⟩) hS.2.2 hd hlk
theorem jv_lret (C : jv_C D cl kp G cc own Ts rm N) {E0 : Nat → jv_E} {mc ms : Nat} {post : Option Value → Nat → (Nat → jv_E) → Prop} (B : jv_R D cl kp G E0 (some .long) mc ms post) {x : Int64} (hp : post (some (.long x)) n E) (hcs : cs ≤ mc ∧ ss ≤ ms) (hd : decode cc pc = .ok (.lreturn, 1)) : jv_V l D cl kp G cs ss n E pc lv [.long x] := by
  obtain ⟨p, e, R, s, m, args, below, meth, c, A, nL, n0, f0, Q⟩ := G
  intro f H locs ls hP hD hS hE hL hs hn hf hl
  obtain ⟨hx, hb, hml, hown, hts, hK, hA, hlk, hRm, hNw⟩ := C
  obtain ⟨hrt, rfl, rfl⟩ := B
  refine W.widen (k := mc) (n := ms) hcs.1 hcs.2 ?_
  exact W.lret hx hb hrt (fun t ht hW => ⟨⟨some (.long x), n, E, f, rfl, hp, hn, hf, hE, (fun v hv => by cases hv; exact jv_ok_l), by rw [ht]; exact hP, hD⟩, hS.F ht⟩) hS.2.2 hd hlk
theorem jv_vret (C : jv_C D cl kp G cc own Ts rm N) {E0 : Nat → jv_E} {mc ms : Nat} {post : Option Value → Nat → (Nat → jv_E) → Prop} (B : jv_R D cl kp G E0 none mc ms post) (hp : post none n E) (hcs : cs ≤ mc ∧ ss ≤ ms) (hd : decode cc pc = .ok (.return_, 1)) : jv_V l D cl kp G cs ss n E pc lv [] := by
  obtain ⟨p, e, R, s, m, args, below, meth, c, A, nL, n0, f0, Q⟩ := G
  intro f H locs ls hP hD hS hE hL hs hn hf hl
  obtain ⟨hx, hb, hml, hown, hts, hK, hA, hlk, hRm, hNw⟩ := C
  obtain ⟨hrt, rfl, rfl⟩ := B
  refine W.widen (k := mc) (n := ms) hcs.1 hcs.2 ?_
  exact W.vret hx hb hrt (fun t ht hW => ⟨⟨none, n, E, f, rfl, hp, hn, hf, hE, (fun v hv => by cases hv), by rw [ht]; exact hP, hD⟩, hS.F ht⟩) hS.2.2 hd hlk
theorem jv_aret (C : jv_C D cl kp G cc own Ts rm N) {E0 : Nat → jv_E} {mc ms : Nat} {post : Option Value → Nat → (Nat → jv_E) → Prop} {C0 : String} (B : jv_R D cl kp G E0 (some (.object C0)) mc ms post) {v : Value} (hv : v = .null ∨ ∃ a, v = .ref a) (hp : post (some v) n E) (hcs : cs ≤ mc ∧ ss ≤ ms) (hd : decode cc pc = .ok (.areturn, 1)) : jv_V l D cl kp G cs ss n E pc lv [v] := by
  obtain ⟨p, e, R, s, m, args, below, meth, c, A, nL, n0, f0, Q⟩ := G
  intro f H locs ls hP hD hS hE hL hs hn hf hl
  obtain ⟨hx, hb, hml, hown, hts, hK, hA, hlk, hRm, hNw⟩ := C
  obtain ⟨hrt, rfl, rfl⟩ := B
  refine W.widen (k := mc) (n := ms) hcs.1 hcs.2 ?_
  exact W.aret hx hb hrt (Or.inl ⟨_, rfl⟩) (by rcases hv with rfl | ⟨a, rfl⟩; exact Or.inl rfl; exact Or.inr ⟨_, rfl⟩) (fun t ht hW => ⟨⟨some v, n, E, f, rfl, hp, hn, hf, hE, (fun w hw => by cases hw; exact jv_sh hs), by rw [ht]; exact hP, hD⟩, hS.F ht⟩) hS.2.2 hd hlk
section JVF
variable {k ci M fk index : Nat} {C0 ref : String} {T : u_T} {fs : List Value} {v : Value}
theorem jv_getf (C : jv_C D cl kp G cc own Ts rm N) (hk : k < 1000000) (he : E k = .inr (ci, fs)) (hc : cl[ci]? = some (C0, T, M)) (hin : ∀ w ∈ u_ws C0 T M, w ∈ Ts) (hfk : fk < M) (hw : Cond.fieldLink own index ref (T fk).2.1 (T fk).2.2.1 ∈ Ts) (href : (T fk).1 = ref) (hv : fs[fk]? = some v) (hd : decode cc pc = .ok (.getfield index, 3)) (kk : jv_V l D cl kp G cs ss n E (pc + 3) lv (v :: st)) : jv_V l D cl kp G cs ss n E pc lv (.ref k :: st) := by
  subst href
  obtain ⟨p, e, R, s, m, args, below, meth, c, A, nL, n0, f0, Q⟩ := G
  intro f H locs ls hP hD hS hE hL hs hn hf hl
  obtain ⟨hx, hb, hml, hown, hts, hK, hA, hlk, hRm, hNw⟩ := C
  have hkn : k < n := jv_lt (jv_sh hs) hk
  have hg1 : (jv_W n f kp E)[k]? = some (f k, .inr (ci, fs.map (jv_v f))) := by rw [jv_get hkn, he]; rfl
  have hok : jv_ok n v := by
    have h := hE k hkn
    rw [he] at h
    exact h v (List.mem_of_getElem? hv)
  refine va_get (D := D) (ci := ci) (v := jv_v f v) (C := C0) (T := T) (N := M) hx hb hts hin hown hK hP k hg1 hc fk hfk (hts _ hw) (fun _ h9 => h9) (by rw [List.getElem?_map, hv]; rfl) hd ?_
  exact kk f H locs ls hP hD hS hE hL (jv_s1 hs hok) hn hf hl
theorem jv_okset {k : Nat} {c : jv_E} (hE : ∀ i, i < n → jv_oke n (E i)) (hc : jv_oke n c) : ∀ i, i < n → jv_oke n (va_up E k c i) := fun i hi => by
  by_cases h : i = k
  · subst h; rw [va_up_self]; exact hc
  · rw [va_up_ne _ _ h]; exact hE i hi
theorem jv_okfs {fs : List Value} {ci : Nat} {v : Value} {fk : Nat} (h : jv_oke n (.inr (ci, fs))) (hv : jv_ok n v) : jv_oke n (.inr (ci, fs.set fk v)) := fun u hu => by
  rcases List.mem_or_eq_of_mem_set hu with h1 | h1
  · exact h u h1
  · rw [h1]; exact hv
theorem jv_putf (C : jv_C D cl kp G cc own Ts rm N) (hk : k < 1000000) (he : E k = .inr (ci, fs)) (hc : cl[ci]? = some (C0, T, M)) (hin : ∀ w ∈ u_ws C0 T M, w ∈ Ts) (ty0 : Nat → FieldType) (hty : ∀ k, k < M → parseFieldDescriptor (T k).2.2.1 = some (ty0 k)) (hnm : ∀ a, a < M → ∀ b, b < M → a ≠ b → (T a).2.1 ≠ (T b).2.1) (hfk : fk < M) (hw : Cond.fieldLink own index ref (T fk).2.1 (T fk).2.2.1 ∈ Ts) (href : (T fk).1 = ref) (hfin : (T fk).2.2.2 = false) {ty : FieldType} (hde : parseFieldDescriptor (T fk).2.2.1 = some ty) (hnr : ∀ f, narrow ty (jv_v f v) = jv_v f v) (hfit : ∀ f, fits ty (jv_v f v) = true) (hlen : fk < fs.length) (hd : decode cc pc = .ok (.putfield index, 3)) {fs2 : List Value} (h2 : fs.set fk v = fs2) (kk : jv_V l D cl kp G cs ss n (va_up E k (.inr (ci, fs2))) (pc + 3) lv st) : jv_V l D cl kp G cs ss n E pc lv (v :: .ref k :: st) := by
  subst href
  subst h2
  obtain ⟨p, e, R, s, m, args, below, meth, c, A, nL, n0, f0, Q⟩ := G
  intro f H locs ls hP hD hS hE hL hs hn hf hl
  obtain ⟨hx, hb, hml, hown, hts, hK, hA, hlk, hRm, hNw⟩ := C
  have hkn : k < n := jv_lt (jv_sh (jv_sd hs)) hk
  have hg1 : (jv_W n f kp E)[k]? = some (f k, .inr (ci, fs.map (jv_v f))) := by rw [jv_get hkn, he]; rfl
  have hEk := hE k hkn
  rw [he] at hEk
  have hset : (jv_W n f kp E).set k (f k, .inr (ci, (fs.map (jv_v f)).set fk (jv_v f v))) = jv_W n f kp (va_up E k (.inr (ci, fs.set fk v))) := by
    rw [← List.map_set]; exact jv_set hkn (.inr (ci, fs.set fk v))
  refine va_put (D := D) (ci := ci) (v := jv_v f v) (ty := ty) (C := C0) (T := T) (N := M) hx hb hts hin ty0 hty hnm hown hK hP hD hS k hg1 hc fk hfk (hts _ hw) (fun _ h9 => h9) hfin hde (hnr f) (hfit f) (by rw [List.length_map]; exact hlen) hd (fun H1 locs1 hP1 hD1 hS1 => ?_)
  rw [hset] at hP1 hD1
  exact kk f H1 locs1 ls hP1 hD1 hS1 (jv_okset hE (jv_okfs hEk (jv_sh hs))) hL (jv_sd (jv_sd hs)) hn hf hl
theorem jv_putF (C : jv_C D cl kp G cc own Ts rm N) (hi : jv_I G) (hk : k < 1000000) (he : E k = .inr (ci, fs)) (hc : cl[ci]? = some (C0, T, M)) (hin : ∀ w ∈ u_ws C0 T M, w ∈ Ts) (ty0 : Nat → FieldType) (hty : ∀ k, k < M → parseFieldDescriptor (T k).2.2.1 = some (ty0 k)) (hnm : ∀ a, a < M → ∀ b, b < M → a ≠ b → (T a).2.1 ≠ (T b).2.1) (hfk : fk < M) (hw : Cond.fieldLink own index ref (T fk).2.1 (T fk).2.2.1 ∈ Ts) (href : (T fk).1 = ref) (hfin : (T fk).2.2.2 = true) (hdecl : (T fk).1 = own) {ty : FieldType} (hde : parseFieldDescriptor (T fk).2.2.1 = some ty) (hnr : ∀ f, narrow ty (jv_v f v) = jv_v f v) (hfit : ∀ f, fits ty (jv_v f v) = true) (hlen : fk < fs.length) (hd : decode cc pc = .ok (.putfield index, 3)) {fs2 : List Value} (h2 : fs.set fk v = fs2) (kk : jv_V l D cl kp G cs ss n (va_up E k (.inr (ci, fs2))) (pc + 3) lv st) : jv_V l D cl kp G cs ss n E pc lv (v :: .ref k :: st) := by
  subst href
  subst h2
  obtain ⟨p, e, R, s, m, args, below, meth, c, A, nL, n0, f0, Q⟩ := G
  intro f H locs ls hP hD hS hE hL hs hn hf hl
  obtain ⟨hx, hb, hml, hown, hts, hK, hA, hlk, hRm, hNw⟩ := C
  have hkn : k < n := jv_lt (jv_sh (jv_sd hs)) hk
  have hg1 : (jv_W n f kp E)[k]? = some (f k, .inr (ci, fs.map (jv_v f))) := by rw [jv_get hkn, he]; rfl
  have hEk := hE k hkn
  rw [he] at hEk
  have hset : (jv_W n f kp E).set k (f k, .inr (ci, (fs.map (jv_v f)).set fk (jv_v f v))) = jv_W n f kp (va_up E k (.inr (ci, fs.set fk v))) := by
    rw [← List.map_set]; exact jv_set hkn (.inr (ci, fs.set fk v))
  refine va_putF (D := D) (ci := ci) (v := jv_v f v) (ty := ty) (C := C0) (T := T) (N := M) hx hb hts hin ty0 hty hnm hown hK hP hD hS k hg1 hc fk hfk (hts _ hw) (fun _ h9 => h9) hfin hi hdecl hde (hnr f) (hfit f) (by rw [List.length_map]; exact hlen) hd (fun H1 locs1 hP1 hD1 hS1 => ?_)
  rw [hset] at hP1 hD1
  exact kk f H1 locs1 ls hP1 hD1 hS1 (jv_okset hE (jv_okfs hEk (jv_sh hs))) hL (jv_sd (jv_sd hs)) hn hf hl
def jv_nr (v : Value) : Bool := match v with
  | .ref _ => false
  | _ => true
theorem jv_new (C : jv_C D cl kp G cc own Ts rm N) (hn6 : n < 1000000) (hc : cl[ci]? = some (C0, T, M)) (hin : ∀ w ∈ u_ws C0 T M, w ∈ Ts) (ty0 : Nat → FieldType) (hty : ∀ k, k < M → parseFieldDescriptor (T k).2.2.1 = some (ty0 k)) (hw1 : Cond.classLink own index C0 ∈ Ts) (hw2 : Cond.instantiable C0 M ∈ Ts) (hw3 : Cond.initialized C0 ∈ Ts) (hfs : ∀ j, j < M → defaultValue (ty0 j) = vp_V fs j) (hno : fs.all jv_nr = true) (hcs : cs + 1 ≤ rm.cells ∧ ss + M ≤ rm.slots) (hd : decode cc pc = .ok (.new index, 3))
    (kk : jv_V l D cl kp G (cs + 1) (ss + M) (n + 1) (va_up E n (.inr (ci, fs))) (pc + 3) lv (.ref n :: st)) : jv_V l D cl kp G cs ss n E pc lv st := by
  obtain ⟨p, e, R, s, m, args, below, meth, c, A, nL, n0, f0, Q⟩ := G
  intro f H locs ls hP hD hS hE hL hs hn hf hl
  obtain ⟨hx, hb, hml, hown, hts, hK, hA, hlk, hRm, hNw⟩ := C
  subst hRm
  have hcok : jv_oke n (.inr (ci, fs)) := fun v hv k e => by
    have h := List.all_eq_true.mp hno v hv
    rw [e] at h
    cases h
  refine va_new (D := D) (ci := ci) (fs := fs) (C := C0) (T := T) (N := M) hx hb hts hin ty0 hty hown (hts _ hw1) (hts _ hw2) (hts _ hw3) hK hP hD hS hA hc hfs hcs.1 hcs.2 hd (fun q H1 hP1 hD1 hS1 => ?_)
  have hmap : fs.map (jv_v f) = fs := by
    rw [List.map_congr_left (g := id) (fun v hv => by
      cases v <;> first | rfl | (exact absurd (List.all_eq_true.mp hno _ hv) (by simp [jv_nr]))), List.map_id]
  have hpu : jv_W n f kp E ++ [(q, .inr (ci, fs))] = jv_W (n + 1) (va_up f n q) kp (va_up E n (.inr (ci, fs))) := by
    have h := jv_push (f := f) (kp := kp) (q := q) hn6 hE hcok
    rw [← h]
    show _ = jv_W n f kp E ++ [(q, .inr (ci, fs.map (jv_v f)))]
    rw [hmap]
  rw [hpu] at hP1 hD1
  have hag : ∀ i, (i < n ∨ 1000000 ≤ i) → va_up f n q i = f i := fun i hi => va_up_ne _ _ (by omega)
  have key := kk (va_up f n q) H1 locs ls hP1 hD1 hS1 (fun i hi => by
    by_cases h : i = n
    · subst h; rw [va_up_self]; exact jv_oke_up (Nat.le_succ _) hcok
    · rw [va_up_ne _ _ h]; exact jv_oke_up (Nat.le_succ _) (hE i (by omega))) (fun q hq => jv_ok_up (Nat.le_succ _) (hL q hq)) (jv_s0 (fun v hv => jv_ok_up (Nat.le_succ _) (hs v hv)) (jv_ok_r (Nat.lt_succ_self _))) (Nat.le_succ_of_le hn) (fun i hi => (hag i (hi.imp (fun h => Nat.lt_of_lt_of_le h hn) id)).trans (hf i hi)) (by rw [jv_lv_congr hag hL]; exact hl)
  have he : (Value.ref n :: st).map (jv_v (va_up f n q)) = .ref q :: st.map (jv_v f) := by
    rw [List.map_cons, jv_vs_congr hag hs]
    show Value.ref (va_up f n q n) :: _ = _
    rw [va_up_self]
  rw [he] at key
  exact key
end JVF
section JVA
variable {k z : Nat} {g : Nat → Int32} {gl : Nat → Int64} {gq : Nat → Option Nat} {i x : Int32} {xl : Int64}

theorem jv_iald (C : jv_C D cl kp G cc own Ts rm N) (hk : k < 1000000) (he : E k = .inl (0, z, .inl g)) (hin : vp_in i z) (hd : decode cc pc = .ok (.iaload, 1)) (kk : jv_V l D cl kp G cs ss n E (pc + 1) lv (.int (g i.toNatClampNeg) :: st)) : jv_V l D cl kp G cs ss n E pc lv (.int i :: .ref k :: st) := by
  obtain ⟨p, e, R, s, m, args, below, meth, c, A, nL, n0, f0, Q⟩ := G
  intro f H locs ls hP hD hS hE hL hs hn hf hl
  obtain ⟨hx, hb, hml, hown, hts, hK, hA, hlk, hRm, hNw⟩ := C
  have hkn : k < n := jv_lt (jv_sh (jv_sd hs)) hk
  have hg1 : (jv_W n f kp E)[k]? = some (f k, .inl (kp 0, z, .inl g)) := by rw [jv_get hkn, he]; rfl
  refine va_iald hx hb hK hP k 0 hg1 rfl hin hd ?_
  exact kk f H locs ls hP hD hS hE hL (jv_s1 (jv_sd hs) jv_ok_i) hn hf hl

theorem jv_bald (C : jv_C D cl kp G cc own Ts rm N) (hk : k < 1000000) (he : E k = .inl (1, z, .inl g)) (hin : vp_in i z) (hd : decode cc pc = .ok (.baload, 1)) (kk : jv_V l D cl kp G cs ss n E (pc + 1) lv (.int (g i.toNatClampNeg) :: st)) : jv_V l D cl kp G cs ss n E pc lv (.int i :: .ref k :: st) := by
  obtain ⟨p, e, R, s, m, args, below, meth, c, A, nL, n0, f0, Q⟩ := G
  intro f H locs ls hP hD hS hE hL hs hn hf hl
  obtain ⟨hx, hb, hml, hown, hts, hK, hA, hlk, hRm, hNw⟩ := C
  have hkn : k < n := jv_lt (jv_sh (jv_sd hs)) hk
  have hg1 : (jv_W n f kp E)[k]? = some (f k, .inl (kp 1, z, .inl g)) := by rw [jv_get hkn, he]; rfl
  refine va_bald hx hb hK hP k 1 hg1 rfl hin hd ?_
  exact kk f H locs ls hP hD hS hE hL (jv_s1 (jv_sd hs) jv_ok_i) hn hf hl

theorem jv_zald (C : jv_C D cl kp G cc own Ts rm N) (hk : k < 1000000) (he : E k = .inl (2, z, .inl g)) (hin : vp_in i z) (hd : decode cc pc = .ok (.baload, 1)) (kk : jv_V l D cl kp G cs ss n E (pc + 1) lv (.int (g i.toNatClampNeg) :: st)) : jv_V l D cl kp G cs ss n E pc lv (.int i :: .ref k :: st) := by
  obtain ⟨p, e, R, s, m, args, below, meth, c, A, nL, n0, f0, Q⟩ := G
  intro f H locs ls hP hD hS hE hL hs hn hf hl
  obtain ⟨hx, hb, hml, hown, hts, hK, hA, hlk, hRm, hNw⟩ := C
  have hkn : k < n := jv_lt (jv_sh (jv_sd hs)) hk
  have hg1 : (jv_W n f kp E)[k]? = some (f k, .inl (kp 2, z, .inl g)) := by rw [jv_get hkn, he]; rfl
  refine va_zald hx hb hK hP k 2 hg1 rfl hin hd ?_
  exact kk f H locs ls hP hD hS hE hL (jv_s1 (jv_sd hs) jv_ok_i) hn hf hl

theorem jv_lald (C : jv_C D cl kp G cc own Ts rm N) (hk : k < 1000000) (he : E k = .inl (3, z, .inr (.inl gl))) (hin : vp_in i z) (hd : decode cc pc = .ok (.laload, 1)) (kk : jv_V l D cl kp G cs ss n E (pc + 1) lv (.long (gl i.toNatClampNeg) :: st)) : jv_V l D cl kp G cs ss n E pc lv (.int i :: .ref k :: st) := by
  obtain ⟨p, e, R, s, m, args, below, meth, c, A, nL, n0, f0, Q⟩ := G
  intro f H locs ls hP hD hS hE hL hs hn hf hl
  obtain ⟨hx, hb, hml, hown, hts, hK, hA, hlk, hRm, hNw⟩ := C
  have hkn : k < n := jv_lt (jv_sh (jv_sd hs)) hk
  have hg1 : (jv_W n f kp E)[k]? = some (f k, .inl (kp 3, z, .inr (.inl gl))) := by rw [jv_get hkn, he]; rfl
  refine va_lald hx hb hK hP k 3 hg1 rfl hin hd ?_
  exact kk f H locs ls hP hD hS hE hL (jv_s1 (jv_sd hs) jv_ok_l) hn hf hl

theorem jv_aald (C : jv_C D cl kp G cc own Ts rm N) (hk : k < 1000000) (he : E k = .inl (4, z, .inr (.inr (.inr (.inr gq))))) (hin : vp_in i z) {r : Nat} (hr : gq i.toNatClampNeg = some r) (hd : decode cc pc = .ok (.aaload, 1)) (kk : jv_V l D cl kp G cs ss n E (pc + 1) lv (.ref r :: st)) : jv_V l D cl kp G cs ss n E pc lv (.int i :: .ref k :: st) := by
  obtain ⟨p, e, R, s, m, args, below, meth, c, A, nL, n0, f0, Q⟩ := G
  intro f H locs ls hP hD hS hE hL hs hn hf hl
  obtain ⟨hx, hb, hml, hown, hts, hK, hA, hlk, hRm, hNw⟩ := C
  have hkn : k < n := jv_lt (jv_sh (jv_sd hs)) hk
  have hg1 : (jv_W n f kp E)[k]? = some (f k, .inl (kp 4, z, .inr (.inr (.inr (.inr (fun j => (gq j).map f)))))) := by rw [jv_get hkn, he]; rfl
  have hEk := hE k hkn
  rw [he] at hEk
  refine va_aldq hx hb hK hP k 4 hg1 rfl hin hd ?_
  have key := kk f H locs ls hP hD hS hE hL (jv_s1 (jv_sd hs) (jv_ok_r (hEk gq rfl _ _ hr))) hn hf hl
  have e1 : va_rf ((gq i.toNatClampNeg).map f) = .ref (f r) := by rw [hr]; rfl
  show W _ _ _ _ _ _ _ _ _ _ _ _ _ _ _ (F0 _ _ _ (va_rf ((gq i.toNatClampNeg).map f) :: _))
  rw [e1]
  exact key

theorem jv_iast (C : jv_C D cl kp G cc own Ts rm N) (hk : k < 1000000) (he : E k = .inl (0, z, .inl g)) (hin : vp_in i z) (hd : decode cc pc = .ok (.iastore, 1)) (kk : jv_V l D cl kp G cs ss n (va_up E k (.inl (0, z, .inl (upd g i.toNatClampNeg x)))) (pc + 1) lv st) : jv_V l D cl kp G cs ss n E pc lv (.int x :: .int i :: .ref k :: st) := by
  obtain ⟨p, e, R, s, m, args, below, meth, c, A, nL, n0, f0, Q⟩ := G
  intro f H locs ls hP hD hS hE hL hs hn hf hl
  obtain ⟨hx, hb, hml, hown, hts, hK, hA, hlk, hRm, hNw⟩ := C
  have hkn : k < n := jv_lt (jv_sh (jv_sd (jv_sd hs))) hk
  have hg1 : (jv_W n f kp E)[k]? = some (f k, .inl (kp 0, z, .inl g)) := by rw [jv_get hkn, he]; rfl
  refine va_iast hx hb hK hP hD hS k 0 hg1 rfl hin hd (fun H1 locs1 hP1 hD1 hS1 => ?_)
  have hset : (jv_W n f kp E).set k (f k, .inl (kp 0, z, .inl (upd g i.toNatClampNeg x))) = jv_W n f kp (va_up E k (.inl (0, z, .inl (upd g i.toNatClampNeg x)))) := jv_set hkn (.inl (0, z, .inl (upd g i.toNatClampNeg x)))
  rw [hset] at hP1 hD1
  exact kk f H1 locs1 ls hP1 hD1 hS1 (jv_okset hE (fun g h => by cases h)) hL (jv_sd (jv_sd (jv_sd hs))) hn hf hl

theorem jv_bast (C : jv_C D cl kp G cc own Ts rm N) (hk : k < 1000000) (he : E k = .inl (1, z, .inl g)) (hin : vp_in i z) (hd : decode cc pc = .ok (.bastore, 1)) (kk : jv_V l D cl kp G cs ss n (va_up E k (.inl (1, z, .inl (upd g i.toNatClampNeg (vp_nar .byte x))))) (pc + 1) lv st) : jv_V l D cl kp G cs ss n E pc lv (.int x :: .int i :: .ref k :: st) := by
  obtain ⟨p, e, R, s, m, args, below, meth, c, A, nL, n0, f0, Q⟩ := G
  intro f H locs ls hP hD hS hE hL hs hn hf hl
  obtain ⟨hx, hb, hml, hown, hts, hK, hA, hlk, hRm, hNw⟩ := C
  have hkn : k < n := jv_lt (jv_sh (jv_sd (jv_sd hs))) hk
  have hg1 : (jv_W n f kp E)[k]? = some (f k, .inl (kp 1, z, .inl g)) := by rw [jv_get hkn, he]; rfl
  refine va_bast hx hb hK hP hD hS k 1 hg1 rfl hin hd (fun H1 locs1 hP1 hD1 hS1 => ?_)
  have hset : (jv_W n f kp E).set k (f k, .inl (kp 1, z, .inl (upd g i.toNatClampNeg (vp_nar .byte x)))) = jv_W n f kp (va_up E k (.inl (1, z, .inl (upd g i.toNatClampNeg (vp_nar .byte x))))) := jv_set hkn (.inl (1, z, .inl (upd g i.toNatClampNeg (vp_nar .byte x))))
  rw [hset] at hP1 hD1
  exact kk f H1 locs1 ls hP1 hD1 hS1 (jv_okset hE (fun g h => by cases h)) hL (jv_sd (jv_sd (jv_sd hs))) hn hf hl

theorem jv_zast (C : jv_C D cl kp G cc own Ts rm N) (hk : k < 1000000) (he : E k = .inl (2, z, .inl g)) (hin : vp_in i z) (hd : decode cc pc = .ok (.bastore, 1)) (kk : jv_V l D cl kp G cs ss n (va_up E k (.inl (2, z, .inl (upd g i.toNatClampNeg (vp_nar .boolean x))))) (pc + 1) lv st) : jv_V l D cl kp G cs ss n E pc lv (.int x :: .int i :: .ref k :: st) := by
  obtain ⟨p, e, R, s, m, args, below, meth, c, A, nL, n0, f0, Q⟩ := G
  intro f H locs ls hP hD hS hE hL hs hn hf hl
  obtain ⟨hx, hb, hml, hown, hts, hK, hA, hlk, hRm, hNw⟩ := C
  have hkn : k < n := jv_lt (jv_sh (jv_sd (jv_sd hs))) hk
  have hg1 : (jv_W n f kp E)[k]? = some (f k, .inl (kp 2, z, .inl g)) := by rw [jv_get hkn, he]; rfl
  refine va_zast hx hb hK hP hD hS k 2 hg1 rfl hin hd (fun H1 locs1 hP1 hD1 hS1 => ?_)
  have hset : (jv_W n f kp E).set k (f k, .inl (kp 2, z, .inl (upd g i.toNatClampNeg (vp_nar .boolean x)))) = jv_W n f kp (va_up E k (.inl (2, z, .inl (upd g i.toNatClampNeg (vp_nar .boolean x))))) := jv_set hkn (.inl (2, z, .inl (upd g i.toNatClampNeg (vp_nar .boolean x))))
  rw [hset] at hP1 hD1
  exact kk f H1 locs1 ls hP1 hD1 hS1 (jv_okset hE (fun g h => by cases h)) hL (jv_sd (jv_sd (jv_sd hs))) hn hf hl

theorem jv_last (C : jv_C D cl kp G cc own Ts rm N) (hk : k < 1000000) (he : E k = .inl (3, z, .inr (.inl gl))) (hin : vp_in i z) (hd : decode cc pc = .ok (.lastore, 1)) (kk : jv_V l D cl kp G cs ss n (va_up E k (.inl (3, z, .inr (.inl (vp_updL gl i.toNatClampNeg xl))))) (pc + 1) lv st) : jv_V l D cl kp G cs ss n E pc lv (.long xl :: .int i :: .ref k :: st) := by
  obtain ⟨p, e, R, s, m, args, below, meth, c, A, nL, n0, f0, Q⟩ := G
  intro f H locs ls hP hD hS hE hL hs hn hf hl
  obtain ⟨hx, hb, hml, hown, hts, hK, hA, hlk, hRm, hNw⟩ := C
  have hkn : k < n := jv_lt (jv_sh (jv_sd (jv_sd hs))) hk
  have hg1 : (jv_W n f kp E)[k]? = some (f k, .inl (kp 3, z, .inr (.inl gl))) := by rw [jv_get hkn, he]; rfl
  refine va_last hx hb hK hP hD hS k 3 hg1 rfl hin hd (fun H1 locs1 hP1 hD1 hS1 => ?_)
  have hset : (jv_W n f kp E).set k (f k, .inl (kp 3, z, .inr (.inl (vp_updL gl i.toNatClampNeg xl)))) = jv_W n f kp (va_up E k (.inl (3, z, .inr (.inl (vp_updL gl i.toNatClampNeg xl))))) := jv_set hkn (.inl (3, z, .inr (.inl (vp_updL gl i.toNatClampNeg xl))))
  rw [hset] at hP1 hD1
  exact kk f H1 locs1 ls hP1 hD1 hS1 (jv_okset hE (fun g h => by cases h)) hL (jv_sd (jv_sd (jv_sd hs))) hn hf hl

theorem jv_alen (C : jv_C D cl kp G cc own Ts rm N) (hk : k < 1000000) {t : Nat} {a : (Nat → Int32) ⊕ (Nat → Int64) ⊕ (Nat → UInt32) ⊕ (Nat → UInt64) ⊕ (Nat → Option Nat)} (he : E k = .inl (t, z, a)) (ty : FieldType) (ht : ∀ kq : Nat → ClassId, (jv_T kq)[t]? = some (kq t, ty)) {v : Int32} (hv : Int32.ofNat z = v) (hd : decode cc pc = .ok (.arraylength, 1)) (kk : jv_V l D cl kp G cs ss n E (pc + 1) lv (.int v :: st)) : jv_V l D cl kp G cs ss n E pc lv (.ref k :: st) := by
  obtain ⟨p, e, R, s, m, args, below, meth, c, A, nL, n0, f0, Q⟩ := G
  intro f H locs ls hP hD hS hE hL hs hn hf hl
  obtain ⟨hx, hb, hml, hown, hts, hK, hA, hlk, hRm, hNw⟩ := C
  have hkn : k < n := jv_lt (jv_sh hs) hk
  have hg1 : (jv_W n f kp E)[k]? = some (f k, .inl (kp t, jv_a f (z, a))) := by rw [jv_get hkn, he]; rfl
  refine va_alen hx hb hK hP k t hg1 (ht kp) hv hd ?_
  exact kk f H locs ls hP hD hS hE hL (jv_s1 hs jv_ok_i) hn hf hl

theorem jv_newI (C : jv_C D cl kp G cc own Ts rm N) (hn6 : n < 1000000) (hw : Cond.arrayClass .int ∈ Ts) {x : Int32} {z : Nat} (hx0 : ¬ x < 0) (hz : x.toNatClampNeg = z) (hby : z * componentBytes .int ≤ 536870912) (hcs : cs + 1 ≤ rm.cells ∧ ss + z ≤ rm.slots) (hd : decode cc pc = .ok (.newarray .int, 2)) (kk : jv_V l D cl kp G (cs + 1) (ss + z) (n + 1) (va_up E n (.inl (0, z, .inl (fun _ => 0)))) (pc + 2) lv (.ref n :: st)) : jv_V l D cl kp G cs ss n E pc lv (.int x :: st) := by
  obtain ⟨p, e, R, s, m, args, below, meth, c, A, nL, n0, f0, Q⟩ := G
  intro f H locs ls hP hD hS hE hL hs hn hf hl
  obtain ⟨hx, hb, hml, hown, hts, hK, hA, hlk, hRm, hNw⟩ := C
  subst hRm
  have hcok : jv_oke n (.inl (0, z, .inl (fun _ => 0))) := fun g h => by cases h
  refine va_newa (atype := .int) (ty := .int) (a0 := (z, .inl (fun _ => 0))) hx hb (hts _ hw) rfl hK hP hD hS hA (fun _ => rfl) hx0 hz hby hcs.1 hcs.2 hd (fun q cA H1 hK1 hP1 hD1 hS1 => ?_)
  have hcA : cA = kp 0 := by
    have h1 := (hK1.2 5 (cA, .int) rfl).2
    have h2 := (hK.2 0 (kp 0, .int) rfl).2
    exact Option.some.inj (h1.symm.trans h2)
  subst hcA
  have hpu : jv_W n f kp E ++ [(q, .inl (kp 0, z, .inl (fun _ => 0)))] = jv_W (n + 1) (va_up f n q) kp (va_up E n (.inl (0, z, .inl (fun _ => 0)))) := jv_push (f := f) (kp := kp) (q := q) hn6 hE hcok
  rw [hpu] at hP1 hD1
  have hag : ∀ i, (i < n ∨ 1000000 ≤ i) → va_up f n q i = f i := fun i hi => va_up_ne _ _ (by omega)
  have key := kk (va_up f n q) H1 locs ls hP1 hD1 hS1 (fun i hi => by
    by_cases h : i = n
    · subst h; rw [va_up_self]; exact jv_oke_up (Nat.le_succ _) hcok
    · rw [va_up_ne _ _ h]; exact jv_oke_up (Nat.le_succ _) (hE i (by omega))) (fun q hq => jv_ok_up (Nat.le_succ _) (hL q hq)) (jv_s0 (fun v hv => jv_ok_up (Nat.le_succ _) (jv_sd hs v hv)) (jv_ok_r (Nat.lt_succ_self _))) (Nat.le_succ_of_le hn) (fun i hi => (hag i (hi.imp (fun h => Nat.lt_of_lt_of_le h hn) id)).trans (hf i hi)) (by rw [jv_lv_congr hag hL]; exact hl)
  have he : (Value.ref n :: st).map (jv_v (va_up f n q)) = .ref q :: st.map (jv_v f) := by
    rw [List.map_cons, jv_vs_congr hag (jv_sd hs)]
    show Value.ref (va_up f n q n) :: _ = _
    rw [va_up_self]
  rw [he] at key
  exact key

theorem jv_newB (C : jv_C D cl kp G cc own Ts rm N) (hn6 : n < 1000000) (hw : Cond.arrayClass .byte ∈ Ts) {x : Int32} {z : Nat} (hx0 : ¬ x < 0) (hz : x.toNatClampNeg = z) (hby : z * componentBytes .byte ≤ 536870912) (hcs : cs + 1 ≤ rm.cells ∧ ss + z ≤ rm.slots) (hd : decode cc pc = .ok (.newarray .byte, 2)) (kk : jv_V l D cl kp G (cs + 1) (ss + z) (n + 1) (va_up E n (.inl (1, z, .inl (fun _ => 0)))) (pc + 2) lv (.ref n :: st)) : jv_V l D cl kp G cs ss n E pc lv (.int x :: st) := by
  obtain ⟨p, e, R, s, m, args, below, meth, c, A, nL, n0, f0, Q⟩ := G
  intro f H locs ls hP hD hS hE hL hs hn hf hl
  obtain ⟨hx, hb, hml, hown, hts, hK, hA, hlk, hRm, hNw⟩ := C
  subst hRm
  have hcok : jv_oke n (.inl (1, z, .inl (fun _ => 0))) := fun g h => by cases h
  refine va_newa (atype := .byte) (ty := .byte) (a0 := (z, .inl (fun _ => 0))) hx hb (hts _ hw) rfl hK hP hD hS hA (fun _ => rfl) hx0 hz hby hcs.1 hcs.2 hd (fun q cA H1 hK1 hP1 hD1 hS1 => ?_)
  have hcA : cA = kp 1 := by
    have h1 := (hK1.2 5 (cA, .byte) rfl).2
    have h2 := (hK.2 1 (kp 1, .byte) rfl).2
    exact Option.some.inj (h1.symm.trans h2)
  subst hcA
  have hpu : jv_W n f kp E ++ [(q, .inl (kp 1, z, .inl (fun _ => 0)))] = jv_W (n + 1) (va_up f n q) kp (va_up E n (.inl (1, z, .inl (fun _ => 0)))) := jv_push (f := f) (kp := kp) (q := q) hn6 hE hcok
  rw [hpu] at hP1 hD1
  have hag : ∀ i, (i < n ∨ 1000000 ≤ i) → va_up f n q i = f i := fun i hi => va_up_ne _ _ (by omega)
  have key := kk (va_up f n q) H1 locs ls hP1 hD1 hS1 (fun i hi => by
    by_cases h : i = n
    · subst h; rw [va_up_self]; exact jv_oke_up (Nat.le_succ _) hcok
    · rw [va_up_ne _ _ h]; exact jv_oke_up (Nat.le_succ _) (hE i (by omega))) (fun q hq => jv_ok_up (Nat.le_succ _) (hL q hq)) (jv_s0 (fun v hv => jv_ok_up (Nat.le_succ _) (jv_sd hs v hv)) (jv_ok_r (Nat.lt_succ_self _))) (Nat.le_succ_of_le hn) (fun i hi => (hag i (hi.imp (fun h => Nat.lt_of_lt_of_le h hn) id)).trans (hf i hi)) (by rw [jv_lv_congr hag hL]; exact hl)
  have he : (Value.ref n :: st).map (jv_v (va_up f n q)) = .ref q :: st.map (jv_v f) := by
    rw [List.map_cons, jv_vs_congr hag (jv_sd hs)]
    show Value.ref (va_up f n q n) :: _ = _
    rw [va_up_self]
  rw [he] at key
  exact key

theorem jv_newZ (C : jv_C D cl kp G cc own Ts rm N) (hn6 : n < 1000000) (hw : Cond.arrayClass .boolean ∈ Ts) {x : Int32} {z : Nat} (hx0 : ¬ x < 0) (hz : x.toNatClampNeg = z) (hby : z * componentBytes .boolean ≤ 536870912) (hcs : cs + 1 ≤ rm.cells ∧ ss + z ≤ rm.slots) (hd : decode cc pc = .ok (.newarray .boolean, 2)) (kk : jv_V l D cl kp G (cs + 1) (ss + z) (n + 1) (va_up E n (.inl (2, z, .inl (fun _ => 0)))) (pc + 2) lv (.ref n :: st)) : jv_V l D cl kp G cs ss n E pc lv (.int x :: st) := by
  obtain ⟨p, e, R, s, m, args, below, meth, c, A, nL, n0, f0, Q⟩ := G
  intro f H locs ls hP hD hS hE hL hs hn hf hl
  obtain ⟨hx, hb, hml, hown, hts, hK, hA, hlk, hRm, hNw⟩ := C
  subst hRm
  have hcok : jv_oke n (.inl (2, z, .inl (fun _ => 0))) := fun g h => by cases h
  refine va_newa (atype := .boolean) (ty := .boolean) (a0 := (z, .inl (fun _ => 0))) hx hb (hts _ hw) rfl hK hP hD hS hA (fun _ => rfl) hx0 hz hby hcs.1 hcs.2 hd (fun q cA H1 hK1 hP1 hD1 hS1 => ?_)
  have hcA : cA = kp 2 := by
    have h1 := (hK1.2 5 (cA, .boolean) rfl).2
    have h2 := (hK.2 2 (kp 2, .boolean) rfl).2
    exact Option.some.inj (h1.symm.trans h2)
  subst hcA
  have hpu : jv_W n f kp E ++ [(q, .inl (kp 2, z, .inl (fun _ => 0)))] = jv_W (n + 1) (va_up f n q) kp (va_up E n (.inl (2, z, .inl (fun _ => 0)))) := jv_push (f := f) (kp := kp) (q := q) hn6 hE hcok
  rw [hpu] at hP1 hD1
  have hag : ∀ i, (i < n ∨ 1000000 ≤ i) → va_up f n q i = f i := fun i hi => va_up_ne _ _ (by omega)
  have key := kk (va_up f n q) H1 locs ls hP1 hD1 hS1 (fun i hi => by
    by_cases h : i = n
    · subst h; rw [va_up_self]; exact jv_oke_up (Nat.le_succ _) hcok
    · rw [va_up_ne _ _ h]; exact jv_oke_up (Nat.le_succ _) (hE i (by omega))) (fun q hq => jv_ok_up (Nat.le_succ _) (hL q hq)) (jv_s0 (fun v hv => jv_ok_up (Nat.le_succ _) (jv_sd hs v hv)) (jv_ok_r (Nat.lt_succ_self _))) (Nat.le_succ_of_le hn) (fun i hi => (hag i (hi.imp (fun h => Nat.lt_of_lt_of_le h hn) id)).trans (hf i hi)) (by rw [jv_lv_congr hag hL]; exact hl)
  have he : (Value.ref n :: st).map (jv_v (va_up f n q)) = .ref q :: st.map (jv_v f) := by
    rw [List.map_cons, jv_vs_congr hag (jv_sd hs)]
    show Value.ref (va_up f n q n) :: _ = _
    rw [va_up_self]
  rw [he] at key
  exact key

theorem jv_newJ (C : jv_C D cl kp G cc own Ts rm N) (hn6 : n < 1000000) (hw : Cond.arrayClass .long ∈ Ts) {x : Int32} {z : Nat} (hx0 : ¬ x < 0) (hz : x.toNatClampNeg = z) (hby : z * componentBytes .long ≤ 536870912) (hcs : cs + 1 ≤ rm.cells ∧ ss + z ≤ rm.slots) (hd : decode cc pc = .ok (.newarray .long, 2)) (kk : jv_V l D cl kp G (cs + 1) (ss + z) (n + 1) (va_up E n (.inl (3, z, .inr (.inl (fun _ => 0))))) (pc + 2) lv (.ref n :: st)) : jv_V l D cl kp G cs ss n E pc lv (.int x :: st) := by
  obtain ⟨p, e, R, s, m, args, below, meth, c, A, nL, n0, f0, Q⟩ := G
  intro f H locs ls hP hD hS hE hL hs hn hf hl
  obtain ⟨hx, hb, hml, hown, hts, hK, hA, hlk, hRm, hNw⟩ := C
  subst hRm
  have hcok : jv_oke n (.inl (3, z, .inr (.inl (fun _ => 0)))) := fun g h => by cases h
  refine va_newa (atype := .long) (ty := .long) (a0 := (z, .inr (.inl (fun _ => 0)))) hx hb (hts _ hw) rfl hK hP hD hS hA (fun _ => rfl) hx0 hz hby hcs.1 hcs.2 hd (fun q cA H1 hK1 hP1 hD1 hS1 => ?_)
  have hcA : cA = kp 3 := by
    have h1 := (hK1.2 5 (cA, .long) rfl).2
    have h2 := (hK.2 3 (kp 3, .long) rfl).2
    exact Option.some.inj (h1.symm.trans h2)
  subst hcA
  have hpu : jv_W n f kp E ++ [(q, .inl (kp 3, z, .inr (.inl (fun _ => 0))))] = jv_W (n + 1) (va_up f n q) kp (va_up E n (.inl (3, z, .inr (.inl (fun _ => 0))))) := jv_push (f := f) (kp := kp) (q := q) hn6 hE hcok
  rw [hpu] at hP1 hD1
  have hag : ∀ i, (i < n ∨ 1000000 ≤ i) → va_up f n q i = f i := fun i hi => va_up_ne _ _ (by omega)
  have key := kk (va_up f n q) H1 locs ls hP1 hD1 hS1 (fun i hi => by
    by_cases h : i = n
    · subst h; rw [va_up_self]; exact jv_oke_up (Nat.le_succ _) hcok
    · rw [va_up_ne _ _ h]; exact jv_oke_up (Nat.le_succ _) (hE i (by omega))) (fun q hq => jv_ok_up (Nat.le_succ _) (hL q hq)) (jv_s0 (fun v hv => jv_ok_up (Nat.le_succ _) (jv_sd hs v hv)) (jv_ok_r (Nat.lt_succ_self _))) (Nat.le_succ_of_le hn) (fun i hi => (hag i (hi.imp (fun h => Nat.lt_of_lt_of_le h hn) id)).trans (hf i hi)) (by rw [jv_lv_congr hag hL]; exact hl)
  have he : (Value.ref n :: st).map (jv_v (va_up f n q)) = .ref q :: st.map (jv_v f) := by
    rw [List.map_cons, jv_vs_congr hag (jv_sd hs)]
    show Value.ref (va_up f n q n) :: _ = _
    rw [va_up_self]
  rw [he] at key
  exact key

theorem jv_copyI (C : jv_C D cl kp G cc own Ts rm N) {k0 k1 z0 z1 index : Nat} {g0 g1 : Nat → Int32} {sp dp cn : Int32} (hk0 : k0 < 1000000) (hk1 : k1 < 1000000) (he0 : E k0 = .inl (0, z0, .inl g0)) (he1 : E k1 = .inl (0, z1, .inl g1)) (hw1 : Cond.methodLink own index arraycopyName ∈ Ts) (hw2 : Cond.native arraycopyName ∈ Ts) (hw3 : Cond.static arraycopyName ∈ Ts) (hw4 : Cond.initialized "java/lang/System" ∈ Ts) (h1 : ¬ sp < 0) (h2 : ¬ dp < 0) (h3 : ¬ cn < 0) (h4 : sp.toNatClampNeg + cn.toNatClampNeg ≤ z0) (h5 : dp.toNatClampNeg + cn.toNatClampNeg ≤ z1) (hfr : 1 ≤ rm.frames) (hlo : (st.map fun v => v.category).sum + (nativeFrameWords "java/lang/System" "arraycopy" 5 + 11) ≤ rm.locals) (hd : decode cc pc = .ok (.invokestatic index, 3)) (kk : jv_V l D cl kp G cs ss n (va_up E k1 (.inl (0, z1, .inl (va_cpy g0 g1 sp.toNatClampNeg dp.toNatClampNeg cn.toNatClampNeg)))) (pc + 3) lv st) : jv_V l D cl kp G cs ss n E pc lv (.int cn :: .int dp :: .ref k1 :: .int sp :: .ref k0 :: st) := by
  obtain ⟨p, e, R, s, m, args, below, meth, c, A, nL, n0, f0, Q⟩ := G
  intro f H locs ls hP hD hS hE hL hs hn hf hl
  obtain ⟨hx, hb, hml, hown, hts, hK, hA, hlk, hRm, hNw⟩ := C
  subst hRm
  have hs1 := jv_sd (jv_sd hs)
  have hs3 := jv_sd (jv_sd hs1)
  have hkn0 : k0 < n := jv_lt (jv_sh hs3) hk0
  have hkn1 : k1 < n := jv_lt (jv_sh hs1) hk1
  have hg0 : (jv_W n f kp E)[k0]? = some (f k0, .inl (kp 0, z0, .inl g0)) := by rw [jv_get hkn0, he0]; rfl
  have hg1 : (jv_W n f kp E)[k1]? = some (f k1, .inl (kp 0, z1, .inl g1)) := by rw [jv_get hkn1, he1]; rfl
  refine va_copyi (ty := .int) hx hb (hml.trans hl.1.symm) hown (hts _ hw1) (hts _ hw2) (hts _ hw3) (hts _ hw4) hK hP hD hS k0 k1 0 0 hg0 hg1 rfl rfl rfl h1 h2 h3 h4 h5 (fun _ _ => rfl) hfr (by rw [List.map_map, show ((fun v : Value => v.category) ∘ jv_v f) = (fun v : Value => v.category) from funext (jv_v_cat f)]; exact hlo) hd (fun H1 locs1 hP1 hD1 hS1 => ?_)
  have hset := jv_set (f := f) (kp := kp) (E := E) hkn1 (.inl (0, z1, .inl (va_cpy g0 g1 sp.toNatClampNeg dp.toNatClampNeg cn.toNatClampNeg)))
  have hset2 : (jv_W n f kp E).set k1 (f k1, .inl (kp 0, z1, .inl (va_cpy g0 g1 sp.toNatClampNeg dp.toNatClampNeg cn.toNatClampNeg))) = _ := hset
  rw [hset2] at hP1 hD1
  exact kk f H1 locs1 ls hP1 hD1 hS1 (jv_okset hE (fun g h => by cases h)) hL (jv_sd hs3) hn hf hl

theorem jv_newQ (C : jv_C D cl kp G cc own Ts rm N) {index : Nat} (hn6 : n < 1000000) (hw : Cond.classLink own index "JuggledPost$City" ∈ Ts) {x : Int32} {z : Nat} (hx0 : ¬ x < 0) (hz : x.toNatClampNeg = z) (hby : z * 4 ≤ 536870912) (hcs : cs + 1 ≤ rm.cells ∧ ss + z ≤ rm.slots) (hd : decode cc pc = .ok (.anewarray index, 3)) (kk : jv_V l D cl kp G (cs + 1) (ss + z) (n + 1) (va_up E n (.inl (4, z, .inr (.inr (.inr (.inr (fun _ => none))))))) (pc + 3) lv (.ref n :: st)) : jv_V l D cl kp G cs ss n E pc lv (.int x :: st) := by
  obtain ⟨p, e, R, s, m, args, below, meth, c, A, nL, n0, f0, Q⟩ := G
  intro f H locs ls hP hD hS hE hL hs hn hf hl
  obtain ⟨hx, hb, hml, hown, hts, hK, hA, hlk, hRm, hNw⟩ := C
  subst hRm
  have hcok : jv_oke n (.inl (4, z, .inr (.inr (.inr (.inr (fun _ => none)))))) := fun g h j k e => by cases h; cases e
  refine va_newq hx hb hown (hts _ hw) hNw.2.1 hK hP hD hS hA hx0 hz hby hcs.1 hcs.2 hd (fun q cA H1 hK1 hP1 hD1 hS1 => ?_)
  have hcA : cA = kp 4 := by
    obtain ⟨_, _, _, _, _, h1⟩ := (hK1.2 5 (cA, .object "JuggledPost$City") rfl).2
    obtain ⟨_, _, _, _, _, h2⟩ := (hK.2 4 (kp 4, .object "JuggledPost$City") rfl).2
    exact Option.some.inj (h1.symm.trans h2)
  subst hcA
  have hpu : jv_W n f kp E ++ [(q, .inl (kp 4, z, .inr (.inr (.inr (.inr (fun _ => none))))))] = jv_W (n + 1) (va_up f n q) kp (va_up E n (.inl (4, z, .inr (.inr (.inr (.inr (fun _ => none))))))) := jv_push (f := f) (kp := kp) (q := q) hn6 hE hcok
  rw [hpu] at hP1 hD1
  have hag : ∀ i, (i < n ∨ 1000000 ≤ i) → va_up f n q i = f i := fun i hi => va_up_ne _ _ (by omega)
  have key := kk (va_up f n q) H1 locs ls hP1 hD1 hS1 (fun i hi => by
    by_cases h : i = n
    · subst h; rw [va_up_self]; exact jv_oke_up (Nat.le_succ _) hcok
    · rw [va_up_ne _ _ h]; exact jv_oke_up (Nat.le_succ _) (hE i (by omega))) (fun q hq => jv_ok_up (Nat.le_succ _) (hL q hq)) (jv_s0 (fun v hv => jv_ok_up (Nat.le_succ _) (jv_sd hs v hv)) (jv_ok_r (Nat.lt_succ_self _))) (Nat.le_succ_of_le hn) (fun i hi => (hag i (hi.imp (fun h => Nat.lt_of_lt_of_le h hn) id)).trans (hf i hi)) (by rw [jv_lv_congr hag hL]; exact hl)
  have he : (Value.ref n :: st).map (jv_v (va_up f n q)) = .ref q :: st.map (jv_v f) := by
    rw [List.map_cons, jv_vs_congr hag (jv_sd hs)]
    show Value.ref (va_up f n q n) :: _ = _
    rw [va_up_self]
  rw [he] at key
  exact key

theorem jv_aast (C : jv_C D cl kp G cc own Ts rm N) (hk : k < 1000000) {r ci M : Nat} {T : u_T} {vs : List Value} (hr6 : r < 1000000) (he : E k = .inl (4, z, .inr (.inr (.inr (.inr gq))))) (her : E r = .inr (ci, vs)) (hc : cl[ci]? = some ("JuggledPost$City", T, M)) (hin : vp_in i z) (hd : decode cc pc = .ok (.aastore, 1)) (kk : jv_V l D cl kp G cs ss n (va_up E k (.inl (4, z, .inr (.inr (.inr (.inr (va_up gq i.toNatClampNeg (some r)))))))) (pc + 1) lv st) : jv_V l D cl kp G cs ss n E pc lv (.ref r :: .int i :: .ref k :: st) := by
  obtain ⟨p, e, R, s, m, args, below, meth, c, A, nL, n0, f0, Q⟩ := G
  intro f H locs ls hP hD hS hE hL hs hn hf hl
  obtain ⟨hx, hb, hml, hown, hts, hK, hA, hlk, hRm, hNw⟩ := C
  have hkn : k < n := jv_lt (jv_sh (jv_sd (jv_sd hs))) hk
  have hrn : r < n := jv_lt (jv_sh hs) hr6
  have hg1 : (jv_W n f kp E)[k]? = some (f k, .inl (kp 4, z, .inr (.inr (.inr (.inr (fun j => (gq j).map f)))))) := by rw [jv_get hkn, he]; rfl
  have hg2 : (jv_W n f kp E)[r]? = some (f r, .inr (ci, vs.map (jv_v f))) := by rw [jv_get hrn, her]; rfl
  have hEk := hE k hkn
  rw [he] at hEk
  refine va_astq (r := ("JuggledPost$City", T, M)) hx hb hK hP hD hS k 4 r ci hg1 rfl hg2 hc hin hd (fun H1 locs1 hP1 hD1 hS1 => ?_)
  have hfn : va_up (fun j => (gq j).map f) i.toNatClampNeg (some (f r)) = (fun j => (va_up gq i.toNatClampNeg (some r) j).map f) := by
    funext j
    by_cases hj : j = i.toNatClampNeg
    · rw [hj, va_up_self, va_up_self]; rfl
    · rw [va_up_ne _ _ hj, va_up_ne _ _ hj]
  rw [hfn] at hP1 hD1
  have hset : (jv_W n f kp E).set k (f k, .inl (kp 4, z, .inr (.inr (.inr (.inr (fun j => (va_up gq i.toNatClampNeg (some r) j).map f)))))) = jv_W n f kp (va_up E k (.inl (4, z, .inr (.inr (.inr (.inr (va_up gq i.toNatClampNeg (some r)))))))) := jv_set hkn (.inl (4, z, .inr (.inr (.inr (.inr (va_up gq i.toNatClampNeg (some r)))))))
  rw [hset] at hP1 hD1
  exact kk f H1 locs1 ls hP1 hD1 hS1 (jv_okset hE (fun g h j k e => by
    cases h
    by_cases hj : j = i.toNatClampNeg
    · rw [hj, va_up_self] at e; cases e; exact hrn
    · rw [va_up_ne _ _ hj] at e; exact hEk gq rfl j k e)) hL (jv_sd (jv_sd (jv_sd hs))) hn hf hl

theorem jv_obj (C : jv_C D cl kp G cc own Ts rm N) {index : Nat} (hw1 : Cond.methodLink own index objectInit ∈ Ts) (hw2 : Cond.instanceMethod objectInit ∈ Ts) (hw3 : Cond.code objectInit ⟨#[0xb1]⟩ 1 none ∈ Ts) (hfr : 1 ≤ rm.frames) (hlo : (st.map fun v => v.category).sum + 12 ≤ rm.locals) (hd : decode cc pc = .ok (.invokespecial index, 3)) (kk : jv_V l D cl kp G cs ss n E (pc + 3) lv st) : jv_V l D cl kp G cs ss n E pc lv (.ref k :: st) := by
  obtain ⟨p, e, R, s, m, args, below, meth, c, A, nL, n0, f0, Q⟩ := G
  intro f H locs ls hP hD hS hE hL hs hn hf hl
  obtain ⟨hx, hb, hml, hown, hts, hK, hA, hlk, hRm, hNw⟩ := C
  subst hRm
  refine W.objInit hx hb hown (hts _ hw1) (hts _ hw2) (hts _ hw3) rfl (hl.1.trans hml.symm) rfl hd hfr (by show 2 * 0 + _ + 12 ≤ _; rw [Nat.mul_zero, Nat.zero_add, List.map_map, show ((fun v : Value => v.category) ∘ jv_v f) = (fun v : Value => v.category) from funext (jv_v_cat f)]; exact hlo) ?_
  exact kk f H locs ls hP hD hS hE hL (jv_sd hs) hn hf hl

theorem jv_min (C : jv_C D cl kp G cc own Ts rm N) {index : Nat} {x y : Int32} (hw1 : Cond.methodLink own index Lib.Math.min.name ∈ Ts) (hw2 : Cond.static Lib.Math.min.name ∈ Ts) (hw3 : Cond.initialized "java/lang/Math" ∈ Ts) (hw4 : Cond.code Lib.Math.min.name Lib.Math.min.code 2 (some .int) ∈ Ts) (hfr : 1 ≤ rm.frames) (hlo : (st.map fun v => v.category).sum + 13 ≤ rm.locals) (hcs : cs ≤ rm.cells ∧ ss ≤ rm.slots) (hd : decode cc pc = .ok (.invokestatic index, 3)) (kk : jv_V l D cl kp G cs ss n E (pc + 3) lv (.int (if y < x then y else x) :: st)) : jv_V l D cl kp G cs ss n E pc lv (.int y :: .int x :: st) := by
  obtain ⟨p, e, R, s, m, args, below, meth, c, A, nL, n0, f0, Q⟩ := G
  intro f H locs ls hP hD hS hE hL hs hn hf hl
  obtain ⟨hx, hb, hml, hown, hts, hK, hA, hlk, hRm, hNw⟩ := C
  subst hRm
  refine va_mmin hx hb (hml.trans hl.1.symm) hown (hts _ hw1) (hts _ hw2) (hts _ hw3) (hts _ hw4) hfr (by rw [List.map_map, show ((fun v : Value => v.category) ∘ jv_v f) = (fun v : Value => v.category) from funext (jv_v_cat f)]; exact hlo) hcs.1 hcs.2 hd ?_
  exact kk f H locs ls hP hD hS hE hL (jv_s1 (jv_sd hs) jv_ok_i) hn hf hl

end JVA
end JV
