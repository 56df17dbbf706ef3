/-! THE CHECKER 11: contracts and calls -/
def ck_eqV (a b : ck_V) : Bool := match a, b with
  | .inl (.inl x), .inl (.inl y) => decide (x = y)
  | .inl (.inr x), .inl (.inr y) => decide (x = y)
  | .inr (.inl x), .inr (.inl y) => decide (x = y)
  | .inr (.inr x), .inr (.inr y) => decide (x = y)
  | _, _ => false
theorem ck_eqV_ok {a b : ck_V} (h : ck_eqV a b = true) : a = b := by
  unfold ck_eqV at h
  split at h
  · rw [of_decide_eq_true h]
  · rw [of_decide_eq_true h]
  · rw [of_decide_eq_true h]
  · rw [of_decide_eq_true h]
  · cases h
def ck_eqL : List ck_V → List ck_V → Bool
  | [], [] => true
  | a :: s, b :: t => ck_eqV a b && ck_eqL s t
  | _, _ => false
theorem ck_eqL_ok : ∀ {s t : List ck_V}, ck_eqL s t = true → s = t
  | [], [], _ => rfl
  | a :: s, b :: t, h => by
    obtain ⟨h1, h2⟩ := Bool.and_eq_true_iff.mp h
    rw [ck_eqV_ok h1, ck_eqL_ok h2]
  | [], _ :: _, h => by cases h
  | _ :: _, [], h => by cases h
def ck_eqN : List (Nat × ck_V) → List (Nat × ck_V) → Bool
  | [], [] => true
  | a :: s, b :: t => (Nat.beq a.1 b.1 && ck_eqV a.2 b.2) && ck_eqN s t
  | _, _ => false
theorem ck_eqN_ok : ∀ {s t : List (Nat × ck_V)}, ck_eqN s t = true → s = t
  | [], [], _ => rfl
  | a :: s, b :: t, h => by
    obtain ⟨h1, h2⟩ := Bool.and_eq_true_iff.mp h
    obtain ⟨h3, h4⟩ := Bool.and_eq_true_iff.mp h1
    obtain ⟨a1, a2⟩ := a
    obtain ⟨b1, b2⟩ := b
    have e1 : a1 = b1 := Nat.eq_of_beq_eq_true h3
    have e2 : a2 = b2 := ck_eqV_ok h4
    rw [e1, e2, ck_eqN_ok h2]
  | [], _ :: _, h => by cases h
  | _ :: _, [], h => by cases h
def ck_eqO (a b : Option ck_V) : Bool := match a, b with
  | none, none => true
  | some x, some y => ck_eqV x y
  | _, _ => false
theorem ck_eqO_ok {a b : Option ck_V} (h : ck_eqO a b = true) : a = b := by
  unfold ck_eqO at h
  split at h
  · rfl
  · rw [ck_eqV_ok h]
  · cases h
abbrev ck_X : Type := Nat × List ck_L × Option ck_V × List ck_P × List Nat
abbrev ck_N : Type := Nat × (Nat × List ck_L × List ck_V × List ck_P × List Nat) × List ck_X × List Nat × Nat × Nat
def ck_rm (fr lo : Nat) : Room := { frames := fr, cells := 0, slots := 0, locals := lo }
def ck_gr (σ : Nat → Int) (n : Nat) (a : Option ck_V) (v : Option Value) : Prop := match a, v with
  | none, none => True
  | some a, some v => ck_gv σ n a v
  | _, _ => False
def ck_gx (σ : Nat → Int) (x : ck_X) (r : Option Value) (E : Nat → jv_E) : Prop := ck_hs σ x.2.1 ∧ (∀ f ∈ x.2.1, ck_w x.1 f) ∧ ck_gr σ x.1 x.2.2.1 r ∧ ck_gp σ x.1 x.2.2.2.1 E ∧ ck_gf x.2.2.2.2 E
def ck_post (e : ck_N) (σ : Nat → Int) (E : Nat → jv_E) : Option Value → Nat → (Nat → jv_E) → Prop := fun r n1 E1 => n1 = 84 ∧ ck_gi E1 ∧ (∀ k, k ∉ e.2.2.2.1 → E1 k = E k) ∧ ∃ x ∈ e.2.2.1, ∃ σ' : Nat → Int, ck_ag e.2.1.1 σ σ' ∧ ck_gx σ' x r E1
/-- what an entry promises: from every state that it allows the method comes back, in one of its ends -/
def ck_conM (l : Launch) (D : va_G) (kp : Nat → ClassId) (N : jv_N) (e : ck_N) : Prop := ∀ (σ : Nat → Int) (E : Nat → jv_E) (ar : List Value), ck_gi E → ck_hs σ e.2.1.2.1 → ck_rs σ e.2.1.1 e.2.1.2.2.1 ar → ck_gp σ e.2.1.1 e.2.1.2.2.2.1 E → ck_gf e.2.1.2.2.2.2 E → jv_M l D vwCl kp (ck_my e.1) (ck_ws e.1) (ck_rm e.2.2.2.2.1 e.2.2.2.2.2) N ar 84 E 0 0 (ck_post e σ E)
/-- a rule: what such a state shows besides -/
def ck_gcon (e : ck_N) : Prop := ∀ (σ : Nat → Int) (E : Nat → jv_E), ck_gi E → ck_hs σ e.2.1.2.1 → ck_gp σ e.2.1.1 e.2.1.2.2.2.1 E → ck_gf e.2.1.2.2.2.2 E → ∃ x ∈ e.2.2.1, ∃ σ' : Nat → Int, ck_ag e.2.1.1 σ σ' ∧ ck_gx σ' x none E
/-- a rule of a store in the cell k -/
def ck_scon (e : ck_N) (k : Nat) : Prop := ∀ (σ : Nat → Int) (E : Nat → jv_E) (e' : jv_E) (idx v : ck_L), e.2.1.2.2.1 = [.inl (.inl idx), .inl (.inl v)] → ck_gi E → ck_hs σ e.2.1.2.1 → ck_gp σ e.2.1.1 e.2.1.2.2.2.1 E → ck_gf e.2.1.2.2.2.2 E → ck_gi (va_up E k e') → 0 ≤ ck_ev σ idx → ck_loc e' (ck_ev σ idx) = ck_ev σ v → (∀ j, 0 ≤ j → ¬ j = ck_ev σ idx → ck_loc e' j = ck_loc (E k) j) → ∃ x ∈ e.2.2.1, ∃ σ' : Nat → Int, ck_ag e.2.1.1 σ σ' ∧ ck_gx σ' x none (va_up E k e')
def ck_con (l : Launch) (D : va_G) (kp : Nat → ClassId) (N : jv_N) (e : ck_N) : Prop := if e.1 = 9999 then ck_gcon e else if 10000 ≤ e.1 then ck_scon e (e.1 - 10000) else ck_conM l D kp N e
theorem ck_con_M {l : Launch} {D : va_G} {kp : Nat → ClassId} {N : jv_N} {e : ck_N} (h : e.1 < 9999) : ck_con l D kp N e ↔ ck_conM l D kp N e := by
  unfold ck_con
  rw [if_neg (by omega), if_neg (by omega)]
def ck_sbP (τ : List ck_L) (p : ck_P) : ck_P := (p.1, ck_sb τ p.2.1, ck_sb τ p.2.2)
def ck_ents (F : List ck_L) : List ck_L → List ck_K → Bool
  | [], _ => true
  | g :: t, c :: cs => ck_ent F g c && ck_ents F t cs
  | _ :: _, [] => false
def ck_tau (ρ : List ck_L) (n d : Nat) : List ck_L := ρ ++ (List.range d).map (fun i => ck_x (n + i))
def ck_aft (e : ck_N) (ρ : List ck_L) (S : ck_S) (K : List ck_V) (x : ck_X) : ck_S :=
  (S.1 + (x.1 - e.2.1.1), x.2.1.map (ck_sb (ck_tau ρ S.1 (x.1 - e.2.1.1))) ++ S.2.1, S.2.2.1,
    (match x.2.2.1 with
      | none => K
      | some a => ck_sbV (ck_tau ρ S.1 (x.1 - e.2.1.1)) a :: K),
    x.2.2.2.1.map (ck_sbP (ck_tau ρ S.1 (x.1 - e.2.1.1))) ++ S.2.2.2.2.1.filter (fun p => !(e.2.2.2.1.any (fun k => ck_hit k p.1))),
    x.2.2.2.2 ++ (if e.2.2.2.1.any ck_dp then [] else S.2.2.2.2.2))
def ck_exs (e : ck_N) (ρ : List ck_L) (S : ck_S) (K : List ck_V) (it : ck_I) (pc : Nat) : Nat → List ck_X → Option (List (Nat × ck_S))
  | _, [] => some []
  | j, x :: t => match ck_exs e ρ S K it pc (j + 1) t with
    | none => none
    | some q => if ck_nr it (1 + j) = 0 then some ((pc, ck_aft e ρ S K x) :: q)
      else if ck_ent (ck_aft e ρ S K x).2.1 (ck_c (-1)) (ck_kr it (e.2.1.2.1.length + j)) then some q else none
def ck_exg (e : ck_N) (ρ : List ck_L) (S : ck_S) (it : ck_I) : Nat → List ck_X → Option (List ck_S)
  | _, [] => some []
  | j, x :: t => match ck_exg e ρ S it (j + 1) t with
    | none => none
    | some q => if ck_nr it (2 + j) = 0 then some (ck_aft e ρ S S.2.2.2.1 x :: q)
      else if ck_ent (ck_aft e ρ S S.2.2.2.1 x).2.1 (ck_c (-1)) (ck_kr it (e.2.1.2.1.length + j)) then some q else none
/-- a rule's premises stand in the state -/
def ck_gpr (e : ck_N) (S : ck_S) (it : ck_I) : Bool := decide (it.2.2.length = e.2.1.1) && (e.2.2.2.1.isEmpty && (it.2.2.all (ck_wb S.1) && (ck_ents S.2.1 (e.2.1.2.1.map (ck_sb it.2.2)) it.2.1 && (e.2.1.2.2.2.1.all (fun p => S.2.2.2.2.1.contains (ck_sbP it.2.2 p) && (ck_wb e.2.1.1 p.2.1 && ck_wb e.2.1.1 p.2.2)) && (e.2.1.2.2.2.2.all (fun f => S.2.2.2.2.2.contains f) && e.2.2.1.all (fun x => Nat.ble e.2.1.1 x.1))))))
def ck_gap (Γ : List ck_N) (S : ck_S) (it : ck_I) : Option (List ck_S) := match Γ[ck_nr it 1]? with
  | none => none
  | some e => if e.1 = 9999 ∧ ck_gpr e S it = true then ck_exg e it.2.2 S it 0 e.2.2.1 else none
def ck_rcv (isV : Bool) (e : ck_N) : Bool := if isV then match e.2.1.2.2.1 with
    | .inr (.inl (some k)) :: _ => match ck_CT[k]? with
      | some (.inl ob) => ob.1 == ck_mo e.1
      | _ => false
    | _ => false
  else true
def ck_cal (Γ : List ck_N) (fr lo : Nat) (mods : List Nat) (pc mid : Nat) (isV : Bool) (S : ck_S) (its : List ck_I) : ck_R := match its with
  | [] => none
  | it :: r => match Γ[ck_nr it 0]? with
    | none => none
    | some e => if ((e.1 = mid ∧ mid < 9999) ∧ e.2.2.2.2.1 + 1 ≤ fr ∧ 8 + (ck_ml mid + 11) + e.2.2.2.2.2 ≤ lo) ∧ (it.2.2.length = e.2.1.1 ∧ ck_eqL (S.2.2.2.1.take e.2.1.2.2.1.length).reverse (e.2.1.2.2.1.map (ck_sbV it.2.2)) = true) ∧ ck_ma mid = e.2.1.2.2.1.length ∧
        (it.2.2.all (ck_wb S.1) && e.2.1.2.2.1.all (ck_wbV e.2.1.1) && ck_ents S.2.1 (e.2.1.2.1.map (ck_sb it.2.2)) it.2.1 && e.2.1.2.2.2.1.all (fun p => S.2.2.2.2.1.contains (ck_sbP it.2.2 p) && (ck_wb e.2.1.1 p.2.1 && ck_wb e.2.1.1 p.2.2)) && e.2.1.2.2.2.2.all (fun f => S.2.2.2.2.2.contains f) && Nat.ble ((S.2.2.2.1.drop e.2.1.2.2.1.length).map ck_cat).sum 8 && e.2.2.2.1.all (fun k => mods.contains k) && e.2.2.1.all (fun x => Nat.ble e.2.1.1 x.1) && ck_rcv isV e) = true then
        match ck_exs e it.2.2 S (S.2.2.2.1.drop e.2.1.2.2.1.length) it (pc + 3) 0 e.2.2.1 with
        | some q => some (q, r)
        | none => none
      else none
section CK11
variable {l : Launch} {D : va_G} {kp : Nat → ClassId} {G : jv_G} {cs ss : Nat} {cc : ByteArray} {rm : Room} {N : jv_N} {m0 : Nat} {σ0 : Nat → Int} {E0 : Nat → jv_E} {mods : List Nat}
variable {σ σ' : Nat → Int} {S : ck_S} {E : Nat → jv_E} {lv : List (Nat × Value)} {st : List Value} {its r : List ck_I} {su : List (Nat × ck_S)} {pc o nl n : Nat}
theorem ck_ents_ok {F : List ck_L} (h : ck_hs σ F) : ∀ {gs : List ck_L} {cs : List ck_K}, ck_ents F gs cs = true → ck_hs σ gs
  | [], _, _ => fun f hf => absurd hf List.not_mem_nil
  | g :: t, c :: cs, he => fun f hf => by
    obtain ⟨h1, h2⟩ := Bool.and_eq_true_iff.mp he
    rcases List.mem_cons.mp hf with rfl | hf
    · exact ck_ent_ok h h1
    · exact ck_ents_ok h h2 f hf
  | _ :: _, [], he => by cases he
theorem ck_rs_app : ∀ {K1 K2 : List ck_V} {s1 s2 : List Value}, ck_rs σ n K1 s1 → ck_rs σ n K2 s2 → ck_rs σ n (K1 ++ K2) (s1 ++ s2)
  | [], _, [], _, _, h => h
  | _ :: _, _, _ :: _, _, h1, h2 => ⟨h1.1, ck_rs_app h1.2 h2⟩
theorem ck_rs_rev : ∀ {K : List ck_V} {s : List Value}, ck_rs σ n K s → ck_rs σ n K.reverse s.reverse
  | [], [], _ => trivial
  | a :: K, v :: s, h => by
    rw [List.reverse_cons, List.reverse_cons]
    exact ck_rs_app (ck_rs_rev h.2) ⟨h.1, trivial⟩
theorem ck_rs_take : ∀ {K : List ck_V} {s : List Value} (m : Nat), ck_rs σ n K s → ck_rs σ n (K.take m) (s.take m)
  | _, _, 0, _ => trivial
  | [], [], _ + 1, _ => trivial
  | _ :: _, _ :: _, m + 1, h => ⟨h.1, ck_rs_take m h.2⟩
theorem ck_rs_drop : ∀ {K : List ck_V} {s : List Value} (m : Nat), ck_rs σ n K s → ck_rs σ n (K.drop m) (s.drop m)
  | _, _, 0, h => h
  | [], [], _ + 1, _ => trivial
  | _ :: _, _ :: _, m + 1, h => ck_rs_drop m h.2
theorem ck_rs_in {τ : List ck_L} {m : Nat} : ∀ {K : List ck_V} {s : List Value}, K.all (ck_wbV m) = true → ck_rs σ n (K.map (ck_sbV τ)) s → ck_rs (ck_tv σ τ) m K s
  | [], [], _, _ => trivial
  | a :: K, v :: s, hb, h => by
    rw [List.all_cons, Bool.and_eq_true_iff] at hb
    exact ⟨ck_gv_in hb.1 h.1, ck_rs_in hb.2 h.2⟩
theorem ck_tau_len {ρ : List ck_L} {d : Nat} : (ck_tau ρ n d).length = ρ.length + d := by
  unfold ck_tau; rw [List.length_append, List.length_map, List.length_range]
theorem ck_tau_w {ρ : List ck_L} {d : Nat} (h : ∀ a ∈ ρ, ck_w n a) : ∀ a ∈ ck_tau ρ n d, ck_w (n + d) a := fun a ha => by
  rcases List.mem_append.mp ha with h1 | h1
  · exact ck_w_up (Nat.le_add_right _ _) (h a h1)
  · obtain ⟨i, hi, rfl⟩ := List.mem_map.mp h1
    exact ck_w_x (by have := List.mem_range.mp hi; omega)
def ck_s9 (σ σ' : Nat → Int) (n m : Nat) : Nat → Int := fun i => if i < n then σ i else σ' (m + (i - n))
theorem ck_s9_ag {m : Nat} : ck_ag n σ (ck_s9 σ σ' n m) := fun i hi => if_pos hi
theorem ck_s9_tau {ρ : List ck_L} {d : Nat} (hρ : ∀ a ∈ ρ, ck_w n a) (hag : ck_ag ρ.length (ck_tv σ ρ) σ') : ck_ag (ρ.length + d) σ' (ck_tv (ck_s9 σ σ' n ρ.length) (ck_tau ρ n d)) := fun i hi => by
  show ck_ev (ck_s9 σ σ' n ρ.length) (ck_at (ck_tau ρ n d) i) = σ' i
  unfold ck_at
  rw [List.getD_eq_getElem?_getD]
  by_cases h : i < ρ.length
  · unfold ck_tau
    rw [List.getElem?_append_left h, List.getElem?_eq_getElem h]
    show ck_ev (ck_s9 σ σ' n ρ.length) ρ[i] = σ' i
    rw [ck_ev_ag ck_s9_ag (hρ _ (List.getElem_mem h)), hag i h]
    show ck_ev σ ρ[i] = ck_ev σ (ck_at ρ i)
    unfold ck_at
    rw [List.getD_eq_getElem?_getD, List.getElem?_eq_getElem h]
    rfl
  · unfold ck_tau
    rw [List.getElem?_append_right (Nat.not_lt.mp h), List.getElem?_map, List.getElem?_range (by omega)]
    show ck_ev (ck_s9 σ σ' n ρ.length) (ck_x (n + (i - ρ.length))) = σ' i
    rw [ck_x_ev]
    unfold ck_s9
    rw [if_neg (by omega), show ρ.length + (n + (i - ρ.length) - n) = i by omega]
theorem ck_gp_out {τ : List ck_L} {m : Nat} {P : List ck_P} (hτ : ∀ b ∈ τ, ck_w n b) (hag : ck_ag m σ' (ck_tv σ τ)) (h : ck_gp σ' m P E) : ck_gp σ n (P.map (ck_sbP τ)) E := fun p hp => by
  obtain ⟨q, hq, rfl⟩ := List.mem_map.mp hp
  obtain ⟨⟨w1, w2⟩, h1, h2⟩ := h q hq
  have e1 : ck_ev σ (ck_sb τ q.2.1) = ck_ev σ' q.2.1 := (ck_sb_ev τ _).trans (ck_ev_ag hag w1)
  have e2 : ck_ev σ (ck_sb τ q.2.2) = ck_ev σ' q.2.2 := (ck_sb_ev τ _).trans (ck_ev_ag hag w2)
  refine ⟨⟨ck_w_sb hτ _, ck_w_sb hτ _⟩, ?_, ?_⟩
  · show 0 ≤ ck_ev σ (ck_sb τ q.2.1)
    rw [e1]; exact h1
  · show ck_lk E q.1 (ck_ev σ (ck_sb τ q.2.1)) = ck_ev σ (ck_sb τ q.2.2)
    rw [e1, e2]; exact h2
/-- behind a call -/
theorem ck_aft_ok {e : ck_N} {ρ : List ck_L} {K : List ck_V} {x : ck_X} {st' : List Value} {rv : Option Value} {E1 : Nat → jv_E} (H : ck_H m0 σ0 E0 mods σ S E lv st) (hK : ck_rs σ S.1 K st') (hρ : ∀ a ∈ ρ, ck_w S.1 a) (hlen : ρ.length = e.2.1.1) (hle : e.2.1.1 ≤ x.1) (hgi : ck_gi E1) (hfr : ∀ k, k ∉ e.2.2.2.1 → E1 k = E k) (hm : ∀ k ∈ e.2.2.2.1, k ∈ mods) (hag : ck_ag e.2.1.1 (ck_tv σ ρ) σ') (hx : ck_gx σ' x rv E1) : ck_H m0 σ0 E0 mods (ck_s9 σ σ' S.1 e.2.1.1) (ck_aft e ρ S K x) E1 lv (rv.toList ++ st') := by
  obtain ⟨hf, hfw, hr, hp, hΦ⟩ := hx
  have hτw := ck_tau_w (d := x.1 - e.2.1.1) hρ
  have hτ := ck_s9_tau (σ' := σ') (d := x.1 - e.2.1.1) hρ (hlen.symm ▸ hag)
  rw [hlen, show e.2.1.1 + (x.1 - e.2.1.1) = x.1 by omega] at hτ
  have hA : ck_ag S.1 σ (ck_s9 σ σ' S.1 e.2.1.1) := ck_s9_ag
  refine ⟨Nat.le_trans H.1 (Nat.le_add_right _ _), ck_ag_tr H.2.1 (ck_ag_le H.1 hA), ⟨hgi, ⟨fun f h9 => ?_, fun f h9 => ?_⟩, ck_rl_up (Nat.le_add_right _ _) hA (ck_hL H), ?_, fun p h9 => ?_, fun f h9 => ?_⟩, fun k hk => ?_⟩
  · rcases List.mem_append.mp h9 with h9 | h9
    · obtain ⟨g, hg, rfl⟩ := List.mem_map.mp h9
      rw [ck_sb_ev, ck_ev_ag hτ (hfw g hg)]
      exact hf g hg
    · rw [ck_ev_ag hA (H.2.2.1.2.1.2 f h9)]
      exact H.2.2.1.2.1.1 f h9
  · rcases List.mem_append.mp h9 with h9 | h9
    · obtain ⟨g, hg, rfl⟩ := List.mem_map.mp h9
      exact ck_w_sb hτw g
    · exact ck_w_up (Nat.le_add_right _ _) (H.2.2.1.2.1.2 f h9)
  · have hK2 := ck_rs_up (Nat.le_add_right S.1 (x.1 - e.2.1.1)) hA hK
    show ck_rs _ _ (match x.2.2.1 with | none => K | some a => ck_sbV (ck_tau ρ S.1 (x.1 - e.2.1.1)) a :: K) _
    cases hxr : x.2.2.1 with
    | none =>
      rw [hxr] at hr
      cases rv with
      | none => exact hK2
      | some v => exact absurd hr (fun h => h)
    | some a =>
      rw [hxr] at hr
      cases rv with
      | none => exact absurd hr (fun h => h)
      | some v => exact ⟨ck_gv_out hτw hτ hr, hK2⟩
  · rcases List.mem_append.mp h9 with h9 | h9
    · exact ck_gp_out hτw hτ hp p h9
    · obtain ⟨h9, h8⟩ := List.mem_filter.mp h9
      have h7 := ck_gp_up (Nat.le_add_right S.1 (x.1 - e.2.1.1)) hA H.2.2.1.2.2.2.2.1 p h9
      have h8 : e.2.2.2.1.any (fun k => ck_hit k p.1) = false := by simpa using h8
      rw [ck_lk_dep (E := E) (fun j hj => hfr j (fun q => by rw [List.any_eq_true.mpr ⟨j, q, hj⟩] at h8; cases h8))]
      exact h7
  · rcases List.mem_append.mp h9 with h9 | h9
    · exact hΦ f h9
    · split at h9
      · exact absurd h9 List.not_mem_nil
      · rename_i hany
        have hno : ∀ k, ck_dp k = true → k ∉ e.2.2.2.1 := fun k hk hm9 => hany (List.any_eq_true.mpr ⟨k, hm9, hk⟩)
        exact ck_FL_dep (hfr 65 (hno 65 rfl)) (hfr 67 (hno 67 rfl)) (hfr 70 (hno 70 rfl)) (H.2.2.1.2.2.2.2.2 f h9)
  · rw [hfr k (fun h9 => hk (hm k h9))]
    exact H.2.2.2 k hk
theorem ck_exs_ok {e : ck_N} {ρ : List ck_L} {K : List ck_V} {it : ck_I} {x : ck_X} {rv : Option Value} {E1 : Nat → jv_E} {st' : List Value} : ∀ (t : List ck_X) (j : Nat) (q : List (Nat × ck_S)), ck_exs e ρ S K it pc j t = some q → (∀ p ∈ q, ck_Pr l D kp G cs ss m0 σ0 E0 mods p.1 p.2) → x ∈ t → ck_H m0 σ0 E0 mods (ck_s9 σ σ' S.1 e.2.1.1) (ck_aft e ρ S K x) E1 lv (rv.toList ++ st') → jv_V l D vwCl kp G cs ss 84 E1 pc lv (rv.toList ++ st')
  | [], _, _, _, _, hx, _ => absurd hx List.not_mem_nil
  | y :: t, j, q, h, kk, hx, H => by
    unfold ck_exs at h
    split at h
    · cases h
    · rename_i q0 hq0
      split at h
      · cases h
        rcases List.mem_cons.mp hx with rfl | hx
        · exact kk _ List.mem_cons_self _ _ _ _ H
        · exact ck_exs_ok t (j + 1) q0 hq0 (fun p hp => kk p (List.mem_cons_of_mem _ hp)) hx H
      · split at h
        · rename_i hd
          cases h
          rcases List.mem_cons.mp hx with rfl | hx
          · exfalso
            have := ck_ent_ok (ck_hF H) hd
            rw [ck_c_ev] at this
            omega
          · exact ck_exs_ok t (j + 1) _ hq0 kk hx H
        · cases h
theorem ck_exg_ok {e : ck_N} {ρ : List ck_L} {it : ck_I} {x : ck_X} {E1 : Nat → jv_E} : ∀ (t : List ck_X) (j : Nat) (q : List ck_S), ck_exg e ρ S it j t = some q → (∀ S2 ∈ q, ck_Pr l D kp G cs ss m0 σ0 E0 mods pc S2) → x ∈ t → ck_H m0 σ0 E0 mods (ck_s9 σ σ' S.1 e.2.1.1) (ck_aft e ρ S S.2.2.2.1 x) E1 lv st → jv_V l D vwCl kp G cs ss 84 E1 pc lv st
  | [], _, _, _, _, hx, _ => absurd hx List.not_mem_nil
  | y :: t, j, q, h, kk, hx, H => by
    unfold ck_exg at h
    split at h
    · cases h
    · rename_i q0 hq0
      split at h
      · cases h
        rcases List.mem_cons.mp hx with rfl | hx
        · exact kk _ List.mem_cons_self _ _ _ _ H
        · exact ck_exg_ok t (j + 1) q0 hq0 (fun p hp => kk p (List.mem_cons_of_mem _ hp)) hx H
      · split at h
        · rename_i hd
          cases h
          rcases List.mem_cons.mp hx with rfl | hx
          · exfalso
            have := ck_ent_ok (ck_hF H) hd
            rw [ck_c_ev] at this
            omega
          · exact ck_exg_ok t (j + 1) _ hq0 kk hx H
        · cases h
end CK11
