/-! THE CHECKER 2: what is known of a state: values as forms, locals, the stack, cells within their bounds, single places of cells as forms, flags -/
abbrev ck_V : Type := (ck_L ⊕ ck_L) ⊕ (Option Nat ⊕ (ck_L × ck_L))
def ck_gv (σ : Nat → Int) (n : Nat) (a : ck_V) (v : Value) : Prop := match a with
  | .inl (.inl l) => ck_w n l ∧ ∃ x : Int32, v = .int x ∧ x.toInt = ck_ev σ l
  | .inl (.inr l) => ck_w n l ∧ ∃ x : Int64, v = .long x ∧ x.toInt = ck_ev σ l
  | .inr (.inl (some k)) => v = .ref k
  | .inr (.inl none) => v = .null
  | .inr (.inr q) => ck_w n q.1 ∧ ck_w n q.2 ∧ ∃ x y : Int64, v = .int (lg_cmp x y) ∧ x.toInt = ck_ev σ q.1 ∧ y.toInt = ck_ev σ q.2
def ck_cat (a : ck_V) : Nat := match a with
  | .inl (.inr _) => 2
  | _ => 1
section CK2
variable {σ σ' : Nat → Int} {n m : Nat}
theorem ck_gv_cat {a : ck_V} {v : Value} (h : ck_gv σ n a v) : v.category = ck_cat a := by
  rcases a with (l | l) | (_ | k) | q
  · obtain ⟨_, x, rfl, _⟩ := h; rfl
  · obtain ⟨_, x, rfl, _⟩ := h; rfl
  · cases h; rfl
  · cases h; rfl
  · obtain ⟨_, _, x, y, rfl, _⟩ := h; rfl
theorem ck_gv_up {a : ck_V} {v : Value} (hn : n ≤ m) (ha : ck_ag n σ σ') (h : ck_gv σ n a v) : ck_gv σ' m a v := by
  rcases a with (l | l) | (_ | k) | q
  · obtain ⟨w, x, e, hx⟩ := h; exact ⟨ck_w_up hn w, x, e, hx.trans (ck_ev_ag ha w).symm⟩
  · obtain ⟨w, x, e, hx⟩ := h; exact ⟨ck_w_up hn w, x, e, hx.trans (ck_ev_ag ha w).symm⟩
  · exact h
  · exact h
  · obtain ⟨w1, w2, x, y, e, hx, hy⟩ := h
    exact ⟨ck_w_up hn w1, ck_w_up hn w2, x, y, e, hx.trans (ck_ev_ag ha w1).symm, hy.trans (ck_ev_ag ha w2).symm⟩
/-- forms put in place of the unknowns of a value -/
def ck_sbV (τ : List ck_L) (a : ck_V) : ck_V := match a with
  | .inl (.inl l) => .inl (.inl (ck_sb τ l))
  | .inl (.inr l) => .inl (.inr (ck_sb τ l))
  | .inr (.inl k) => .inr (.inl k)
  | .inr (.inr q) => .inr (.inr (ck_sb τ q.1, ck_sb τ q.2))
def ck_wbV (n : Nat) (a : ck_V) : Bool := match a with
  | .inl (.inl l) => ck_wb n l
  | .inl (.inr l) => ck_wb n l
  | .inr (.inl _) => true
  | .inr (.inr q) => ck_wb n q.1 && ck_wb n q.2
/-- back: what holds of the put form holds of the value with the unknowns so -/
theorem ck_gv_in {a : ck_V} {v : Value} {τ : List ck_L} (hb : ck_wbV m a = true) (h : ck_gv σ n (ck_sbV τ a) v) : ck_gv (ck_tv σ τ) m a v := by
  rcases a with (l | l) | (_ | k) | q
  · obtain ⟨w, x, e, hx⟩ := h; exact ⟨ck_wb_ok hb, x, e, hx.trans (ck_sb_ev τ l)⟩
  · obtain ⟨w, x, e, hx⟩ := h; exact ⟨ck_wb_ok hb, x, e, hx.trans (ck_sb_ev τ l)⟩
  · exact h
  · exact h
  · obtain ⟨w1, w2, x, y, e, hx, hy⟩ := h
    have hb2 := Bool.and_eq_true_iff.mp hb
    exact ⟨ck_wb_ok hb2.1, ck_wb_ok hb2.2, x, y, e, hx.trans (ck_sb_ev τ q.1), hy.trans (ck_sb_ev τ q.2)⟩
/-- forth: a value of other unknowns, which the forms give -/
theorem ck_gv_out {a : ck_V} {v : Value} {τ : List ck_L} (hτ : ∀ b ∈ τ, ck_w n b) (hag : ck_ag m σ' (ck_tv σ τ)) (h : ck_gv σ' m a v) : ck_gv σ n (ck_sbV τ a) v := by
  have key : ∀ l : ck_L, ck_w m l → ck_ev σ (ck_sb τ l) = ck_ev σ' l := fun l w => (ck_sb_ev τ l).trans (ck_ev_ag hag w)
  rcases a with (l | l) | (_ | k) | q
  · obtain ⟨w, x, e, hx⟩ := h; exact ⟨ck_w_sb hτ l, x, e, hx.trans (key l w).symm⟩
  · obtain ⟨w, x, e, hx⟩ := h; exact ⟨ck_w_sb hτ l, x, e, hx.trans (key l w).symm⟩
  · exact h
  · exact h
  · obtain ⟨w1, w2, x, y, e, hx, hy⟩ := h
    exact ⟨ck_w_sb hτ _, ck_w_sb hτ _, x, y, e, hx.trans (key _ w1).symm, hy.trans (key _ w2).symm⟩
/-! locals and stack -/
def ck_rl (σ : Nat → Int) (n : Nat) : List (Nat × ck_V) → List (Nat × Value) → Prop
  | [], [] => True
  | a :: L, v :: lv => a.1 = v.1 ∧ ck_gv σ n a.2 v.2 ∧ ck_rl σ n L lv
  | [], _ :: _ => False
  | _ :: _, [] => False
def ck_rs (σ : Nat → Int) (n : Nat) : List ck_V → List Value → Prop
  | [], [] => True
  | a :: L, v :: lv => ck_gv σ n a v ∧ ck_rs σ n L lv
  | [], _ :: _ => False
  | _ :: _, [] => False
theorem ck_rs_cons {a : ck_V} {K : List ck_V} {st : List Value} (h : ck_rs σ n (a :: K) st) : ∃ v st', st = v :: st' ∧ ck_gv σ n a v ∧ ck_rs σ n K st' := by
  cases st with
  | nil => exact absurd h (fun h => h)
  | cons v st' => exact ⟨v, st', rfl, h.1, h.2⟩
theorem ck_rs_nil {st : List Value} (h : ck_rs σ n [] st) : st = [] := by
  cases st with
  | nil => rfl
  | cons v st' => exact absurd h (fun h => h)
theorem ck_rl_up (hn : n ≤ m) (ha : ck_ag n σ σ') : ∀ {L : List (Nat × ck_V)} {lv : List (Nat × Value)}, ck_rl σ n L lv → ck_rl σ' m L lv
  | [], [], _ => trivial
  | _ :: _, _ :: _, h => ⟨h.1, ck_gv_up hn ha h.2.1, ck_rl_up hn ha h.2.2⟩
theorem ck_rs_up (hn : n ≤ m) (ha : ck_ag n σ σ') : ∀ {K : List ck_V} {st : List Value}, ck_rs σ n K st → ck_rs σ' m K st
  | [], [], _ => trivial
  | _ :: _, _ :: _, h => ⟨ck_gv_up hn ha h.1, ck_rs_up hn ha h.2⟩
theorem ck_rs_len : ∀ {K : List ck_V} {st : List Value}, ck_rs σ n K st → st.length = K.length
  | [], [], _ => rfl
  | _ :: _, _ :: _, h => congrArg Nat.succ (ck_rs_len h.2)
theorem ck_rs_sum : ∀ {K : List ck_V} {st : List Value}, ck_rs σ n K st → (st.map fun v => v.category).sum = (K.map ck_cat).sum
  | [], [], _ => rfl
  | _ :: _, _ :: _, h => by
    rw [List.map_cons, List.map_cons, List.sum_cons, List.sum_cons, ck_gv_cat h.1, ck_rs_sum h.2]
def ck_fi (i : Nat) : List (Nat × ck_V) → Option ck_V
  | [] => none
  | a :: L => match Nat.beq a.1 i with
    | true => some a.2
    | false => ck_fi i L
theorem ck_fi_ok {i : Nat} {a : ck_V} : ∀ {L : List (Nat × ck_V)} {lv : List (Nat × Value)}, ck_rl σ n L lv → ck_fi i L = some a → ∃ (j : Nat) (v : Value), lv[j]? = some (i, v) ∧ ck_gv σ n a v
  | [], [], _, h => by cases h
  | b :: L, w :: lv, hr, h => by
    unfold ck_fi at h
    split at h
    · rename_i hb
      have hb : b.1 = i := Nat.eq_of_beq_eq_true hb
      cases h
      exact ⟨0, w.2, by rw [← hb, hr.1]; rfl, hr.2.1⟩
    · obtain ⟨j, v, h1, h2⟩ := ck_fi_ok hr.2.2 h
      exact ⟨j + 1, v, h1, h2⟩
def ck_s1 (i : Nat) (a : ck_V) (L : List (Nat × ck_V)) : List (Nat × ck_V) := (i, a) :: L.filter (fun q => !(q.1 == i) && !(q.1 + 1 == i && ck_cat q.2 == 2))
def ck_s2 (i : Nat) (a : ck_V) (L : List (Nat × ck_V)) : List (Nat × ck_V) := (i, a) :: L.filter (fun q => !(q.1 == i) && (!(q.1 == i + 1) && !(q.1 + 1 == i && ck_cat q.2 == 2)))
theorem ck_f1 {i : Nat} : ∀ {L : List (Nat × ck_V)} {lv : List (Nat × Value)}, ck_rl σ n L lv → ck_rl σ n (L.filter (fun q => !(q.1 == i) && !(q.1 + 1 == i && ck_cat q.2 == 2))) (lv.filter (fun q => !(q.1 == i) && !(q.1 + 1 == i && q.2.category == 2)))
  | [], [], _ => trivial
  | a :: L, v :: lv, h => by
    rw [List.filter_cons, List.filter_cons, ck_gv_cat h.2.1, h.1]
    split
    · exact ⟨h.1, h.2.1, ck_f1 h.2.2⟩
    · exact ck_f1 h.2.2
theorem ck_f2 {i : Nat} : ∀ {L : List (Nat × ck_V)} {lv : List (Nat × Value)}, ck_rl σ n L lv → ck_rl σ n (L.filter (fun q => !(q.1 == i) && (!(q.1 == i + 1) && !(q.1 + 1 == i && ck_cat q.2 == 2)))) (lv.filter (fun q => !(q.1 == i) && (!(q.1 == i + 1) && !(q.1 + 1 == i && q.2.category == 2))))
  | [], [], _ => trivial
  | a :: L, v :: lv, h => by
    rw [List.filter_cons, List.filter_cons, ck_gv_cat h.2.1, h.1]
    split
    · exact ⟨h.1, h.2.1, ck_f2 h.2.2⟩
    · exact ck_f2 h.2.2
/-! cells -/
def ck_bd (B : List (Int × Int)) (i : Nat) : Int × Int := B.getD (i % B.length) (0, 0)
def ck_okf (f : ck_F) (v : Value) : Prop := match f with
  | .inl b => ∃ x : Int32, v = .int x ∧ b.1 ≤ x.toInt ∧ x.toInt ≤ b.2
  | .inr (.inl b) => ∃ x : Int64, v = .long x ∧ b.1 ≤ x.toInt ∧ x.toInt ≤ b.2
  | .inr (.inr k) => v = .ref k
def ck_okl : List ck_F → List Value → Prop
  | [], [] => True
  | f :: F, v :: fs => ck_okf f v ∧ ck_okl F fs
  | [], _ :: _ => False
  | _ :: _, [] => False
def ck_okc (c : ck_C) (e : jv_E) : Prop := match c with
  | .inl o => ∃ fs, e = .inr (o.1, fs) ∧ ck_okl o.2 fs
  | .inr (.inl a) => if a.1 = 3 then ∃ g : Nat → Int64, e = .inl (3, a.2.1, .inr (.inl g)) ∧ ∀ i, i < a.2.1 → (ck_bd a.2.2 i).1 ≤ (g i).toInt ∧ (g i).toInt ≤ (ck_bd a.2.2 i).2
      else ∃ g : Nat → Int32, e = .inl (a.1, a.2.1, .inl g) ∧ ∀ i, i < a.2.1 → (ck_bd a.2.2 i).1 ≤ (g i).toInt ∧ (g i).toInt ≤ (ck_bd a.2.2 i).2
  | .inr (.inr ks) => ∃ gq : Nat → Option Nat, e = .inl (4, ks.length, .inr (.inr (.inr (.inr gq)))) ∧ ∀ i k, ks[i]? = some k → gq i = some k
theorem ck_okI {t z : Nat} {B : List (Int × Int)} {e : jv_E} (h : ¬ t = 3) : ck_okc (.inr (.inl (t, z, B))) e ↔ ∃ g : Nat → Int32, e = .inl (t, z, .inl g) ∧ ∀ i, i < z → (ck_bd B i).1 ≤ (g i).toInt ∧ (g i).toInt ≤ (ck_bd B i).2 := by
  unfold ck_okc
  dsimp only
  rw [if_neg h]
theorem ck_okJ {z : Nat} {B : List (Int × Int)} {e : jv_E} : ck_okc (.inr (.inl (3, z, B))) e ↔ ∃ g : Nat → Int64, e = .inl (3, z, .inr (.inl g)) ∧ ∀ i, i < z → (ck_bd B i).1 ≤ (g i).toInt ∧ (g i).toInt ≤ (ck_bd B i).2 := by
  unfold ck_okc
  dsimp only
  rw [if_pos rfl]
theorem ck_okl_get : ∀ {F : List ck_F} {fs : List Value} {j : Nat} {f : ck_F}, ck_okl F fs → F[j]? = some f → ∃ v, fs[j]? = some v ∧ ck_okf f v
  | [], [], _, _, _, h => by simp at h
  | f :: F, v :: fs, 0, g, hl, h => by
    simp at h
    subst h
    exact ⟨v, rfl, hl.1⟩
  | f :: F, v :: fs, j + 1, g, hl, h => by
    rw [List.getElem?_cons_succ] at h
    obtain ⟨v2, h1, h2⟩ := ck_okl_get hl.2 h
    exact ⟨v2, by rw [List.getElem?_cons_succ]; exact h1, h2⟩
theorem ck_okl_set : ∀ {F : List ck_F} {fs : List Value} {j : Nat} {f : ck_F} {v : Value}, ck_okl F fs → F[j]? = some f → ck_okf f v → ck_okl F (fs.set j v)
  | [], [], _, _, _, _, h, _ => by simp at h
  | f :: F, v :: fs, 0, g, w, hl, h, hw => by
    simp at h
    subst h
    exact ⟨hw, hl.2⟩
  | f :: F, v :: fs, j + 1, g, w, hl, h, hw => by
    rw [List.getElem?_cons_succ] at h
    exact ⟨hl.1, ck_okl_set hl.2 h hw⟩
theorem ck_okl_len : ∀ {F : List ck_F} {fs : List Value}, ck_okl F fs → fs.length = F.length
  | [], [], _ => rfl
  | _ :: _, _ :: _, h => congrArg Nat.succ (ck_okl_len h.2)
def ck_gi (E : Nat → jv_E) : Prop := ∀ k c, ck_CT[k]? = some c → ck_okc c (E k)
theorem ck_gi_up {E : Nat → jv_E} {k : Nat} {c : ck_C} {e : jv_E} (h : ck_gi E) (hk : ck_CT[k]? = some c) (he : ck_okc c e) : ck_gi (va_up E k e) := fun j d hj => by
  by_cases hjk : j = k
  · subst hjk
    rw [hk] at hj
    cases hj
    rw [va_up_self]; exact he
  · rw [va_up_ne _ _ hjk]; exact h j d hj
/-- single places of cells -/
abbrev ck_P : Type := Nat × ck_L × ck_L
def ck_gp (σ : Nat → Int) (n : Nat) (P : List ck_P) (E : Nat → jv_E) : Prop := ∀ p ∈ P, (ck_w n p.2.1 ∧ ck_w n p.2.2) ∧ 0 ≤ ck_ev σ p.2.1 ∧ ck_lk E p.1 (ck_ev σ p.2.1) = ck_ev σ p.2.2
theorem ck_gp_up {P : List ck_P} {E : Nat → jv_E} (hn : n ≤ m) (ha : ck_ag n σ σ') (h : ck_gp σ n P E) : ck_gp σ' m P E := fun p hp => by
  obtain ⟨⟨w1, w2⟩, h1, h2⟩ := h p hp
  rw [ck_ev_ag ha w1, ck_ev_ag ha w2]
  exact ⟨⟨ck_w_up hn w1, ck_w_up hn w2⟩, h1, h2⟩
def ck_gf (Φ : List Nat) (E : Nat → jv_E) : Prop := ∀ f ∈ Φ, ck_FL f E
/-- a state: how many unknowns, facts, locals, stack, places, flags -/
abbrev ck_S : Type := Nat × List ck_L × List (Nat × ck_V) × List ck_V × List ck_P × List Nat
def ck_g (σ : Nat → Int) (S : ck_S) (E : Nat → jv_E) (lv : List (Nat × Value)) (st : List Value) : Prop :=
  ck_gi E ∧ (ck_hs σ S.2.1 ∧ ∀ f ∈ S.2.1, ck_w S.1 f) ∧ ck_rl σ S.1 S.2.2.1 lv ∧ ck_rs σ S.1 S.2.2.2.1 st ∧ ck_gp σ S.1 S.2.2.2.2.1 E ∧ ck_gf S.2.2.2.2.2 E
def ck_stk (S : ck_S) (K : List ck_V) : ck_S := (S.1, S.2.1, S.2.2.1, K, S.2.2.2.2.1, S.2.2.2.2.2)
def ck_sts (S : ck_S) (L : List (Nat × ck_V)) (K : List ck_V) : ck_S := (S.1, S.2.1, L, K, S.2.2.2.2.1, S.2.2.2.2.2)
def ck_fct (S : ck_S) (ex : List ck_L) (K : List ck_V) : ck_S := (S.1, ex ++ S.2.1, S.2.2.1, K, S.2.2.2.2.1, S.2.2.2.2.2)
def ck_frs (S : ck_S) (ex : List ck_L) (K : List ck_V) (P : List ck_P) : ck_S := (S.1 + 1, ex ++ S.2.1, S.2.2.1, K, P ++ S.2.2.2.2.1, S.2.2.2.2.2)
theorem ck_g_stk {S : ck_S} {E : Nat → jv_E} {lv : List (Nat × Value)} {st st' : List Value} {K : List ck_V} (h : ck_g σ S E lv st) (hK : ck_rs σ S.1 K st') : ck_g σ (ck_stk S K) E lv st' := ⟨h.1, h.2.1, h.2.2.1, hK, h.2.2.2.2⟩
theorem ck_g_sts {S : ck_S} {E : Nat → jv_E} {lv lv' : List (Nat × Value)} {st st' : List Value} {L : List (Nat × ck_V)} {K : List ck_V} (h : ck_g σ S E lv st) (hL : ck_rl σ S.1 L lv') (hK : ck_rs σ S.1 K st') : ck_g σ (ck_sts S L K) E lv' st' := ⟨h.1, h.2.1, hL, hK, h.2.2.2.2⟩
theorem ck_g_fct {S : ck_S} {E : Nat → jv_E} {lv : List (Nat × Value)} {st st' : List Value} {ex : List ck_L} {K : List ck_V} (h : ck_g σ S E lv st) (hex : ∀ f ∈ ex, ck_w S.1 f ∧ 0 ≤ ck_ev σ f) (hK : ck_rs σ S.1 K st') : ck_g σ (ck_fct S ex K) E lv st' :=
  ⟨h.1, ⟨fun f hf => (List.mem_append.mp hf).elim (fun q => (hex f q).2) (h.2.1.1 f), fun f hf => (List.mem_append.mp hf).elim (fun q => (hex f q).1) (h.2.1.2 f)⟩, h.2.2.1, hK, h.2.2.2.2⟩
theorem ck_g_frs {S : ck_S} {E : Nat → jv_E} {lv : List (Nat × Value)} {st st' : List Value} {ex : List ck_L} {K : List ck_V} {P : List ck_P} {z : Int} (h : ck_g σ S E lv st) (hex : ∀ f ∈ ex, ck_w (S.1 + 1) f ∧ 0 ≤ ck_ev (va_up σ S.1 z) f) (hK : ck_rs (va_up σ S.1 z) (S.1 + 1) K st') (hP : ck_gp (va_up σ S.1 z) (S.1 + 1) P E) : ck_g (va_up σ S.1 z) (ck_frs S ex K P) E lv st' := by
  have hag : ck_ag S.1 σ (va_up σ S.1 z) := ck_ag_up (Nat.le_refl _)
  refine ⟨h.1, ⟨fun f hf => ?_, fun f hf => ?_⟩, ck_rl_up (Nat.le_succ _) hag h.2.2.1, hK, fun p hp => ?_, h.2.2.2.2.2⟩
  · rcases List.mem_append.mp hf with q | q
    · exact (hex f q).2
    · rw [ck_ev_ag hag (h.2.1.2 f q)]; exact h.2.1.1 f q
  · rcases List.mem_append.mp hf with q | q
    · exact (hex f q).1
    · exact ck_w_up (Nat.le_succ _) (h.2.1.2 f q)
  · rcases List.mem_append.mp hp with q | q
    · exact hP p q
    · exact ck_gp_up (Nat.le_succ _) hag h.2.2.2.2.1 p q
end CK2
