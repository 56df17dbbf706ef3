/-! THE CHECKER 1: linear forms over numbered unknowns, facts (a form is at least 0), what follows from them by a weighted sum -/
abbrev ck_T : Type := List (Nat × Int)
abbrev ck_L : Type := Int × List (Nat × Int)
def ck_ts (σ : Nat → Int) : List (Nat × Int) → Int
  | [] => 0
  | q :: t => q.2 * σ q.1 + ck_ts σ t
def ck_ev (σ : Nat → Int) (l : ck_L) : Int := l.1 + ck_ts σ l.2
def ck_z (c : Int) : Bool := match c with
  | .ofNat n => Nat.beq n 0
  | .negSucc _ => false
theorem ck_z_t {c : Int} (h : ck_z c = true) : c = 0 := by
  cases c with
  | ofNat n => have := Nat.eq_of_beq_eq_true h; subst this; rfl
  | negSucc n => cases h
def ck_cons (i : Nat) (c : Int) (t : List (Nat × Int)) : List (Nat × Int) := match ck_z c with
  | true => t
  | false => (i, c) :: t
def ck_ins (i : Nat) (c : Int) : List (Nat × Int) → List (Nat × Int)
  | [] => ck_cons i c []
  | q :: t => match Nat.beq i q.1 with
    | true => ck_cons i (c + q.2) t
    | false => match Nat.ble i q.1 with
      | true => ck_cons i c (q :: t)
      | false => q :: ck_ins i c t
def ck_addT : List (Nat × Int) → List (Nat × Int) → List (Nat × Int)
  | [], b => b
  | q :: a, b => ck_ins q.1 q.2 (ck_addT a b)
def ck_add (a b : ck_L) : ck_L := (a.1 + b.1, ck_addT a.2 b.2)
def ck_mulT (k : Int) : List (Nat × Int) → List (Nat × Int)
  | [] => []
  | q :: t => (q.1, k * q.2) :: ck_mulT k t
def ck_mul (k : Int) (a : ck_L) : ck_L := match ck_z k with
  | true => (0, [])
  | false => (k * a.1, ck_mulT k a.2)
def ck_sub (a b : ck_L) : ck_L := ck_add a (ck_mul (-1) b)
def ck_c (k : Int) : ck_L := (k, [])
def ck_x (i : Nat) : ck_L := (0, [(i, 1)])
def ck_ac (a : ck_L) (k : Int) : ck_L := (a.1 + k, a.2)
section CK1
variable {σ σ' : Nat → Int}
theorem ck_cons_ts (i : Nat) (c : Int) (t : List (Nat × Int)) : ck_ts σ (ck_cons i c t) = c * σ i + ck_ts σ t := by
  unfold ck_cons
  split
  · rename_i h
    rw [ck_z_t h, Int.zero_mul, Int.zero_add]
  · rfl
theorem ck_ins_ts (i : Nat) (c : Int) (t : List (Nat × Int)) : ck_ts σ (ck_ins i c t) = c * σ i + ck_ts σ t := by
  induction t with
  | nil => exact ck_cons_ts i c []
  | cons q t ih =>
    unfold ck_ins
    split
    · rename_i h
      have h : i = q.1 := Nat.eq_of_beq_eq_true h
      rw [ck_cons_ts]
      show (c + q.2) * σ i + ck_ts σ t = c * σ i + (q.2 * σ q.1 + ck_ts σ t)
      rw [← h, Int.add_mul, Int.add_assoc]
    · split
      · rw [ck_cons_ts]
      · show q.2 * σ q.1 + ck_ts σ (ck_ins i c t) = c * σ i + (q.2 * σ q.1 + ck_ts σ t)
        rw [ih]; omega
theorem ck_addT_ts (a b : List (Nat × Int)) : ck_ts σ (ck_addT a b) = ck_ts σ a + ck_ts σ b := by
  induction a with
  | nil => show ck_ts σ b = 0 + ck_ts σ b; omega
  | cons q a ih =>
    show ck_ts σ (ck_ins q.1 q.2 (ck_addT a b)) = (q.2 * σ q.1 + ck_ts σ a) + ck_ts σ b
    rw [ck_ins_ts, ih]; omega
theorem ck_add_ev (a b : ck_L) : ck_ev σ (ck_add a b) = ck_ev σ a + ck_ev σ b := by
  show (a.1 + b.1) + ck_ts σ (ck_addT a.2 b.2) = (a.1 + ck_ts σ a.2) + (b.1 + ck_ts σ b.2)
  rw [ck_addT_ts]; omega
theorem ck_mulT_ts (k : Int) (t : List (Nat × Int)) : ck_ts σ (ck_mulT k t) = k * ck_ts σ t := by
  induction t with
  | nil => exact (Int.mul_zero k).symm
  | cons q t ih =>
    show k * q.2 * σ q.1 + ck_ts σ (ck_mulT k t) = k * (q.2 * σ q.1 + ck_ts σ t)
    rw [ih, Int.mul_add, Int.mul_assoc]
theorem ck_mul_ev (k : Int) (a : ck_L) : ck_ev σ (ck_mul k a) = k * ck_ev σ a := by
  unfold ck_mul
  split
  · rename_i h
    rw [ck_z_t h, Int.zero_mul]; rfl
  · show k * a.1 + ck_ts σ (ck_mulT k a.2) = k * (a.1 + ck_ts σ a.2)
    rw [ck_mulT_ts, Int.mul_add]
theorem ck_sub_ev (a b : ck_L) : ck_ev σ (ck_sub a b) = ck_ev σ a - ck_ev σ b := by
  unfold ck_sub
  rw [ck_add_ev, ck_mul_ev]; omega
theorem ck_c_ev (k : Int) : ck_ev σ (ck_c k) = k := Int.add_zero k
theorem ck_x_ev (i : Nat) : ck_ev σ (ck_x i) = σ i := by
  show (0 : Int) + (1 * σ i + 0) = σ i
  omega
theorem ck_ac_ev (a : ck_L) (k : Int) : ck_ev σ (ck_ac a k) = ck_ev σ a + k := by
  show (a.1 + k) + ck_ts σ a.2 = (a.1 + ck_ts σ a.2) + k
  omega
/-- only unknowns below n -/
def ck_wT (n : Nat) (t : List (Nat × Int)) : Prop := ∀ q ∈ t, q.1 < n
def ck_w (n : Nat) (l : ck_L) : Prop := ck_wT n l.2
theorem ck_wT_cons {n i : Nat} {c : Int} {t : List (Nat × Int)} (hi : i < n) (h : ck_wT n t) : ck_wT n (ck_cons i c t) := by
  unfold ck_cons
  split
  · exact h
  · intro q hq
    rcases List.mem_cons.mp hq with rfl | hq
    · exact hi
    · exact h q hq
theorem ck_wT_ins {n i : Nat} {c : Int} {t : List (Nat × Int)} (hi : i < n) (h : ck_wT n t) : ck_wT n (ck_ins i c t) := by
  induction t with
  | nil => exact ck_wT_cons hi h
  | cons q t ih =>
    have ht : ck_wT n t := fun r hr => h r (List.mem_cons_of_mem _ hr)
    unfold ck_ins
    split
    · exact ck_wT_cons hi ht
    · split
      · exact ck_wT_cons hi h
      · intro r hr
        rcases List.mem_cons.mp hr with rfl | hr
        · exact h _ List.mem_cons_self
        · exact ih ht r hr
theorem ck_wT_add {n : Nat} {a b : List (Nat × Int)} (ha : ck_wT n a) (hb : ck_wT n b) : ck_wT n (ck_addT a b) := by
  induction a with
  | nil => exact hb
  | cons q a ih => exact ck_wT_ins (ha q List.mem_cons_self) (ih (fun r hr => ha r (List.mem_cons_of_mem _ hr)))
theorem ck_wT_mul {n : Nat} {k : Int} {a : List (Nat × Int)} (ha : ck_wT n a) : ck_wT n (ck_mulT k a) := by
  induction a with
  | nil => exact ha
  | cons q a ih =>
    intro r hr
    rcases List.mem_cons.mp hr with rfl | hr
    · exact ha q List.mem_cons_self
    · exact ih (fun r hr => ha r (List.mem_cons_of_mem _ hr)) r hr
theorem ck_w_add {n : Nat} {a b : ck_L} (ha : ck_w n a) (hb : ck_w n b) : ck_w n (ck_add a b) := ck_wT_add ha hb
theorem ck_w_c {n : Nat} {k : Int} : ck_w n (ck_c k) := fun q hq => absurd hq List.not_mem_nil
theorem ck_w_mul {n : Nat} {k : Int} {a : ck_L} (ha : ck_w n a) : ck_w n (ck_mul k a) := by
  unfold ck_mul
  split
  · exact ck_w_c (k := 0)
  · exact ck_wT_mul ha
theorem ck_w_sub {n : Nat} {a b : ck_L} (ha : ck_w n a) (hb : ck_w n b) : ck_w n (ck_sub a b) := ck_w_add ha (ck_w_mul hb)
theorem ck_w_x {n i : Nat} (h : i < n) : ck_w n (ck_x i) := fun q hq => by
  rw [List.mem_singleton.mp hq]; exact h
theorem ck_w_ac {n : Nat} {a : ck_L} {k : Int} (ha : ck_w n a) : ck_w n (ck_ac a k) := ha
theorem ck_w_up {n m : Nat} {a : ck_L} (h : n ≤ m) (ha : ck_w n a) : ck_w m a := fun q hq => Nat.lt_of_lt_of_le (ha q hq) h
/-- two valuations that agree below n -/
def ck_ag (n : Nat) (σ σ' : Nat → Int) : Prop := ∀ i, i < n → σ' i = σ i
theorem ck_ag_rf {n : Nat} : ck_ag n σ σ := fun _ _ => rfl
theorem ck_ag_tr {n : Nat} {σ'' : Nat → Int} (h1 : ck_ag n σ σ') (h2 : ck_ag n σ' σ'') : ck_ag n σ σ'' := fun i hi => (h2 i hi).trans (h1 i hi)
theorem ck_ag_le {n m : Nat} (h : n ≤ m) (h1 : ck_ag m σ σ') : ck_ag n σ σ' := fun i hi => h1 i (Nat.lt_of_lt_of_le hi h)
theorem ck_ag_up {n m : Nat} {v : Int} (h : n ≤ m) : ck_ag n σ (va_up σ m v) := fun i hi => va_up_ne _ _ (Nat.ne_of_lt (Nat.lt_of_lt_of_le hi h))
theorem ck_ts_ag {n : Nat} {t : List (Nat × Int)} (h : ck_ag n σ σ') (ht : ck_wT n t) : ck_ts σ' t = ck_ts σ t := by
  induction t with
  | nil => rfl
  | cons q t ih =>
    show q.2 * σ' q.1 + ck_ts σ' t = q.2 * σ q.1 + ck_ts σ t
    rw [h q.1 (ht q List.mem_cons_self), ih (fun r hr => ht r (List.mem_cons_of_mem _ hr))]
theorem ck_ev_ag {n : Nat} {a : ck_L} (h : ck_ag n σ σ') (ha : ck_w n a) : ck_ev σ' a = ck_ev σ a := by
  show a.1 + ck_ts σ' a.2 = a.1 + ck_ts σ a.2
  rw [ck_ts_ag h ha]
/-- forms put in place of the unknowns -/
def ck_at (τ : List ck_L) (i : Nat) : ck_L := τ.getD i (0, [])
def ck_sbT (τ : List ck_L) : List (Nat × Int) → ck_L → ck_L
  | [], a => a
  | q :: t, a => ck_add (ck_mul q.2 (ck_at τ q.1)) (ck_sbT τ t a)
def ck_sb (τ : List ck_L) (l : ck_L) : ck_L := ck_sbT τ l.2 (l.1, [])
def ck_tv (σ : Nat → Int) (τ : List ck_L) : Nat → Int := fun i => ck_ev σ (ck_at τ i)
theorem ck_sbT_ev (τ : List ck_L) (t : List (Nat × Int)) (a : ck_L) : ck_ev σ (ck_sbT τ t a) = ck_ts (ck_tv σ τ) t + ck_ev σ a := by
  induction t with
  | nil => show ck_ev σ a = 0 + ck_ev σ a; omega
  | cons q t ih =>
    show ck_ev σ (ck_add (ck_mul q.2 (ck_at τ q.1)) (ck_sbT τ t a)) = (q.2 * ck_ev σ (ck_at τ q.1) + ck_ts (ck_tv σ τ) t) + ck_ev σ a
    rw [ck_add_ev, ck_mul_ev, ih]; omega
theorem ck_sb_ev (τ : List ck_L) (l : ck_L) : ck_ev σ (ck_sb τ l) = ck_ev (ck_tv σ τ) l := by
  show ck_ev σ (ck_sbT τ l.2 (l.1, [])) = l.1 + ck_ts (ck_tv σ τ) l.2
  rw [ck_sbT_ev]
  show ck_ts (ck_tv σ τ) l.2 + (l.1 + 0) = _
  omega
theorem ck_w_at {n : Nat} {τ : List ck_L} (h : ∀ a ∈ τ, ck_w n a) (i : Nat) : ck_w n (ck_at τ i) := by
  unfold ck_at
  rw [List.getD_eq_getElem?_getD]
  cases hi : τ[i]? with
  | none => exact ck_w_c (k := 0)
  | some a => exact h a (List.mem_of_getElem? hi)
theorem ck_w_sbT {n : Nat} {τ : List ck_L} (h : ∀ a ∈ τ, ck_w n a) (t : List (Nat × Int)) {a : ck_L} (ha : ck_w n a) : ck_w n (ck_sbT τ t a) := by
  induction t with
  | nil => exact ha
  | cons q t ih => exact ck_w_add (ck_w_mul (ck_w_at h _)) ih
theorem ck_w_sb {n : Nat} {τ : List ck_L} (h : ∀ a ∈ τ, ck_w n a) (l : ck_L) : ck_w n (ck_sb τ l) := ck_w_sbT h l.2 ck_w_c
/-- a list of forms below n, looked at -/
def ck_wb (n : Nat) (l : ck_L) : Bool := l.2.all (fun q => Nat.blt q.1 n)
theorem ck_wb_ok {n : Nat} {l : ck_L} (h : ck_wb n l = true) : ck_w n l := fun q hq => by
  have := List.all_eq_true.mp h q hq
  exact Nat.lt_of_lt_of_le (Nat.lt_succ_self _) (Nat.le_of_ble_eq_true this)
/-! facts and their weighted sums -/
def ck_hs (σ : Nat → Int) (F : List ck_L) : Prop := ∀ f ∈ F, 0 ≤ ck_ev σ f
abbrev ck_K : Type := Nat × List (Nat × Nat)
def ck_sum (F : List ck_L) : List (Nat × Nat) → ck_L
  | [] => (0, [])
  | q :: t => match F[q.1]? with
    | some f => ck_add (ck_mul (q.2 : Int) f) (ck_sum F t)
    | none => ck_sum F t
theorem ck_sum_ev {F : List ck_L} (h : ck_hs σ F) (c : List (Nat × Nat)) : 0 ≤ ck_ev σ (ck_sum F c) := by
  induction c with
  | nil => exact Int.le_refl 0
  | cons q t ih =>
    unfold ck_sum
    cases hf : F[q.1]? with
    | none => exact ih
    | some f =>
      show 0 ≤ ck_ev σ (ck_add (ck_mul (q.2 : Int) f) (ck_sum F t))
      rw [ck_add_ev, ck_mul_ev]
      have h1 := h f (List.mem_of_getElem? hf)
      have h2 : 0 ≤ (q.2 : Int) * ck_ev σ f := Int.mul_nonneg (Int.natCast_nonneg _) h1
      omega
/-- 'g is at least 0' follows from the facts: (d+1) g is a weighted sum of them and a number above -(d+1) -/
def ck_ent (F : List ck_L) (g : ck_L) (c : ck_K) : Bool := match ck_sub (ck_mul ((c.1 : Int) + 1) g) (ck_sum F c.2) with
  | (k, []) => decide (0 < k + ((c.1 : Int) + 1))
  | (_, _ :: _) => false
theorem ck_ent_ok {F : List ck_L} {g : ck_L} {c : ck_K} (h : ck_hs σ F) (he : ck_ent F g c = true) : 0 ≤ ck_ev σ g := by
  unfold ck_ent at he
  have e1 : ck_ev σ (ck_sub (ck_mul ((c.1 : Int) + 1) g) (ck_sum F c.2)) = ((c.1 : Int) + 1) * ck_ev σ g - ck_ev σ (ck_sum F c.2) := by
    rw [ck_sub_ev, ck_mul_ev]
  have h0 := ck_sum_ev h c.2
  revert he e1
  generalize ck_sub (ck_mul ((c.1 : Int) + 1) g) (ck_sum F c.2) = r
  intro he e1
  obtain ⟨k, t⟩ := r
  cases t with
  | cons q t => cases he
  | nil =>
    have hk : 0 < k + ((c.1 : Int) + 1) := of_decide_eq_true he
    have e2 : ck_ev σ (k, []) = k := Int.add_zero k
    rw [e2] at e1
    have hc : (0 : Int) ≤ (c.1 : Int) := Int.natCast_nonneg _
    have h3 : (((c.1 : Int) + 1) * ck_ev σ g) > -((c.1 : Int) + 1) := by omega
    by_cases h4 : 0 ≤ ck_ev σ g
    · exact h4
    · exfalso
      have h5 : ck_ev σ g ≤ -1 := by omega
      have h6 : ((c.1 : Int) + 1) * ck_ev σ g ≤ ((c.1 : Int) + 1) * (-1) := Int.mul_le_mul_of_nonneg_left h5 (by omega)
      omega
end CK1
