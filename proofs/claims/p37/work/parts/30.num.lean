/-! numbers -/
/-! how many rows there are: the class counts by turns (jw_W), the reference by heights (jw_M) -/
def jw_sum (f : Nat → Nat) : Nat → Nat
  | 0 => 0
  | n + 1 => jw_sum f n + f n
def jw_W (p top : Nat) : Nat → Nat → Int → Nat
  | 0, _, t => if t = 0 then 1 else 0
  | r + 1, s, t => jw_sum (fun h => if s.testBit ((p - (r + 1) + h) % p) then 0 else jw_W p top r (s ||| 2 ^ ((p - (r + 1) + h) % p)) (t - (((p - (r + 1) + h) / p : Nat) : Int))) (top + 1)
def jw_M (p top : Nat) : Nat → Nat → Int → Nat
  | 0, _, t => if t = 0 then 1 else 0
  | r + 1, s, t => jw_sum (fun h => if s.testBit ((p - (r + 1) + h) % p) then 0 else jw_M p top r (s ||| 2 ^ ((p - (r + 1) + h) % p)) (t - (h : Int))) (top + 1)
def jw_D (p s : Nat) : Nat := jw_sum (fun m => if s.testBit m then 0 else m) p
def jw_U (p s : Nat) : Nat := jw_sum (fun m => if s.testBit m then 0 else 1) p
def jw_I (p : Nat) : Nat → Nat
  | 0 => 0
  | r + 1 => jw_I p r + (p - (r + 1))
theorem jw_sum_congr {f g : Nat → Nat} : ∀ {n : Nat}, (∀ k, k < n → f k = g k) → jw_sum f n = jw_sum g n
  | 0, _ => rfl
  | n + 1, h => by rw [jw_sum, jw_sum, jw_sum_congr (fun k hk => h k (by omega)), h n (by omega)]
theorem jw_sum_zero {f : Nat → Nat} : ∀ {n : Nat}, (∀ k, k < n → f k = 0) → jw_sum f n = 0
  | 0, _ => rfl
  | n + 1, h => by rw [jw_sum, jw_sum_zero (fun k hk => h k (by omega)), h n (by omega)]
theorem jw_sum_bd {f : Nat → Nat} {c : Nat} : ∀ {n : Nat}, (∀ k, k < n → f k ≤ c) → jw_sum f n ≤ n * c
  | 0, _ => by simp [jw_sum]
  | n + 1, h => by
    have h1 := jw_sum_bd (n := n) (fun k hk => h k (by omega))
    have h2 := h n (by omega)
    rw [jw_sum, Nat.succ_mul]
    omega
theorem jw_fin : ∀ p, p < 9 → ∀ s, s < 256 → ∀ m, m < p → s.testBit m = false → (s ||| 2 ^ m) < 256 ∧ jw_D p (s ||| 2 ^ m) + m = jw_D p s ∧ jw_U p (s ||| 2 ^ m) + 1 = jw_U p s := by decide +kernel
theorem jw_full : ∀ p, p < 9 → ∀ s, s < 256 → jw_U p s = 0 → jw_D p s = 0 := by decide +kernel
theorem jw_start : ∀ p, p < 9 → jw_U p 0 = p ∧ jw_D p 0 = jw_I p p := by decide +kernel
theorem jw_neg (p top : Nat) : ∀ (r s : Nat) (t : Int), t < 0 → jw_W p top r s t = 0
  | 0, s, t, h => by rw [jw_W, if_neg (by omega)]
  | r + 1, s, t, h => by
    rw [jw_W]
    refine jw_sum_zero (fun k _ => ?_)
    by_cases q : s.testBit ((p - (r + 1) + k) % p) = true
    · rw [if_pos q]
    · rw [if_neg q]
      exact jw_neg p top r _ _ (by have := Int.natCast_nonneg ((p - (r + 1) + k) / p); omega)
theorem jw_Mneg (p top : Nat) : ∀ (r s : Nat) (t : Int), t < 0 → jw_M p top r s t = 0
  | 0, s, t, h => by rw [jw_M, if_neg (by omega)]
  | r + 1, s, t, h => by
    rw [jw_M]
    refine jw_sum_zero (fun k _ => ?_)
    by_cases q : s.testBit ((p - (r + 1) + k) % p) = true
    · rw [if_pos q]
    · rw [if_neg q]
      exact jw_Mneg p top r _ _ (by omega)
theorem jw_bd {p top : Nat} (ht : top ≤ 9) : ∀ (r s : Nat) (t : Int), jw_W p top r s t ≤ 10 ^ r
  | 0, s, t => by
    rw [jw_W]
    by_cases h : t = 0
    · rw [if_pos h]; decide
    · rw [if_neg h]; omega
  | r + 1, s, t => by
    rw [jw_W]
    have h1 := jw_sum_bd (n := top + 1) (c := 10 ^ r) (f := fun h => if s.testBit ((p - (r + 1) + h) % p) then 0 else jw_W p top r (s ||| 2 ^ ((p - (r + 1) + h) % p)) (t - (((p - (r + 1) + h) / p : Nat) : Int))) (fun k _ => by
      by_cases q : s.testBit ((p - (r + 1) + k) % p) = true
      · simp only [q, if_true]; exact Nat.zero_le _
      · simp only [q, if_false]; exact jw_bd ht r _ _)
    have h2 : (top + 1) * 10 ^ r ≤ 10 * 10 ^ r := Nat.mul_le_mul_right _ (by omega)
    have h3 : 10 ^ (r + 1) = 10 * 10 ^ r := by rw [Nat.pow_succ, Nat.mul_comm]
    omega
theorem jw_WM {p top : Nat} (hp0 : 0 < p) (hp : p < 9) : ∀ (r s : Nat) (t : Int), s < 256 → jw_U p s = r → r ≤ p → jw_W p top r s t = jw_M p top r s ((p : Int) * t + (jw_D p s : Int) - (jw_I p r : Int))
  | 0, s, t, hs, hu, _ => by
    rw [jw_W, jw_M, jw_full p hp s hs hu]
    have e : ((p : Int) * t + ((0 : Nat) : Int) - ((jw_I p 0 : Nat) : Int) = 0) ↔ t = 0 := by
      show (p : Int) * t + 0 - 0 = 0 ↔ t = 0
      rw [Int.add_zero, Int.sub_zero, Int.mul_eq_zero]
      constructor
      · intro h
        rcases h with h | h
        · omega
        · exact h
      · exact Or.inr
    by_cases h : t = 0
    · rw [if_pos h, if_pos (e.mpr h)]
    · rw [if_neg h, if_neg (fun q => h (e.mp q))]
  | r + 1, s, t, hs, hu, hr => by
    rw [jw_W, jw_M]
    refine jw_sum_congr (fun k _ => ?_)
    by_cases q : s.testBit ((p - (r + 1) + k) % p) = true
    · rw [if_pos q, if_pos q]
    · rw [if_neg q, if_neg q]
      have hm : (p - (r + 1) + k) % p < p := Nat.mod_lt _ hp0
      obtain ⟨f1, f2, f3⟩ := jw_fin p hp s hs _ hm (by simpa using q)
      rw [jw_WM hp0 hp r _ _ f1 (by omega) (by omega)]
      have hd : (p : Int) * (((p - (r + 1) + k) / p : Nat) : Int) + (((p - (r + 1) + k) % p : Nat) : Int) = ((p - (r + 1) + k : Nat) : Int) := by exact_mod_cast Nat.div_add_mod (p - (r + 1) + k) p
      congr 1
      rw [Int.mul_sub]
      have hi : jw_I p (r + 1) = jw_I p r + (p - (r + 1)) := rfl
      omega
theorem jw_eq {p top b : Nat} (hp0 : 0 < p) (hp : p < 9) : jw_W p top p 0 (b : Int) = jw_M p top p 0 ((p * b : Nat) : Int) := by
  obtain ⟨h1, h2⟩ := jw_start p hp
  rw [jw_WM hp0 hp p 0 b (by decide) h1 (Nat.le_refl _), h2]
  congr 1
  rw [Int.natCast_mul]
  omega

def jb_term (P T k t : Nat) : Nat → Nat := fun h => if k.testBit ((P - jw_U P k + h) % P) then 0 else jw_W P T (jw_U P k - 1) (k ||| 2 ^ ((P - jw_U P k + h) % P)) ((t : Int) - (((P - jw_U P k + h) / P : Nat) : Int))
def jb_I (P T k : Nat) (g : Nat → Int32) : Prop := (∀ s, k ≤ s → s < 2 ^ P → ∀ t, t < 10 → g (s * 10 + t) = nI (jw_W P T (jw_U P s) s (t : Int))) ∧ (∀ s, s < k → ∀ t, t < 10 → g (s * 10 + t) = 0)
def jl_first (F : Nat → Nat) : Nat → Nat → Nat
  | 0, h => h
  | f + 1, h => if F h = 0 then jl_first F f (h + 1) else h
def jl_run (P T b : Nat) : Nat → Nat × Nat × Nat
  | 0 => (0, b, 0)
  | i + 1 => ((jl_run P T b i).1 ||| 2 ^ ((i + jl_first (jb_term P T (jl_run P T b i).1 (jl_run P T b i).2.1) T 0) % P), (jl_run P T b i).2.1 - (i + jl_first (jb_term P T (jl_run P T b i).1 (jl_run P T b i).2.1) T 0) / P, jl_first (jb_term P T (jl_run P T b i).1 (jl_run P T b i).2.1) T 0)
def jr_rows (p b t : Int32) : Int64 := if 1 ≤ p.toInt ∧ p.toInt ≤ 8 ∧ 0 ≤ b.toInt ∧ b.toInt ≤ 9 ∧ 0 ≤ t.toInt ∧ t.toInt ≤ 9 then lN (jw_W p.toInt.toNat t.toInt.toNat p.toInt.toNat 0 b.toInt) else -2
def jr_least (p b t n : Int32) : Int32 := if (1 ≤ p.toInt ∧ p.toInt ≤ 8 ∧ 0 ≤ b.toInt ∧ b.toInt ≤ 9 ∧ 0 ≤ t.toInt ∧ t.toInt ≤ 9) ∧ 0 ≤ n.toInt ∧ n.toInt < p.toInt then (if jw_W p.toInt.toNat t.toInt.toNat p.toInt.toNat 0 b.toInt = 0 then -1 else nI (jl_run p.toInt.toNat t.toInt.toNat b.toInt.toNat (n.toInt.toNat + 1)).2.2) else -2
def jb_ty (u0 u1 : Int32) (g : Nat → Int32) : Prop := ∀ P T : Nat, 1 ≤ P → P < 9 → T < 10 → u0 = nI P → u1 = nI T → jb_I P T 0 g
def jb_po (E E1 : Nat → jv_E) : Prop := E1 = E ∨ ((∀ j, j ≠ 29 → j ≠ 30 → E1 j = E j) ∧ ∃ (P T : Nat) (g : Nat → Int32), 1 ≤ P ∧ P < 9 ∧ T < 10 ∧ E1 29 = .inr (7, [.int (nI P), .int (nI T), .ref 30]) ∧ E1 30 = .inl (0, 2560, .inl g) ∧ jb_I P T 0 g)
