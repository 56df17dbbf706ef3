/-! THE CHECKER 3: what the machine's numbers do -/
theorem cn_in32 {z : Int} (h1 : -2147483648 ≤ z) (h2 : z ≤ 2147483647) : z.bmod (2 ^ 32) = z := Int.bmod_eq_of_le (by omega) (by omega)
theorem cn_in64 {z : Int} (h1 : -9223372036854775808 ≤ z) (h2 : z ≤ 9223372036854775807) : z.bmod (2 ^ 64) = z := Int.bmod_eq_of_le (by omega) (by omega)
theorem cn_lo (x : Int32) : -2147483648 ≤ x.toInt := by have := x.le_toInt; omega
theorem cn_hi (x : Int32) : x.toInt ≤ 2147483647 := by have := x.toInt_lt; omega
theorem cn_loL (x : Int64) : -9223372036854775808 ≤ x.toInt := by have := x.le_toInt; omega
theorem cn_hiL (x : Int64) : x.toInt ≤ 9223372036854775807 := by have := x.toInt_lt; omega
theorem cn_bm (x : Int32) : x.toInt.bmod (2 ^ 32) = x.toInt := cn_in32 (cn_lo x) (cn_hi x)
theorem cn_bmL (x : Int64) : x.toInt.bmod (2 ^ 64) = x.toInt := cn_in64 (cn_loL x) (cn_hiL x)
theorem cn_ofInt {z : Int} (h1 : -2147483648 ≤ z) (h2 : z ≤ 2147483647) : (Int32.ofInt z).toInt = z := by
  rw [Int32.toInt_ofInt]; exact cn_in32 h1 h2
theorem cn_nat {x : Int32} (h : 0 ≤ x.toInt) : ∃ k : Nat, k < 2 ^ 31 ∧ x = nI k ∧ x.toInt = (k : Int) := by
  obtain ⟨k, hk, rfl⟩ := nI_of (x := x) (jv_r_nlt h)
  exact ⟨k, hk, rfl, nI_toInt hk⟩
theorem cn_clamp {x : Int32} : x.toNatClampNeg = x.toInt.toNat := rfl
theorem cn_tdiv {x y : Int32} (hy : 1 ≤ y.toInt) : (x / y).toInt = x.toInt.tdiv y.toInt := Int32.toInt_div_of_ne_right x y (fun h => by rw [h] at hy; exact absurd hy (by decide))
theorem cn_tdivL {x y : Int64} (hy : 1 ≤ y.toInt) : (x / y).toInt = x.toInt.tdiv y.toInt := Int64.toInt_div_of_ne_right x y (fun h => by rw [h] at hy; exact absurd hy (by decide))
theorem cn_ne0 {y : Int32} (hy : 1 ≤ y.toInt) : ¬ y = 0 := fun h => by rw [h] at hy; exact absurd hy (by decide)
theorem cn_ne0L {y : Int64} (hy : 1 ≤ y.toInt) : ¬ y = 0 := fun h => by rw [h] at hy; exact absurd hy (by decide)
theorem cn_tm_eq (a b : Int) : a - a.tdiv b * b = a.tmod b := by
  have := Int.tmod_add_mul_tdiv a b
  rw [Int.mul_comm] at this
  omega
theorem cn_tm_lt {a b : Int} (hb : 1 ≤ b) : -b < a.tmod b ∧ a.tmod b < b := by
  refine ⟨?_, Int.tmod_lt_of_pos a (by omega)⟩
  by_cases h : 0 ≤ a
  · have := Int.tmod_nonneg b h; omega
  · have h1 := Int.tmod_lt_of_pos (-a) (b := b) (by omega)
    rw [Int.neg_tmod] at h1; omega
theorem cn_tm_nn {a b : Int} (ha : 0 ≤ a) (hb : 1 ≤ b) : 0 ≤ a.tmod b ∧ a.tmod b ≤ a := by
  refine ⟨Int.tmod_nonneg b ha, ?_⟩
  rw [Int.tmod_eq_emod_of_nonneg ha]
  have h1 := Int.mul_ediv_add_emod a b
  have h2 : 0 ≤ b * (a / b) := Int.mul_nonneg (by omega) (Int.ediv_nonneg ha (by omega))
  omega
theorem cn_tm_np {a b : Int} (ha : a ≤ 0) : a.tmod b ≤ 0 := by
  have h := Int.tmod_nonneg b (a := -a) (by omega)
  rw [Int.neg_tmod] at h
  omega
theorem cn_td_nn {a b : Int} (ha : 0 ≤ a) (hb : 1 ≤ b) : 0 ≤ a.tdiv b ∧ b * a.tdiv b ≤ a ∧ a ≤ b * a.tdiv b + (b - 1) ∧ a.tdiv b ≤ a := by
  rw [Int.tdiv_eq_ediv_of_nonneg ha]
  have h1 := Int.ediv_nonneg ha (show (0 : Int) ≤ b by omega)
  have h2 := Int.mul_ediv_add_emod a b
  have h3 := Int.emod_nonneg a (show b ≠ 0 by omega)
  have h4 := Int.emod_lt_of_pos a (show 0 < b by omega)
  have h5 : 1 * (a / b) ≤ b * (a / b) := Int.mul_le_mul_of_nonneg_right hb h1
  omega
theorem cn_rem {x y : Int32} (hy : 1 ≤ y.toInt) : (x - x / y * y).toInt = x.toInt.tmod y.toInt := by
  rw [Int32.toInt_sub, Int32.toInt_mul, cn_tdiv hy, Int.sub_bmod_bmod, cn_tm_eq]
  have h := cn_tm_lt (a := x.toInt) hy
  have h1 := cn_hi y
  exact cn_in32 (by omega) (by omega)
theorem cn_remL {x y : Int64} (hy : 1 ≤ y.toInt) : (x - x / y * y).toInt = x.toInt.tmod y.toInt := by
  rw [Int64.toInt_sub, Int64.toInt_mul, cn_tdivL hy, Int.sub_bmod_bmod, cn_tm_eq]
  have h := cn_tm_lt (a := x.toInt) hy
  have h1 := cn_hiL y
  exact cn_in64 (by omega) (by omega)
theorem cn_any (x : Int32) : ∃ n, n < 2 ^ 32 ∧ x = nI n := ⟨x.toBitVec.toNat, x.toBitVec.isLt, Int32.toBitVec_inj.mp (by show _ = BitVec.ofNat 32 _; simp)⟩
theorem cn_andN (a b : Nat) : nI a &&& nI b = nI (a &&& b) := by
  apply Int32.toBitVec_inj.mp
  rw [Int32.toBitVec_and]
  show BitVec.ofNat 32 a &&& BitVec.ofNat 32 b = BitVec.ofNat 32 (a &&& b)
  exact (BitVec.ofNat_and).symm
theorem cn_orN (a b : Nat) : nI a ||| nI b = nI (a ||| b) := by
  apply Int32.toBitVec_inj.mp
  rw [Int32.toBitVec_or]
  show BitVec.ofNat 32 a ||| BitVec.ofNat 32 b = BitVec.ofNat 32 (a ||| b)
  exact (BitVec.ofNat_or).symm
theorem cn_and {x y : Int32} (hy : 0 ≤ y.toInt) : 0 ≤ (x &&& y).toInt ∧ (x &&& y).toInt ≤ y.toInt := by
  obtain ⟨n, hn, rfl⟩ := cn_any x
  obtain ⟨m, hm, rfl, e⟩ := cn_nat hy
  rw [cn_andN, e, nI_toInt (Nat.lt_of_le_of_lt Nat.and_le_right hm)]
  exact ⟨Int.natCast_nonneg _, Int.ofNat_le.mpr Nat.and_le_right⟩
theorem cn_and2 {x y : Int32} (hx : 0 ≤ x.toInt) : 0 ≤ (x &&& y).toInt ∧ (x &&& y).toInt ≤ x.toInt := by
  obtain ⟨n, hn, rfl⟩ := cn_any y
  obtain ⟨m, hm, rfl, e⟩ := cn_nat hx
  rw [cn_andN, e, nI_toInt (Nat.lt_of_le_of_lt Nat.and_le_left hm)]
  exact ⟨Int.natCast_nonneg _, Int.ofNat_le.mpr Nat.and_le_left⟩
theorem cn_or {x y : Int32} {k : Nat} (hk : k ≤ 31) (hx : 0 ≤ x.toInt) (hx2 : x.toInt ≤ 2 ^ k - 1) (hy : 0 ≤ y.toInt) (hy2 : y.toInt ≤ 2 ^ k - 1) : 0 ≤ (x ||| y).toInt ∧ (x ||| y).toInt ≤ 2 ^ k - 1 := by
  obtain ⟨n, hn, rfl, e1⟩ := cn_nat hx
  obtain ⟨m, hm, rfl, e2⟩ := cn_nat hy
  have hp : (2 : Int) ^ k = ((2 ^ k : Nat) : Int) := by rw [Int.natCast_pow]; rfl
  rw [e1, hp] at hx2
  rw [e2, hp] at hy2
  have h1 : n < 2 ^ k := by omega
  have h2 : m < 2 ^ k := by omega
  have h3 := Nat.or_lt_two_pow h1 h2
  have h4 : (2 : Nat) ^ k ≤ 2 ^ 31 := Nat.pow_le_pow_right (by decide) hk
  rw [cn_orN, nI_toInt (Nat.lt_of_lt_of_le h3 h4), hp]
  omega
theorem cn_sl : ∀ n, n < 32 → ((nI n &&& 31).toBitVec.smod 32).toNat = n := by decide +kernel
theorem cn_shl {x : Int32} {c : Nat} (hc : c < 32) : (x <<< (nI c &&& 31)).toInt = (2 ^ c * x.toInt).bmod (2 ^ 32) := by
  show (x.toBitVec <<< ((nI c &&& 31).toBitVec.smod 32)).toInt = _
  rw [BitVec.shiftLeft_eq', cn_sl c hc, BitVec.toInt_shiftLeft, Nat.shiftLeft_eq]
  have e : x.toInt = (x.toBitVec.toNat : Int).bmod (2 ^ 32) := BitVec.toInt_eq_toNat_bmod x.toBitVec
  rw [e, Int.mul_bmod_bmod, Int.natCast_mul, Int.mul_comm, Int.natCast_pow]
  rfl
theorem cn_pw : ∀ c, c < 31 → ((1 : Int32) <<< (nI c &&& 31)).toInt = 2 ^ c := by decide +kernel
theorem cn_shr {x : Int32} {c : Nat} (hc : c < 32) : (x >>> (nI c &&& 31)).toInt = x.toInt / 2 ^ c := by
  show (BitVec.sshiftRight' x.toBitVec ((nI c &&& 31).toBitVec.smod 32)).toInt = _
  show (BitVec.sshiftRight x.toBitVec ((nI c &&& 31).toBitVec.smod 32).toNat).toInt = _
  rw [cn_sl c hc, BitVec.toInt_sshiftRight, Int.shiftRight_eq_div_pow]
  rfl
theorem cn_shr0 {x y : Int32} (hx : 0 ≤ x.toInt) : 0 ≤ (x >>> (y &&& 31)).toInt ∧ (x >>> (y &&& 31)).toInt ≤ x.toInt := by
  have e : (x >>> (y &&& 31)).toInt = x.toInt / 2 ^ ((y &&& 31).toBitVec.smod 32).toNat := by
    show (BitVec.sshiftRight x.toBitVec ((y &&& 31).toBitVec.smod 32).toNat).toInt = _
    rw [BitVec.toInt_sshiftRight, Int.shiftRight_eq_div_pow]
    rfl
  rw [e]
  have hp : (0 : Int) < 2 ^ ((y &&& 31).toBitVec.smod 32).toNat := Int.pow_pos (by decide)
  exact ⟨Int.ediv_nonneg hx (by omega), Int.ediv_le_self _ hx⟩
theorem cn_b (x : Int32) : -128 ≤ x.toInt8.toInt32.toInt ∧ x.toInt8.toInt32.toInt ≤ 127 := by
  rw [Int8.toInt_toInt32]
  have h1 := x.toInt8.le_toInt
  have h2 := x.toInt8.toInt_lt
  omega
theorem cn_s (x : Int32) : -32768 ≤ x.toInt16.toInt32.toInt ∧ x.toInt16.toInt32.toInt ≤ 32767 := by
  rw [Int16.toInt_toInt32]
  have h1 := x.toInt16.le_toInt
  have h2 := x.toInt16.toInt_lt
  omega
theorem cn_l2i {x : Int64} (h1 : -2147483648 ≤ x.toInt) (h2 : x.toInt ≤ 2147483647) : x.toInt32.toInt = x.toInt := by
  rw [Int64.toInt_toInt32]; exact cn_in32 h1 h2
theorem cn_cmp_lt {x y : Int64} : lg_cmp x y < 0 ↔ x.toInt < y.toInt := ⟨jv_lc_lt, fun h => Classical.byContradiction fun q => by have := jv_lc_nlt q; omega⟩
theorem cn_xor {x y : Int32} (hy : 0 ≤ y.toInt) : (x ^^^ y).toInt < 0 ↔ x.toInt < 0 := by
  have h1 : (x ^^^ y).toBitVec.msb = decide ((x ^^^ y).toInt < 0) := BitVec.msb_eq_toInt
  have h2 : x.toBitVec.msb = decide (x.toInt < 0) := BitVec.msb_eq_toInt
  have h3 : y.toBitVec.msb = decide (y.toInt < 0) := BitVec.msb_eq_toInt
  have h4 : decide (y.toInt < 0) = false := decide_eq_false (by omega)
  rw [Int32.toBitVec_xor, BitVec.msb_xor, h2, h3, h4, Bool.xor_false] at h1
  exact ⟨fun h => of_decide_eq_true (h1.trans (decide_eq_true h)), fun h => of_decide_eq_true (h1.symm.trans (decide_eq_true h))⟩
theorem cn_c (x : Int32) : 0 ≤ (x.toUInt32 % 65536).toInt32.toInt ∧ (x.toUInt32 % 65536).toInt32.toInt ≤ 65535 := by
  have h1 : (x.toUInt32 % 65536).toNat < 65536 := by
    rw [UInt32.toNat_mod]
    exact Nat.mod_lt _ (by decide)
  have h2 : (x.toUInt32 % 65536).toInt32 = nI (x.toUInt32 % 65536).toNat := by
    apply Int32.toBitVec_inj.mp
    show (x.toUInt32 % 65536).toBitVec = BitVec.ofNat 32 (x.toUInt32 % 65536).toBitVec.toNat
    rw [BitVec.ofNat_toNat, BitVec.setWidth_eq]
  rw [h2, nI_toInt (by omega)]
  omega
theorem cn_nc {x : Int32} (h0 : 0 ≤ x.toInt) (h1 : x.toInt ≤ 65535) : narrow .char (.int x) = .int x := by
  obtain ⟨k, hk, rfl, e⟩ := cn_nat h0
  have hk2 : k < 65536 := by omega
  show Value.int (nI k).toUInt32.toUInt16.toUInt32.toInt32 = Value.int (nI k)
  congr 1
  apply Int32.toBitVec_inj.mp
  apply BitVec.eq_of_toNat_eq
  have e1 : (nI k).toUInt32.toNat = k % 2 ^ 32 := by
    show (BitVec.ofNat 32 k).toNat = _
    exact BitVec.toNat_ofNat k 32
  show ((nI k).toUInt32.toUInt16.toUInt32).toNat = (nI k).toUInt32.toNat
  rw [UInt16.toNat_toUInt32, UInt32.toNat_toUInt16, e1]
  omega
theorem cn_nb {x : Int32} (h0 : -128 ≤ x.toInt) (h1 : x.toInt ≤ 127) : narrow .byte (.int x) = .int x := by
  show Value.int x.toInt8.toInt32 = Value.int x
  congr 1
  apply Int32.toInt_inj.mp
  rw [Int8.toInt_toInt32, Int32.toInt_toInt8]
  exact Int.bmod_eq_of_le (by omega) (by omega)
