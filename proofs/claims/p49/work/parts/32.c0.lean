/-! THE TABLES of the checker, by program (wip/ck/gen0.py) -/
def ck_nm (o : Nat) : String := match o with
  | 0 => RX0
  | 1 => RX1
  | 2 => RX2
  | 3 => RX3
  | 4 => RX4
  | 5 => RX5
  | 6 => RX6
  | 7 => RX7
  | 8 => RX8
  | 9 => RX9
  | 10 => RJ6
  | 11 => RJ9
  | 12 => RJ7
  | 13 => RJ0
  | 14 => RJ1
  | 15 => RJ3
  | _ => ""
def ck_AW : List Cond := lw_tbl.filter goodWord
theorem ck_aw {w : Cond} (h : w ∈ lw_tbl) (g : goodWord w = true) : w ∈ ck_AW := List.mem_filter.mpr ⟨h, g⟩
theorem aw0 {w : Cond} (h : w ∈ k2_sels lw_privs) (g : goodWord w = true) : w ∈ ck_AW := ck_aw (List.mem_append_left _ h) g
theorem aw1 {w : Cond} (h : w ∈ tables_1_1) (g : goodWord w = true) : w ∈ ck_AW := ck_aw (List.mem_append_right _ (List.mem_append_left _ h)) g
theorem aw2 {w : Cond} (h : w ∈ tables_1_2) (g : goodWord w = true) : w ∈ ck_AW := ck_aw (List.mem_append_right _ (List.mem_append_right _ (List.mem_append_left _ h))) g
theorem aw3 {w : Cond} (h : w ∈ tables_1_3) (g : goodWord w = true) : w ∈ ck_AW := ck_aw (List.mem_append_right _ (List.mem_append_right _ (List.mem_append_right _ (List.mem_append_left _ h)))) g
theorem aw4 {w : Cond} (h : w ∈ tables_1_4) (g : goodWord w = true) : w ∈ ck_AW := ck_aw (List.mem_append_right _ (List.mem_append_right _ (List.mem_append_right _ (List.mem_append_right _ (List.mem_append_left _ h))))) g
theorem aw5 {w : Cond} (h : w ∈ tables_1_5) (g : goodWord w = true) : w ∈ ck_AW := ck_aw (List.mem_append_right _ (List.mem_append_right _ (List.mem_append_right _ (List.mem_append_right _ (List.mem_append_right _ (List.mem_append_left _ h)))))) g
theorem aw6 {w : Cond} (h : w ∈ tables_1_6) (g : goodWord w = true) : w ∈ ck_AW := ck_aw (List.mem_append_right _ (List.mem_append_right _ (List.mem_append_right _ (List.mem_append_right _ (List.mem_append_right _ (List.mem_append_right _ (List.mem_append_left _ h))))))) g
theorem aw7 {w : Cond} (h : w ∈ tables_1_7) (g : goodWord w = true) : w ∈ ck_AW := ck_aw (List.mem_append_right _ (List.mem_append_right _ (List.mem_append_right _ (List.mem_append_right _ (List.mem_append_right _ (List.mem_append_right _ (List.mem_append_right _ (List.mem_append_left _ h)))))))) g
theorem aw8 {w : Cond} (h : w ∈ tables_1_8) (g : goodWord w = true) : w ∈ ck_AW := ck_aw (List.mem_append_right _ (List.mem_append_right _ (List.mem_append_right _ (List.mem_append_right _ (List.mem_append_right _ (List.mem_append_right _ (List.mem_append_right _ (List.mem_append_right _ h)))))))) g
abbrev ck_F : Type := (Int × Int) ⊕ ((Int × Int) ⊕ Nat)
abbrev ck_C : Type := (Nat × List ck_F) ⊕ ((Nat × Nat × List (Int × Int)) ⊕ List Nat)
def ck_CT : List ck_C := [.inl (8, [.inr (.inr 1), .inr (.inr 8), .inr (.inr 15), .inr (.inr 16), .inr (.inr 17), .inr (.inr 19), .inr (.inr 22), .inr (.inr 26), .inr (.inr 29), .inr (.inr 31), .inr (.inr 33)]),
  .inl (0, [.inl (0, 6), .inl ((-2147483648), 2147483647), .inl (0, 8), .inl ((-2147483648), 2147483647), .inl ((-2147483648), 2147483647), .inr (.inr 2), .inr (.inr 3), .inr (.inr 4), .inr (.inr 5), .inr (.inr 6), .inr (.inr 7), .inl (0, 1), .inl ((-2147483648), 2147483647), .inl ((-2147483648), 2147483647), .inl ((-2147483648), 2147483647), .inl ((-2147483648), 2147483647)]),
  .inr (.inl (0, 48, [(0, 9)])),
  .inr (.inl (0, 48, [(0, 5)])),
  .inr (.inl (0, 6, [(0, 8)])),
  .inr (.inl (0, 6, [((-2147483648), 2147483647)])),
  .inr (.inl (0, 6, [((-2147483648), 2147483647)])),
  .inr (.inl (0, 24, [(0, 5), (0, 9999), (0, 5)])),
  .inl (0, [.inl (0, 6), .inl ((-2147483648), 2147483647), .inl (0, 8), .inl ((-2147483648), 2147483647), .inl ((-2147483648), 2147483647), .inr (.inr 9), .inr (.inr 10), .inr (.inr 11), .inr (.inr 12), .inr (.inr 13), .inr (.inr 14), .inl (0, 1), .inl ((-2147483648), 2147483647), .inl ((-2147483648), 2147483647), .inl ((-2147483648), 2147483647), .inl ((-2147483648), 2147483647)]),
  .inr (.inl (0, 48, [(0, 9)])),
  .inr (.inl (0, 48, [(0, 5)])),
  .inr (.inl (0, 6, [(0, 8)])),
  .inr (.inl (0, 6, [((-2147483648), 2147483647)])),
  .inr (.inl (0, 6, [((-2147483648), 2147483647)])),
  .inr (.inl (0, 24, [(0, 5), (0, 9999), (0, 5)])),
  .inr (.inr [37, 44, 51]),
  .inr (.inl (2, 3, [(0, 1)])),
  .inl (3, [.inr (.inr 18), .inl (0, 1600), .inl ((-2147483648), 2147483647), .inl ((-2147483648), 2147483647), .inr (.inr 8), .inl (0, 1600), .inl ((-2147483648), 2147483647), .inl (0, 1600), .inl ((-2147483648), 2147483647), .inl ((-2147483648), 2147483647), .inl ((-2147483648), 2147483647), .inl (0, 1)]),
  .inr (.inl (1, 1600, [((-128), 127)])),
  .inl (1, [.inl ((-2147483648), 2147483647), .inl ((-2147483648), 2147483647), .inl ((-2147483648), 2147483647), .inl ((-2147483648), 2147483647), .inl ((-2147483648), 2147483647), .inl ((-2147483648), 2147483647), .inr (.inr 20), .inr (.inr 21)]),
  .inr (.inl (0, 60, [((-2147483648), 2147483647)])),
  .inr (.inl (0, 158, [((-2147483648), 2147483647)])),
  .inl (2, [.inl ((-2147483648), 2147483647), .inl (0, 6), .inl ((-2147483648), 2147483647), .inr (.inr 23), .inl (0, 5), .inl (0, 9999), .inl (0, 5), .inr (.inr 24), .inr (.inr 25)]),
  .inr (.inl (0, 6, [((-2147483648), 2147483647)])),
  .inr (.inl (0, 6, [((-2147483648), 2147483647)])),
  .inr (.inl (0, 576, [((-2147483648), 2147483647)])),
  .inl (5, [.inr (.inr 27), .inr (.inr 28)]),
  .inr (.inl (0, 512, [((-2147483648), 2147483647)])),
  .inr (.inl (0, 512, [(0, 511)])),
  .inl (7, [.inl (0, 8), .inl (0, 9), .inr (.inr 30)]),
  .inr (.inl (0, 2560, [((-2147483648), 2147483647)])),
  .inl (6, [.inl ((-2147483648), 2147483647), .inl ((-2147483648), 2147483647), .inl ((-2147483648), 2147483647), .inl ((-2147483648), 2147483647), .inr (.inr 32)]),
  .inr (.inl (0, 6, [((-2147483648), 2147483647)])),
  .inl (4, [.inr (.inr 34), .inr (.inr 35), .inr (.inr 36)]),
  .inr (.inl (0, 4, [((-2147483648), 2147483647)])),
  .inr (.inl (0, 4, [((-1), 60)])),
  .inr (.inl (3, 240, [((-9223372036854775808), 9223372036854775807)])),
  .inl (0, [.inl (0, 6), .inl ((-2147483648), 2147483647), .inl (0, 8), .inl ((-2147483648), 2147483647), .inl ((-2147483648), 2147483647), .inr (.inr 38), .inr (.inr 39), .inr (.inr 40), .inr (.inr 41), .inr (.inr 42), .inr (.inr 43), .inl (0, 1), .inl ((-2147483648), 2147483647), .inl ((-2147483648), 2147483647), .inl ((-2147483648), 2147483647), .inl ((-2147483648), 2147483647)]),
  .inr (.inl (0, 48, [(0, 9)])),
  .inr (.inl (0, 48, [(0, 5)])),
  .inr (.inl (0, 6, [(0, 8)])),
  .inr (.inl (0, 6, [((-2147483648), 2147483647)])),
  .inr (.inl (0, 6, [((-2147483648), 2147483647)])),
  .inr (.inl (0, 24, [(0, 5), (0, 9999), (0, 5)])),
  .inl (0, [.inl (0, 6), .inl ((-2147483648), 2147483647), .inl (0, 8), .inl ((-2147483648), 2147483647), .inl ((-2147483648), 2147483647), .inr (.inr 45), .inr (.inr 46), .inr (.inr 47), .inr (.inr 48), .inr (.inr 49), .inr (.inr 50), .inl (0, 1), .inl ((-2147483648), 2147483647), .inl ((-2147483648), 2147483647), .inl ((-2147483648), 2147483647), .inl ((-2147483648), 2147483647)]),
  .inr (.inl (0, 48, [(0, 9)])),
  .inr (.inl (0, 48, [(0, 5)])),
  .inr (.inl (0, 6, [(0, 8)])),
  .inr (.inl (0, 6, [((-2147483648), 2147483647)])),
  .inr (.inl (0, 6, [((-2147483648), 2147483647)])),
  .inr (.inl (0, 24, [(0, 5), (0, 9999), (0, 5)])),
  .inl (0, [.inl (0, 6), .inl ((-2147483648), 2147483647), .inl (0, 8), .inl ((-2147483648), 2147483647), .inl ((-2147483648), 2147483647), .inr (.inr 52), .inr (.inr 53), .inr (.inr 54), .inr (.inr 55), .inr (.inr 56), .inr (.inr 57), .inl (0, 1), .inl ((-2147483648), 2147483647), .inl ((-2147483648), 2147483647), .inl ((-2147483648), 2147483647), .inl ((-2147483648), 2147483647)]),
  .inr (.inl (0, 48, [(0, 9)])),
  .inr (.inl (0, 48, [(0, 5)])),
  .inr (.inl (0, 6, [(0, 8)])),
  .inr (.inl (0, 6, [((-2147483648), 2147483647)])),
  .inr (.inl (0, 6, [((-2147483648), 2147483647)])),
  .inr (.inl (0, 24, [(0, 5), (0, 9999), (0, 5)])),
  .inl (9, [.inl ((-2147483648), 2147483647), .inr (.inr 59), .inr (.inr 60), .inr (.inr 61), .inr (.inr 62), .inr (.inr 63), .inl (0, 1600), .inl (0, 1600), .inl ((-2147483648), 2147483647), .inl ((-2147483648), 2147483647), .inl ((-2147483648), 2147483647), .inr (.inl ((-9223372036854775808), 9223372036854775807)), .inl (0, 3), .inl ((-2147483648), 2147483647), .inl ((-2147483648), 2147483647), .inl ((-2147483648), 2147483647), .inr (.inr 64), .inr (.inr 65), .inr (.inr 66), .inr (.inr 67), .inr (.inr 68), .inr (.inr 69), .inr (.inr 70), .inr (.inr 71), .inr (.inr 72), .inr (.inr 73), .inl (0, 1), .inr (.inr 74), .inr (.inr 75), .inr (.inr 76), .inl (0, 5), .inl ((-2147483648), 2147483647), .inr (.inr 77), .inr (.inr 78), .inr (.inr 79), .inl ((-2147483648), 2147483647), .inl ((-2147483648), 2147483647), .inl ((-2147483648), 2147483647), .inr (.inr 80), .inr (.inr 81), .inr (.inr 82), .inr (.inl ((-9223372036854775808), 9223372036854775807)), .inr (.inr 83), .inl ((-2147483648), 2147483647), .inl ((-2147483648), 2147483647), .inl ((-2147483648), 2147483647)]),
  .inr (.inl (0, 4, [((-1), 3)])),
  .inr (.inl (0, 4, [(0, 60)])),
  .inr (.inl (3, 240, [((-9223372036854775808), 9223372036854775807)])),
  .inr (.inl (3, 60, [((-9223372036854775808), 9223372036854775807)])),
  .inr (.inl (1, 1600, [((-128), 127)])),
  .inr (.inl (0, 6, [((-2147483648), 2147483647)])),
  .inr (.inl (0, 6, [(0, 6)])),
  .inr (.inl (0, 36, [((-2147483648), 2147483647)])),
  .inr (.inl (0, 36, [(0, 8)])),
  .inr (.inl (0, 288, [(0, 9)])),
  .inr (.inl (0, 288, [(0, 5)])),
  .inr (.inl (0, 12, [(0, 6), (0, 8)])),
  .inr (.inl (0, 72, [((-2147483648), 2147483647)])),
  .inr (.inl (0, 144, [(0, 5), (0, 9999), (0, 5)])),
  .inr (.inl (0, 12, [((-2147483648), 2147483647)])),
  .inr (.inl (2, 3, [(0, 1)])),
  .inr (.inl (0, 8, [(0, 9)])),
  .inr (.inl (0, 8, [(0, 5)])),
  .inr (.inl (2, 5040, [(0, 1)])),
  .inr (.inl (2, 32400, [(0, 1)])),
  .inr (.inl (0, 32400, [(0, 1000000)])),
  .inr (.inl (0, 100, [((-2147483648), 2147483647)])),
  .inr (.inl (0, 512, [(0, 1000000)])),
  .inr (.inl (3, 18688, [((-9223372036854775808), 9223372036854775807)])),
  .inr (.inl (2, 96, [(0, 1)]))]
/-- the number that stands in a cell at a place -/
def ck_loc (e : jv_E) (i : Int) : Int := match e with
  | .inl q => match q.2.2 with
    | .inl g => (g i.toNat).toInt
    | .inr (.inl g) => (g i.toNat).toInt
    | _ => 0
  | .inr q => match q.2[i.toNat]? with
    | some (.int x) => x.toInt
    | some (.long x) => x.toInt
    | _ => 0
/-- flags: c below 10: city c of the reference has no roofs and no letters, or all its rows have a throw; 10 + c: all its rows have a throw -/
def ck_FL (f : Nat) (E : Nat → jv_E) : Prop := if f < 10 then ((ck_loc (E 65) (f : Int) = 0 ∧ ck_loc (E 70) (2 * (f : Int) + 1) = 0) ∨ ∀ r : Int, 0 ≤ r → r < 6 → 1 ≤ ck_loc (E 67) (6 * (f : Int) + r)) else ∀ r : Int, 0 ≤ r → r < 6 → 1 ≤ ck_loc (E 67) (6 * ((f : Int) - 10) + r)
theorem inA0 : ∀ w ∈ u_ws RX0 TX0 16, w ∈ ck_AW := fun w h => ck_aw (inX0 w h) (List.all_eq_true.mp (by decide +kernel : (u_ws RX0 TX0 16).all goodWord = true) w h)
theorem inA1 : ∀ w ∈ u_ws RX1 TX1 8, w ∈ ck_AW := fun w h => ck_aw (inX1 w h) (List.all_eq_true.mp (by decide +kernel : (u_ws RX1 TX1 8).all goodWord = true) w h)
theorem inA2 : ∀ w ∈ u_ws RX2 TX2 9, w ∈ ck_AW := fun w h => ck_aw (inX2 w h) (List.all_eq_true.mp (by decide +kernel : (u_ws RX2 TX2 9).all goodWord = true) w h)
theorem inA3 : ∀ w ∈ u_ws RX3 TX3 12, w ∈ ck_AW := fun w h => ck_aw (inX3 w h) (List.all_eq_true.mp (by decide +kernel : (u_ws RX3 TX3 12).all goodWord = true) w h)
theorem inA4 : ∀ w ∈ u_ws RX4 TX4 3, w ∈ ck_AW := fun w h => ck_aw (inX4 w h) (List.all_eq_true.mp (by decide +kernel : (u_ws RX4 TX4 3).all goodWord = true) w h)
theorem inA5 : ∀ w ∈ u_ws RX5 TX5 2, w ∈ ck_AW := fun w h => ck_aw (inX5 w h) (List.all_eq_true.mp (by decide +kernel : (u_ws RX5 TX5 2).all goodWord = true) w h)
theorem inA6 : ∀ w ∈ u_ws RX6 TX6 5, w ∈ ck_AW := fun w h => ck_aw (inX6 w h) (List.all_eq_true.mp (by decide +kernel : (u_ws RX6 TX6 5).all goodWord = true) w h)
theorem inA7 : ∀ w ∈ u_ws RX7 TX7 3, w ∈ ck_AW := fun w h => ck_aw (inX7 w h) (List.all_eq_true.mp (by decide +kernel : (u_ws RX7 TX7 3).all goodWord = true) w h)
theorem inA8 : ∀ w ∈ u_ws RX8 TX8 11, w ∈ ck_AW := fun w h => ck_aw (inX8 w h) (List.all_eq_true.mp (by decide +kernel : (u_ws RX8 TX8 11).all goodWord = true) w h)
theorem inA9 : ∀ w ∈ u_ws RX9 TX9 46, w ∈ ck_AW := fun w h => ck_aw (inX9 w h) (List.all_eq_true.mp (by decide +kernel : (u_ws RX9 TX9 46).all goodWord = true) w h)
def ck_fok (q : Nat × Nat × Nat × Nat × Nat) : Prop := ∃ (C0 : String) (T : u_T) (M : Nat), vwCl[q.2.2.1]? = some (C0, T, M) ∧ (∀ w ∈ u_ws C0 T M, w ∈ ck_AW) ∧ q.2.2.2.1 < M ∧ Cond.fieldLink (ck_nm q.1) q.2.1 (T q.2.2.2.1).1 (T q.2.2.2.1).2.1 (T q.2.2.2.1).2.2.1 ∈ ck_AW ∧ (∃ ty0 : Nat → FieldType, (∀ k, k < M → parseFieldDescriptor (T k).2.2.1 = some (ty0 k)) ∧ ∀ a, a < M → ∀ b, b < M → a ≠ b → (T a).2.1 ≠ (T b).2.1) ∧ (q.2.2.2.2 = 0 → (T q.2.2.2.1).2.2.2 = false ∧ parseFieldDescriptor (T q.2.2.2.1).2.2.1 = some .int) ∧ (q.2.2.2.2 = 1 → (T q.2.2.2.1).2.2.2 = false ∧ parseFieldDescriptor (T q.2.2.2.1).2.2.1 = some .boolean) ∧ (q.2.2.2.2 = 2 → (T q.2.2.2.1).2.2.2 = false ∧ parseFieldDescriptor (T q.2.2.2.1).2.2.1 = some .long)
theorem fo0 : ck_fok (0, 9, 0, 5, 3) := ⟨RX0, TX0, 16, rfl, inA0, by decide, (aw1 (List.mem_of_getElem? (i := 53) rfl) rfl), ⟨tyX0, tyX0_ok, nmX0⟩, (fun h => absurd h (by decide)), (fun h => absurd h (by decide)), (fun h => absurd h (by decide))⟩
theorem fo1 : ck_fok (0, 15, 0, 6, 3) := ⟨RX0, TX0, 16, rfl, inA0, by decide, (aw1 (List.mem_of_getElem? (i := 54) rfl) rfl), ⟨tyX0, tyX0_ok, nmX0⟩, (fun h => absurd h (by decide)), (fun h => absurd h (by decide)), (fun h => absurd h (by decide))⟩
theorem fo2 : ck_fok (0, 18, 0, 7, 3) := ⟨RX0, TX0, 16, rfl, inA0, by decide, (aw1 (List.mem_of_getElem? (i := 55) rfl) rfl), ⟨tyX0, tyX0_ok, nmX0⟩, (fun h => absurd h (by decide)), (fun h => absurd h (by decide)), (fun h => absurd h (by decide))⟩
theorem fo3 : ck_fok (0, 21, 0, 8, 3) := ⟨RX0, TX0, 16, rfl, inA0, by decide, (aw1 (List.mem_of_getElem? (i := 59) rfl) rfl), ⟨tyX0, tyX0_ok, nmX0⟩, (fun h => absurd h (by decide)), (fun h => absurd h (by decide)), (fun h => absurd h (by decide))⟩
theorem fo4 : ck_fok (0, 24, 0, 9, 3) := ⟨RX0, TX0, 16, rfl, inA0, by decide, (aw1 (List.mem_of_getElem? (i := 61) rfl) rfl), ⟨tyX0, tyX0_ok, nmX0⟩, (fun h => absurd h (by decide)), (fun h => absurd h (by decide)), (fun h => absurd h (by decide))⟩
theorem fo5 : ck_fok (0, 27, 0, 10, 3) := ⟨RX0, TX0, 16, rfl, inA0, by decide, (aw1 (List.mem_of_getElem? (i := 62) rfl) rfl), ⟨tyX0, tyX0_ok, nmX0⟩, (fun h => absurd h (by decide)), (fun h => absurd h (by decide)), (fun h => absurd h (by decide))⟩
theorem fo6 : ck_fok (0, 30, 0, 0, 0) := ⟨RX0, TX0, 16, rfl, inA0, by decide, (aw1 (List.mem_of_getElem? (i := 33) rfl) rfl), ⟨tyX0, tyX0_ok, nmX0⟩, (fun _ => ⟨rfl, rfl⟩), (fun h => absurd h (by decide)), (fun h => absurd h (by decide))⟩
theorem fo7 : ck_fok (0, 34, 0, 1, 0) := ⟨RX0, TX0, 16, rfl, inA0, by decide, (aw1 (List.mem_of_getElem? (i := 39) rfl) rfl), ⟨tyX0, tyX0_ok, nmX0⟩, (fun _ => ⟨rfl, rfl⟩), (fun h => absurd h (by decide)), (fun h => absurd h (by decide))⟩
theorem fo8 : ck_fok (0, 37, 0, 2, 0) := ⟨RX0, TX0, 16, rfl, inA0, by decide, (aw1 (List.mem_of_getElem? (i := 42) rfl) rfl), ⟨tyX0, tyX0_ok, nmX0⟩, (fun _ => ⟨rfl, rfl⟩), (fun h => absurd h (by decide)), (fun h => absurd h (by decide))⟩
theorem fo9 : ck_fok (0, 40, 0, 3, 0) := ⟨RX0, TX0, 16, rfl, inA0, by decide, (aw1 (List.mem_of_getElem? (i := 45) rfl) rfl), ⟨tyX0, tyX0_ok, nmX0⟩, (fun _ => ⟨rfl, rfl⟩), (fun h => absurd h (by decide)), (fun h => absurd h (by decide))⟩
theorem fo10 : ck_fok (0, 43, 0, 4, 0) := ⟨RX0, TX0, 16, rfl, inA0, by decide, (aw1 (List.mem_of_getElem? (i := 50) rfl) rfl), ⟨tyX0, tyX0_ok, nmX0⟩, (fun _ => ⟨rfl, rfl⟩), (fun h => absurd h (by decide)), (fun h => absurd h (by decide))⟩
theorem fo11 : ck_fok (0, 46, 0, 11, 1) := ⟨RX0, TX0, 16, rfl, inA0, by decide, (aw1 (List.mem_of_getElem? (i := 65) rfl) rfl), ⟨tyX0, tyX0_ok, nmX0⟩, (fun h => absurd h (by decide)), (fun _ => ⟨rfl, rfl⟩), (fun h => absurd h (by decide))⟩
theorem fo12 : ck_fok (1, 11, 1, 6, 3) := ⟨RX1, TX1, 8, rfl, inA1, by decide, (aw1 (List.mem_of_getElem? (i := 175) rfl) rfl), ⟨tyX1, tyX1_ok, nmX1⟩, (fun h => absurd h (by decide)), (fun h => absurd h (by decide)), (fun h => absurd h (by decide))⟩
theorem fo13 : ck_fok (1, 15, 1, 7, 3) := ⟨RX1, TX1, 8, rfl, inA1, by decide, (aw1 (List.mem_of_getElem? (i := 176) rfl) rfl), ⟨tyX1, tyX1_ok, nmX1⟩, (fun h => absurd h (by decide)), (fun h => absurd h (by decide)), (fun h => absurd h (by decide))⟩
theorem fo14 : ck_fok (1, 22, 0, 12, 0) := ⟨RX0, TX0, 16, rfl, inA0, by decide, (aw1 (List.mem_of_getElem? (i := 67) rfl) rfl), ⟨tyX0, tyX0_ok, nmX0⟩, (fun _ => ⟨rfl, rfl⟩), (fun h => absurd h (by decide)), (fun h => absurd h (by decide))⟩
theorem fo15 : ck_fok (1, 28, 0, 13, 0) := ⟨RX0, TX0, 16, rfl, inA0, by decide, (aw1 (List.mem_of_getElem? (i := 68) rfl) rfl), ⟨tyX0, tyX0_ok, nmX0⟩, (fun _ => ⟨rfl, rfl⟩), (fun h => absurd h (by decide)), (fun h => absurd h (by decide))⟩
theorem fo16 : ck_fok (1, 31, 0, 11, 1) := ⟨RX0, TX0, 16, rfl, inA0, by decide, (aw1 (List.mem_of_getElem? (i := 66) rfl) rfl), ⟨tyX0, tyX0_ok, nmX0⟩, (fun h => absurd h (by decide)), (fun _ => ⟨rfl, rfl⟩), (fun h => absurd h (by decide))⟩
theorem fo17 : ck_fok (1, 52, 0, 0, 0) := ⟨RX0, TX0, 16, rfl, inA0, by decide, (aw1 (List.mem_of_getElem? (i := 36) rfl) rfl), ⟨tyX0, tyX0_ok, nmX0⟩, (fun _ => ⟨rfl, rfl⟩), (fun h => absurd h (by decide)), (fun h => absurd h (by decide))⟩
theorem fo18 : ck_fok (1, 55, 0, 7, 3) := ⟨RX0, TX0, 16, rfl, inA0, by decide, (aw1 (List.mem_of_getElem? (i := 57) rfl) rfl), ⟨tyX0, tyX0_ok, nmX0⟩, (fun h => absurd h (by decide)), (fun h => absurd h (by decide)), (fun h => absurd h (by decide))⟩
theorem fo19 : ck_fok (1, 73, 0, 14, 0) := ⟨RX0, TX0, 16, rfl, inA0, by decide, (aw1 (List.mem_of_getElem? (i := 70) rfl) rfl), ⟨tyX0, tyX0_ok, nmX0⟩, (fun _ => ⟨rfl, rfl⟩), (fun h => absurd h (by decide)), (fun h => absurd h (by decide))⟩
theorem fo20 : ck_fok (1, 76, 0, 15, 0) := ⟨RX0, TX0, 16, rfl, inA0, by decide, (aw1 (List.mem_of_getElem? (i := 72) rfl) rfl), ⟨tyX0, tyX0_ok, nmX0⟩, (fun _ => ⟨rfl, rfl⟩), (fun h => absurd h (by decide)), (fun h => absurd h (by decide))⟩
theorem fo21 : ck_fok (1, 83, 1, 0, 0) := ⟨RX1, TX1, 8, rfl, inA1, by decide, (aw1 (List.mem_of_getElem? (i := 163) rfl) rfl), ⟨tyX1, tyX1_ok, nmX1⟩, (fun _ => ⟨rfl, rfl⟩), (fun h => absurd h (by decide)), (fun h => absurd h (by decide))⟩
theorem fo22 : ck_fok (1, 86, 1, 1, 0) := ⟨RX1, TX1, 8, rfl, inA1, by decide, (aw1 (List.mem_of_getElem? (i := 165) rfl) rfl), ⟨tyX1, tyX1_ok, nmX1⟩, (fun _ => ⟨rfl, rfl⟩), (fun h => absurd h (by decide)), (fun h => absurd h (by decide))⟩
theorem fo23 : ck_fok (1, 96, 1, 2, 0) := ⟨RX1, TX1, 8, rfl, inA1, by decide, (aw1 (List.mem_of_getElem? (i := 167) rfl) rfl), ⟨tyX1, tyX1_ok, nmX1⟩, (fun _ => ⟨rfl, rfl⟩), (fun h => absurd h (by decide)), (fun h => absurd h (by decide))⟩
theorem fo24 : ck_fok (1, 99, 1, 5, 0) := ⟨RX1, TX1, 8, rfl, inA1, by decide, (aw1 (List.mem_of_getElem? (i := 173) rfl) rfl), ⟨tyX1, tyX1_ok, nmX1⟩, (fun _ => ⟨rfl, rfl⟩), (fun h => absurd h (by decide)), (fun h => absurd h (by decide))⟩
theorem fo25 : ck_fok (1, 106, 1, 3, 0) := ⟨RX1, TX1, 8, rfl, inA1, by decide, (aw1 (List.mem_of_getElem? (i := 169) rfl) rfl), ⟨tyX1, tyX1_ok, nmX1⟩, (fun _ => ⟨rfl, rfl⟩), (fun h => absurd h (by decide)), (fun h => absurd h (by decide))⟩
theorem fo26 : ck_fok (1, 109, 1, 4, 0) := ⟨RX1, TX1, 8, rfl, inA1, by decide, (aw1 (List.mem_of_getElem? (i := 171) rfl) rfl), ⟨tyX1, tyX1_ok, nmX1⟩, (fun _ => ⟨rfl, rfl⟩), (fun h => absurd h (by decide)), (fun h => absurd h (by decide))⟩
theorem fo27 : ck_fok (2, 9, 2, 3, 3) := ⟨RX2, TX2, 9, rfl, inA2, by decide, (aw1 (List.mem_of_getElem? (i := 206) rfl) rfl), ⟨tyX2, tyX2_ok, nmX2⟩, (fun h => absurd h (by decide)), (fun h => absurd h (by decide)), (fun h => absurd h (by decide))⟩
theorem fo28 : ck_fok (2, 15, 2, 7, 3) := ⟨RX2, TX2, 9, rfl, inA2, by decide, (aw1 (List.mem_of_getElem? (i := 211) rfl) rfl), ⟨tyX2, tyX2_ok, nmX2⟩, (fun h => absurd h (by decide)), (fun h => absurd h (by decide)), (fun h => absurd h (by decide))⟩
theorem fo29 : ck_fok (2, 18, 2, 8, 3) := ⟨RX2, TX2, 9, rfl, inA2, by decide, (aw1 (List.mem_of_getElem? (i := 212) rfl) rfl), ⟨tyX2, tyX2_ok, nmX2⟩, (fun h => absurd h (by decide)), (fun h => absurd h (by decide)), (fun h => absurd h (by decide))⟩
theorem fo30 : ck_fok (2, 21, 0, 10, 3) := ⟨RX0, TX0, 16, rfl, inA0, by decide, (aw1 (List.mem_of_getElem? (i := 63) rfl) rfl), ⟨tyX0, tyX0_ok, nmX0⟩, (fun h => absurd h (by decide)), (fun h => absurd h (by decide)), (fun h => absurd h (by decide))⟩
theorem fo31 : ck_fok (2, 26, 2, 4, 0) := ⟨RX2, TX2, 9, rfl, inA2, by decide, (aw1 (List.mem_of_getElem? (i := 208) rfl) rfl), ⟨tyX2, tyX2_ok, nmX2⟩, (fun _ => ⟨rfl, rfl⟩), (fun h => absurd h (by decide)), (fun h => absurd h (by decide))⟩
theorem fo32 : ck_fok (2, 30, 2, 5, 0) := ⟨RX2, TX2, 9, rfl, inA2, by decide, (aw1 (List.mem_of_getElem? (i := 209) rfl) rfl), ⟨tyX2, tyX2_ok, nmX2⟩, (fun _ => ⟨rfl, rfl⟩), (fun h => absurd h (by decide)), (fun h => absurd h (by decide))⟩
theorem fo33 : ck_fok (2, 33, 2, 6, 0) := ⟨RX2, TX2, 9, rfl, inA2, by decide, (aw1 (List.mem_of_getElem? (i := 210) rfl) rfl), ⟨tyX2, tyX2_ok, nmX2⟩, (fun _ => ⟨rfl, rfl⟩), (fun h => absurd h (by decide)), (fun h => absurd h (by decide))⟩
theorem fo34 : ck_fok (2, 40, 2, 1, 0) := ⟨RX2, TX2, 9, rfl, inA2, by decide, (aw1 (List.mem_of_getElem? (i := 202) rfl) rfl), ⟨tyX2, tyX2_ok, nmX2⟩, (fun _ => ⟨rfl, rfl⟩), (fun h => absurd h (by decide)), (fun h => absurd h (by decide))⟩
theorem fo35 : ck_fok (2, 43, 2, 2, 0) := ⟨RX2, TX2, 9, rfl, inA2, by decide, (aw1 (List.mem_of_getElem? (i := 204) rfl) rfl), ⟨tyX2, tyX2_ok, nmX2⟩, (fun _ => ⟨rfl, rfl⟩), (fun h => absurd h (by decide)), (fun h => absurd h (by decide))⟩
theorem fo36 : ck_fok (2, 50, 2, 0, 0) := ⟨RX2, TX2, 9, rfl, inA2, by decide, (aw1 (List.mem_of_getElem? (i := 200) rfl) rfl), ⟨tyX2, tyX2_ok, nmX2⟩, (fun _ => ⟨rfl, rfl⟩), (fun h => absurd h (by decide)), (fun h => absurd h (by decide))⟩
theorem fo37 : ck_fok (2, 67, 0, 0, 0) := ⟨RX0, TX0, 16, rfl, inA0, by decide, (aw1 (List.mem_of_getElem? (i := 35) rfl) rfl), ⟨tyX0, tyX0_ok, nmX0⟩, (fun _ => ⟨rfl, rfl⟩), (fun h => absurd h (by decide)), (fun h => absurd h (by decide))⟩
theorem fo38 : ck_fok (3, 11, 3, 0, 3) := ⟨RX3, TX3, 12, rfl, inA3, by decide, (aw1 (List.mem_of_getElem? (i := 115) rfl) rfl), ⟨tyX3, tyX3_ok, nmX3⟩, (fun h => absurd h (by decide)), (fun h => absurd h (by decide)), (fun h => absurd h (by decide))⟩
theorem fo39 : ck_fok (3, 15, 3, 3, 0) := ⟨RX3, TX3, 12, rfl, inA3, by decide, (aw1 (List.mem_of_getElem? (i := 120) rfl) rfl), ⟨tyX3, tyX3_ok, nmX3⟩, (fun _ => ⟨rfl, rfl⟩), (fun h => absurd h (by decide)), (fun h => absurd h (by decide))⟩
theorem fo40 : ck_fok (3, 19, 3, 4, 3) := ⟨RX3, TX3, 12, rfl, inA3, by decide, (aw1 (List.mem_of_getElem? (i := 122) rfl) rfl), ⟨tyX3, tyX3_ok, nmX3⟩, (fun h => absurd h (by decide)), (fun h => absurd h (by decide)), (fun h => absurd h (by decide))⟩
theorem fo41 : ck_fok (3, 23, 3, 1, 0) := ⟨RX3, TX3, 12, rfl, inA3, by decide, (aw1 (List.mem_of_getElem? (i := 116) rfl) rfl), ⟨tyX3, tyX3_ok, nmX3⟩, (fun _ => ⟨rfl, rfl⟩), (fun h => absurd h (by decide)), (fun h => absurd h (by decide))⟩
theorem fo42 : ck_fok (3, 35, 3, 5, 0) := ⟨RX3, TX3, 12, rfl, inA3, by decide, (aw1 (List.mem_of_getElem? (i := 123) rfl) rfl), ⟨tyX3, tyX3_ok, nmX3⟩, (fun _ => ⟨rfl, rfl⟩), (fun h => absurd h (by decide)), (fun h => absurd h (by decide))⟩
theorem fo43 : ck_fok (3, 38, 3, 10, 0) := ⟨RX3, TX3, 12, rfl, inA3, by decide, (aw1 (List.mem_of_getElem? (i := 128) rfl) rfl), ⟨tyX3, tyX3_ok, nmX3⟩, (fun _ => ⟨rfl, rfl⟩), (fun h => absurd h (by decide)), (fun h => absurd h (by decide))⟩
theorem fo44 : ck_fok (3, 41, 3, 11, 1) := ⟨RX3, TX3, 12, rfl, inA3, by decide, (aw1 (List.mem_of_getElem? (i := 129) rfl) rfl), ⟨tyX3, tyX3_ok, nmX3⟩, (fun h => absurd h (by decide)), (fun _ => ⟨rfl, rfl⟩), (fun h => absurd h (by decide))⟩
theorem fo45 : ck_fok (3, 45, 3, 2, 0) := ⟨RX3, TX3, 12, rfl, inA3, by decide, (aw1 (List.mem_of_getElem? (i := 118) rfl) rfl), ⟨tyX3, tyX3_ok, nmX3⟩, (fun _ => ⟨rfl, rfl⟩), (fun h => absurd h (by decide)), (fun h => absurd h (by decide))⟩
theorem fo46 : ck_fok (3, 51, 3, 6, 0) := ⟨RX3, TX3, 12, rfl, inA3, by decide, (aw1 (List.mem_of_getElem? (i := 124) rfl) rfl), ⟨tyX3, tyX3_ok, nmX3⟩, (fun _ => ⟨rfl, rfl⟩), (fun h => absurd h (by decide)), (fun h => absurd h (by decide))⟩
theorem fo47 : ck_fok (3, 58, 0, 1, 0) := ⟨RX0, TX0, 16, rfl, inA0, by decide, (aw1 (List.mem_of_getElem? (i := 41) rfl) rfl), ⟨tyX0, tyX0_ok, nmX0⟩, (fun _ => ⟨rfl, rfl⟩), (fun h => absurd h (by decide)), (fun h => absurd h (by decide))⟩
theorem fo48 : ck_fok (3, 108, 3, 9, 0) := ⟨RX3, TX3, 12, rfl, inA3, by decide, (aw1 (List.mem_of_getElem? (i := 127) rfl) rfl), ⟨tyX3, tyX3_ok, nmX3⟩, (fun _ => ⟨rfl, rfl⟩), (fun h => absurd h (by decide)), (fun h => absurd h (by decide))⟩
theorem fo49 : ck_fok (3, 136, 3, 8, 0) := ⟨RX3, TX3, 12, rfl, inA3, by decide, (aw1 (List.mem_of_getElem? (i := 126) rfl) rfl), ⟨tyX3, tyX3_ok, nmX3⟩, (fun _ => ⟨rfl, rfl⟩), (fun h => absurd h (by decide)), (fun h => absurd h (by decide))⟩
theorem fo50 : ck_fok (3, 145, 0, 0, 0) := ⟨RX0, TX0, 16, rfl, inA0, by decide, (aw1 (List.mem_of_getElem? (i := 37) rfl) rfl), ⟨tyX0, tyX0_ok, nmX0⟩, (fun _ => ⟨rfl, rfl⟩), (fun h => absurd h (by decide)), (fun h => absurd h (by decide))⟩
theorem fo51 : ck_fok (3, 157, 0, 2, 0) := ⟨RX0, TX0, 16, rfl, inA0, by decide, (aw1 (List.mem_of_getElem? (i := 43) rfl) rfl), ⟨tyX0, tyX0_ok, nmX0⟩, (fun _ => ⟨rfl, rfl⟩), (fun h => absurd h (by decide)), (fun h => absurd h (by decide))⟩
theorem fo52 : ck_fok (3, 168, 0, 3, 0) := ⟨RX0, TX0, 16, rfl, inA0, by decide, (aw1 (List.mem_of_getElem? (i := 47) rfl) rfl), ⟨tyX0, tyX0_ok, nmX0⟩, (fun _ => ⟨rfl, rfl⟩), (fun h => absurd h (by decide)), (fun h => absurd h (by decide))⟩
theorem fo53 : ck_fok (3, 173, 0, 4, 0) := ⟨RX0, TX0, 16, rfl, inA0, by decide, (aw1 (List.mem_of_getElem? (i := 51) rfl) rfl), ⟨tyX0, tyX0_ok, nmX0⟩, (fun _ => ⟨rfl, rfl⟩), (fun h => absurd h (by decide)), (fun h => absurd h (by decide))⟩
theorem fo54 : ck_fok (3, 175, 3, 7, 0) := ⟨RX3, TX3, 12, rfl, inA3, by decide, (aw1 (List.mem_of_getElem? (i := 125) rfl) rfl), ⟨tyX3, tyX3_ok, nmX3⟩, (fun _ => ⟨rfl, rfl⟩), (fun h => absurd h (by decide)), (fun h => absurd h (by decide))⟩
theorem fo55 : ck_fok (4, 11, 4, 0, 3) := ⟨RX4, TX4, 3, rfl, inA4, by decide, (aw2 (List.mem_of_getElem? (i := 55) rfl) rfl), ⟨tyX4, tyX4_ok, nmX4⟩, (fun h => absurd h (by decide)), (fun h => absurd h (by decide)), (fun h => absurd h (by decide))⟩
theorem fo56 : ck_fok (4, 15, 4, 1, 3) := ⟨RX4, TX4, 3, rfl, inA4, by decide, (aw2 (List.mem_of_getElem? (i := 57) rfl) rfl), ⟨tyX4, tyX4_ok, nmX4⟩, (fun h => absurd h (by decide)), (fun h => absurd h (by decide)), (fun h => absurd h (by decide))⟩
theorem fo57 : ck_fok (4, 18, 4, 2, 3) := ⟨RX4, TX4, 3, rfl, inA4, by decide, (aw2 (List.mem_of_getElem? (i := 59) rfl) rfl), ⟨tyX4, tyX4_ok, nmX4⟩, (fun h => absurd h (by decide)), (fun h => absurd h (by decide)), (fun h => absurd h (by decide))⟩
theorem fo58 : ck_fok (5, 11, 5, 0, 3) := ⟨RX5, TX5, 2, rfl, inA5, by decide, (aw1 (List.mem_of_getElem? (i := 238) rfl) rfl), ⟨tyX5, tyX5_ok, nmX5⟩, (fun h => absurd h (by decide)), (fun h => absurd h (by decide)), (fun h => absurd h (by decide))⟩
theorem fo59 : ck_fok (5, 15, 5, 1, 3) := ⟨RX5, TX5, 2, rfl, inA5, by decide, (aw1 (List.mem_of_getElem? (i := 239) rfl) rfl), ⟨tyX5, tyX5_ok, nmX5⟩, (fun h => absurd h (by decide)), (fun h => absurd h (by decide)), (fun h => absurd h (by decide))⟩
theorem fo60 : ck_fok (5, 28, 0, 7, 3) := ⟨RX0, TX0, 16, rfl, inA0, by decide, (aw1 (List.mem_of_getElem? (i := 56) rfl) rfl), ⟨tyX0, tyX0_ok, nmX0⟩, (fun h => absurd h (by decide)), (fun h => absurd h (by decide)), (fun h => absurd h (by decide))⟩
theorem fo61 : ck_fok (6, 9, 6, 4, 3) := ⟨RX6, TX6, 5, rfl, inA6, by decide, (aw2 (List.mem_of_getElem? (i := 34) rfl) rfl), ⟨tyX6, tyX6_ok, nmX6⟩, (fun h => absurd h (by decide)), (fun h => absurd h (by decide)), (fun h => absurd h (by decide))⟩
theorem fo62 : ck_fok (6, 15, 6, 0, 0) := ⟨RX6, TX6, 5, rfl, inA6, by decide, (aw2 (List.mem_of_getElem? (i := 27) rfl) rfl), ⟨tyX6, tyX6_ok, nmX6⟩, (fun _ => ⟨rfl, rfl⟩), (fun h => absurd h (by decide)), (fun h => absurd h (by decide))⟩
theorem fo63 : ck_fok (6, 19, 6, 1, 0) := ⟨RX6, TX6, 5, rfl, inA6, by decide, (aw2 (List.mem_of_getElem? (i := 29) rfl) rfl), ⟨tyX6, tyX6_ok, nmX6⟩, (fun _ => ⟨rfl, rfl⟩), (fun h => absurd h (by decide)), (fun h => absurd h (by decide))⟩
theorem fo64 : ck_fok (6, 22, 6, 2, 0) := ⟨RX6, TX6, 5, rfl, inA6, by decide, (aw2 (List.mem_of_getElem? (i := 31) rfl) rfl), ⟨tyX6, tyX6_ok, nmX6⟩, (fun _ => ⟨rfl, rfl⟩), (fun h => absurd h (by decide)), (fun h => absurd h (by decide))⟩
theorem fo65 : ck_fok (6, 25, 6, 3, 0) := ⟨RX6, TX6, 5, rfl, inA6, by decide, (aw2 (List.mem_of_getElem? (i := 33) rfl) rfl), ⟨tyX6, tyX6_ok, nmX6⟩, (fun _ => ⟨rfl, rfl⟩), (fun h => absurd h (by decide)), (fun h => absurd h (by decide))⟩
theorem fo66 : ck_fok (6, 28, 0, 4, 0) := ⟨RX0, TX0, 16, rfl, inA0, by decide, (aw1 (List.mem_of_getElem? (i := 49) rfl) rfl), ⟨tyX0, tyX0_ok, nmX0⟩, (fun _ => ⟨rfl, rfl⟩), (fun h => absurd h (by decide)), (fun h => absurd h (by decide))⟩
theorem fo67 : ck_fok (6, 37, 0, 0, 0) := ⟨RX0, TX0, 16, rfl, inA0, by decide, (aw1 (List.mem_of_getElem? (i := 34) rfl) rfl), ⟨tyX0, tyX0_ok, nmX0⟩, (fun _ => ⟨rfl, rfl⟩), (fun h => absurd h (by decide)), (fun h => absurd h (by decide))⟩
theorem fo68 : ck_fok (6, 57, 0, 3, 0) := ⟨RX0, TX0, 16, rfl, inA0, by decide, (aw1 (List.mem_of_getElem? (i := 46) rfl) rfl), ⟨tyX0, tyX0_ok, nmX0⟩, (fun _ => ⟨rfl, rfl⟩), (fun h => absurd h (by decide)), (fun h => absurd h (by decide))⟩
theorem fo69 : ck_fok (7, 11, 7, 2, 3) := ⟨RX7, TX7, 3, rfl, inA7, by decide, (aw2 (List.mem_of_getElem? (i := 13) rfl) rfl), ⟨tyX7, tyX7_ok, nmX7⟩, (fun h => absurd h (by decide)), (fun h => absurd h (by decide)), (fun h => absurd h (by decide))⟩
theorem fo70 : ck_fok (7, 23, 7, 0, 0) := ⟨RX7, TX7, 3, rfl, inA7, by decide, (aw2 (List.mem_of_getElem? (i := 11) rfl) rfl), ⟨tyX7, tyX7_ok, nmX7⟩, (fun _ => ⟨rfl, rfl⟩), (fun h => absurd h (by decide)), (fun h => absurd h (by decide))⟩
theorem fo71 : ck_fok (7, 27, 7, 1, 0) := ⟨RX7, TX7, 3, rfl, inA7, by decide, (aw2 (List.mem_of_getElem? (i := 12) rfl) rfl), ⟨tyX7, tyX7_ok, nmX7⟩, (fun _ => ⟨rfl, rfl⟩), (fun h => absurd h (by decide)), (fun h => absurd h (by decide))⟩
theorem fo72 : ck_fok (8, 10, 8, 0, 3) := ⟨RX8, TX8, 11, rfl, inA8, by decide, (aw2 (List.mem_of_getElem? (i := 68) rfl) rfl), ⟨tyX8, tyX8_ok, nmX8⟩, (fun h => absurd h (by decide)), (fun h => absurd h (by decide)), (fun h => absurd h (by decide))⟩
theorem fo73 : ck_fok (8, 16, 8, 1, 3) := ⟨RX8, TX8, 11, rfl, inA8, by decide, (aw2 (List.mem_of_getElem? (i := 69) rfl) rfl), ⟨tyX8, tyX8_ok, nmX8⟩, (fun h => absurd h (by decide)), (fun h => absurd h (by decide)), (fun h => absurd h (by decide))⟩
theorem fo74 : ck_fok (8, 19, 8, 2, 3) := ⟨RX8, TX8, 11, rfl, inA8, by decide, (aw2 (List.mem_of_getElem? (i := 70) rfl) rfl), ⟨tyX8, tyX8_ok, nmX8⟩, (fun h => absurd h (by decide)), (fun h => absurd h (by decide)), (fun h => absurd h (by decide))⟩
theorem fo75 : ck_fok (8, 23, 8, 3, 3) := ⟨RX8, TX8, 11, rfl, inA8, by decide, (aw2 (List.mem_of_getElem? (i := 71) rfl) rfl), ⟨tyX8, tyX8_ok, nmX8⟩, (fun h => absurd h (by decide)), (fun h => absurd h (by decide)), (fun h => absurd h (by decide))⟩
theorem fo76 : ck_fok (8, 32, 8, 4, 3) := ⟨RX8, TX8, 11, rfl, inA8, by decide, (aw2 (List.mem_of_getElem? (i := 72) rfl) rfl), ⟨tyX8, tyX8_ok, nmX8⟩, (fun h => absurd h (by decide)), (fun h => absurd h (by decide)), (fun h => absurd h (by decide))⟩
theorem fo77 : ck_fok (8, 39, 8, 5, 3) := ⟨RX8, TX8, 11, rfl, inA8, by decide, (aw2 (List.mem_of_getElem? (i := 73) rfl) rfl), ⟨tyX8, tyX8_ok, nmX8⟩, (fun h => absurd h (by decide)), (fun h => absurd h (by decide)), (fun h => absurd h (by decide))⟩
theorem fo78 : ck_fok (8, 46, 8, 6, 3) := ⟨RX8, TX8, 11, rfl, inA8, by decide, (aw2 (List.mem_of_getElem? (i := 74) rfl) rfl), ⟨tyX8, tyX8_ok, nmX8⟩, (fun h => absurd h (by decide)), (fun h => absurd h (by decide)), (fun h => absurd h (by decide))⟩
theorem fo79 : ck_fok (8, 53, 8, 7, 3) := ⟨RX8, TX8, 11, rfl, inA8, by decide, (aw2 (List.mem_of_getElem? (i := 75) rfl) rfl), ⟨tyX8, tyX8_ok, nmX8⟩, (fun h => absurd h (by decide)), (fun h => absurd h (by decide)), (fun h => absurd h (by decide))⟩
theorem fo80 : ck_fok (8, 60, 8, 8, 3) := ⟨RX8, TX8, 11, rfl, inA8, by decide, (aw2 (List.mem_of_getElem? (i := 76) rfl) rfl), ⟨tyX8, tyX8_ok, nmX8⟩, (fun h => absurd h (by decide)), (fun h => absurd h (by decide)), (fun h => absurd h (by decide))⟩
theorem fo81 : ck_fok (8, 67, 8, 9, 3) := ⟨RX8, TX8, 11, rfl, inA8, by decide, (aw2 (List.mem_of_getElem? (i := 77) rfl) rfl), ⟨tyX8, tyX8_ok, nmX8⟩, (fun h => absurd h (by decide)), (fun h => absurd h (by decide)), (fun h => absurd h (by decide))⟩
theorem fo82 : ck_fok (8, 74, 8, 10, 3) := ⟨RX8, TX8, 11, rfl, inA8, by decide, (aw2 (List.mem_of_getElem? (i := 78) rfl) rfl), ⟨tyX8, tyX8_ok, nmX8⟩, (fun h => absurd h (by decide)), (fun h => absurd h (by decide)), (fun h => absurd h (by decide))⟩
theorem fo83 : ck_fok (8, 86, 3, 1, 0) := ⟨RX3, TX3, 12, rfl, inA3, by decide, (aw1 (List.mem_of_getElem? (i := 117) rfl) rfl), ⟨tyX3, tyX3_ok, nmX3⟩, (fun _ => ⟨rfl, rfl⟩), (fun h => absurd h (by decide)), (fun h => absurd h (by decide))⟩
theorem fo84 : ck_fok (8, 97, 0, 1, 0) := ⟨RX0, TX0, 16, rfl, inA0, by decide, (aw1 (List.mem_of_getElem? (i := 40) rfl) rfl), ⟨tyX0, tyX0_ok, nmX0⟩, (fun _ => ⟨rfl, rfl⟩), (fun h => absurd h (by decide)), (fun h => absurd h (by decide))⟩
theorem fo85 : ck_fok (8, 100, 3, 2, 0) := ⟨RX3, TX3, 12, rfl, inA3, by decide, (aw1 (List.mem_of_getElem? (i := 119) rfl) rfl), ⟨tyX3, tyX3_ok, nmX3⟩, (fun _ => ⟨rfl, rfl⟩), (fun h => absurd h (by decide)), (fun h => absurd h (by decide))⟩
theorem fo86 : ck_fok (8, 103, 3, 3, 0) := ⟨RX3, TX3, 12, rfl, inA3, by decide, (aw1 (List.mem_of_getElem? (i := 121) rfl) rfl), ⟨tyX3, tyX3_ok, nmX3⟩, (fun _ => ⟨rfl, rfl⟩), (fun h => absurd h (by decide)), (fun h => absurd h (by decide))⟩
theorem fo87 : ck_fok (8, 123, 0, 8, 3) := ⟨RX0, TX0, 16, rfl, inA0, by decide, (aw1 (List.mem_of_getElem? (i := 60) rfl) rfl), ⟨tyX0, tyX0_ok, nmX0⟩, (fun h => absurd h (by decide)), (fun h => absurd h (by decide)), (fun h => absurd h (by decide))⟩
theorem fo88 : ck_fok (8, 127, 0, 7, 3) := ⟨RX0, TX0, 16, rfl, inA0, by decide, (aw1 (List.mem_of_getElem? (i := 58) rfl) rfl), ⟨tyX0, tyX0_ok, nmX0⟩, (fun h => absurd h (by decide)), (fun h => absurd h (by decide)), (fun h => absurd h (by decide))⟩
theorem fo89 : ck_fok (8, 155, 0, 0, 0) := ⟨RX0, TX0, 16, rfl, inA0, by decide, (aw1 (List.mem_of_getElem? (i := 38) rfl) rfl), ⟨tyX0, tyX0_ok, nmX0⟩, (fun _ => ⟨rfl, rfl⟩), (fun h => absurd h (by decide)), (fun h => absurd h (by decide))⟩
theorem fo90 : ck_fok (8, 166, 0, 13, 0) := ⟨RX0, TX0, 16, rfl, inA0, by decide, (aw1 (List.mem_of_getElem? (i := 69) rfl) rfl), ⟨tyX0, tyX0_ok, nmX0⟩, (fun _ => ⟨rfl, rfl⟩), (fun h => absurd h (by decide)), (fun h => absurd h (by decide))⟩
theorem fo91 : ck_fok (8, 169, 0, 14, 0) := ⟨RX0, TX0, 16, rfl, inA0, by decide, (aw1 (List.mem_of_getElem? (i := 71) rfl) rfl), ⟨tyX0, tyX0_ok, nmX0⟩, (fun _ => ⟨rfl, rfl⟩), (fun h => absurd h (by decide)), (fun h => absurd h (by decide))⟩
theorem fo92 : ck_fok (8, 172, 0, 15, 0) := ⟨RX0, TX0, 16, rfl, inA0, by decide, (aw1 (List.mem_of_getElem? (i := 73) rfl) rfl), ⟨tyX0, tyX0_ok, nmX0⟩, (fun _ => ⟨rfl, rfl⟩), (fun h => absurd h (by decide)), (fun h => absurd h (by decide))⟩
theorem fo93 : ck_fok (8, 190, 1, 0, 0) := ⟨RX1, TX1, 8, rfl, inA1, by decide, (aw1 (List.mem_of_getElem? (i := 164) rfl) rfl), ⟨tyX1, tyX1_ok, nmX1⟩, (fun _ => ⟨rfl, rfl⟩), (fun h => absurd h (by decide)), (fun h => absurd h (by decide))⟩
theorem fo94 : ck_fok (8, 193, 1, 1, 0) := ⟨RX1, TX1, 8, rfl, inA1, by decide, (aw1 (List.mem_of_getElem? (i := 166) rfl) rfl), ⟨tyX1, tyX1_ok, nmX1⟩, (fun _ => ⟨rfl, rfl⟩), (fun h => absurd h (by decide)), (fun h => absurd h (by decide))⟩
theorem fo95 : ck_fok (8, 200, 1, 2, 0) := ⟨RX1, TX1, 8, rfl, inA1, by decide, (aw1 (List.mem_of_getElem? (i := 168) rfl) rfl), ⟨tyX1, tyX1_ok, nmX1⟩, (fun _ => ⟨rfl, rfl⟩), (fun h => absurd h (by decide)), (fun h => absurd h (by decide))⟩
theorem fo96 : ck_fok (8, 203, 1, 3, 0) := ⟨RX1, TX1, 8, rfl, inA1, by decide, (aw1 (List.mem_of_getElem? (i := 170) rfl) rfl), ⟨tyX1, tyX1_ok, nmX1⟩, (fun _ => ⟨rfl, rfl⟩), (fun h => absurd h (by decide)), (fun h => absurd h (by decide))⟩
theorem fo97 : ck_fok (8, 206, 1, 4, 0) := ⟨RX1, TX1, 8, rfl, inA1, by decide, (aw1 (List.mem_of_getElem? (i := 172) rfl) rfl), ⟨tyX1, tyX1_ok, nmX1⟩, (fun _ => ⟨rfl, rfl⟩), (fun h => absurd h (by decide)), (fun h => absurd h (by decide))⟩
theorem fo98 : ck_fok (8, 209, 1, 5, 0) := ⟨RX1, TX1, 8, rfl, inA1, by decide, (aw1 (List.mem_of_getElem? (i := 174) rfl) rfl), ⟨tyX1, tyX1_ok, nmX1⟩, (fun _ => ⟨rfl, rfl⟩), (fun h => absurd h (by decide)), (fun h => absurd h (by decide))⟩
theorem fo99 : ck_fok (8, 247, 0, 10, 3) := ⟨RX0, TX0, 16, rfl, inA0, by decide, (aw1 (List.mem_of_getElem? (i := 64) rfl) rfl), ⟨tyX0, tyX0_ok, nmX0⟩, (fun h => absurd h (by decide)), (fun h => absurd h (by decide)), (fun h => absurd h (by decide))⟩
theorem fo100 : ck_fok (8, 254, 2, 0, 0) := ⟨RX2, TX2, 9, rfl, inA2, by decide, (aw1 (List.mem_of_getElem? (i := 201) rfl) rfl), ⟨tyX2, tyX2_ok, nmX2⟩, (fun _ => ⟨rfl, rfl⟩), (fun h => absurd h (by decide)), (fun h => absurd h (by decide))⟩
theorem fo101 : ck_fok (8, 257, 2, 1, 0) := ⟨RX2, TX2, 9, rfl, inA2, by decide, (aw1 (List.mem_of_getElem? (i := 203) rfl) rfl), ⟨tyX2, tyX2_ok, nmX2⟩, (fun _ => ⟨rfl, rfl⟩), (fun h => absurd h (by decide)), (fun h => absurd h (by decide))⟩
theorem fo102 : ck_fok (8, 260, 2, 2, 0) := ⟨RX2, TX2, 9, rfl, inA2, by decide, (aw1 (List.mem_of_getElem? (i := 205) rfl) rfl), ⟨tyX2, tyX2_ok, nmX2⟩, (fun _ => ⟨rfl, rfl⟩), (fun h => absurd h (by decide)), (fun h => absurd h (by decide))⟩
theorem fo103 : ck_fok (8, 263, 2, 3, 3) := ⟨RX2, TX2, 9, rfl, inA2, by decide, (aw1 (List.mem_of_getElem? (i := 207) rfl) rfl), ⟨tyX2, tyX2_ok, nmX2⟩, (fun h => absurd h (by decide)), (fun h => absurd h (by decide)), (fun h => absurd h (by decide))⟩
theorem fo104 : ck_fok (8, 304, 6, 0, 0) := ⟨RX6, TX6, 5, rfl, inA6, by decide, (aw2 (List.mem_of_getElem? (i := 28) rfl) rfl), ⟨tyX6, tyX6_ok, nmX6⟩, (fun _ => ⟨rfl, rfl⟩), (fun h => absurd h (by decide)), (fun h => absurd h (by decide))⟩
theorem fo105 : ck_fok (8, 307, 6, 1, 0) := ⟨RX6, TX6, 5, rfl, inA6, by decide, (aw2 (List.mem_of_getElem? (i := 30) rfl) rfl), ⟨tyX6, tyX6_ok, nmX6⟩, (fun _ => ⟨rfl, rfl⟩), (fun h => absurd h (by decide)), (fun h => absurd h (by decide))⟩
theorem fo106 : ck_fok (8, 310, 6, 2, 0) := ⟨RX6, TX6, 5, rfl, inA6, by decide, (aw2 (List.mem_of_getElem? (i := 32) rfl) rfl), ⟨tyX6, tyX6_ok, nmX6⟩, (fun _ => ⟨rfl, rfl⟩), (fun h => absurd h (by decide)), (fun h => absurd h (by decide))⟩
theorem fo107 : ck_fok (8, 323, 4, 1, 3) := ⟨RX4, TX4, 3, rfl, inA4, by decide, (aw2 (List.mem_of_getElem? (i := 58) rfl) rfl), ⟨tyX4, tyX4_ok, nmX4⟩, (fun h => absurd h (by decide)), (fun h => absurd h (by decide)), (fun h => absurd h (by decide))⟩
theorem fo108 : ck_fok (8, 338, 0, 2, 0) := ⟨RX0, TX0, 16, rfl, inA0, by decide, (aw1 (List.mem_of_getElem? (i := 44) rfl) rfl), ⟨tyX0, tyX0_ok, nmX0⟩, (fun _ => ⟨rfl, rfl⟩), (fun h => absurd h (by decide)), (fun h => absurd h (by decide))⟩
theorem fo109 : ck_fok (8, 345, 0, 3, 0) := ⟨RX0, TX0, 16, rfl, inA0, by decide, (aw1 (List.mem_of_getElem? (i := 48) rfl) rfl), ⟨tyX0, tyX0_ok, nmX0⟩, (fun _ => ⟨rfl, rfl⟩), (fun h => absurd h (by decide)), (fun h => absurd h (by decide))⟩
theorem fo110 : ck_fok (8, 348, 0, 4, 0) := ⟨RX0, TX0, 16, rfl, inA0, by decide, (aw1 (List.mem_of_getElem? (i := 52) rfl) rfl), ⟨tyX0, tyX0_ok, nmX0⟩, (fun _ => ⟨rfl, rfl⟩), (fun h => absurd h (by decide)), (fun h => absurd h (by decide))⟩
theorem fo111 : ck_fok (8, 369, 4, 0, 3) := ⟨RX4, TX4, 3, rfl, inA4, by decide, (aw2 (List.mem_of_getElem? (i := 56) rfl) rfl), ⟨tyX4, tyX4_ok, nmX4⟩, (fun h => absurd h (by decide)), (fun h => absurd h (by decide)), (fun h => absurd h (by decide))⟩
theorem fo112 : ck_fok (9, 7, 9, 1, 3) := ⟨RX9, TX9, 46, rfl, inA9, by decide, (aw5 (List.mem_of_getElem? (i := 169) rfl) rfl), ⟨tyX9, tyX9_ok, nmX9⟩, (fun h => absurd h (by decide)), (fun h => absurd h (by decide)), (fun h => absurd h (by decide))⟩
theorem fo113 : ck_fok (9, 13, 9, 2, 3) := ⟨RX9, TX9, 46, rfl, inA9, by decide, (aw5 (List.mem_of_getElem? (i := 170) rfl) rfl), ⟨tyX9, tyX9_ok, nmX9⟩, (fun h => absurd h (by decide)), (fun h => absurd h (by decide)), (fun h => absurd h (by decide))⟩
theorem fo114 : ck_fok (9, 16, 9, 3, 3) := ⟨RX9, TX9, 46, rfl, inA9, by decide, (aw5 (List.mem_of_getElem? (i := 171) rfl) rfl), ⟨tyX9, tyX9_ok, nmX9⟩, (fun h => absurd h (by decide)), (fun h => absurd h (by decide)), (fun h => absurd h (by decide))⟩
theorem fo115 : ck_fok (9, 20, 9, 4, 3) := ⟨RX9, TX9, 46, rfl, inA9, by decide, (aw5 (List.mem_of_getElem? (i := 172) rfl) rfl), ⟨tyX9, tyX9_ok, nmX9⟩, (fun h => absurd h (by decide)), (fun h => absurd h (by decide)), (fun h => absurd h (by decide))⟩
theorem fo116 : ck_fok (9, 23, 9, 5, 3) := ⟨RX9, TX9, 46, rfl, inA9, by decide, (aw5 (List.mem_of_getElem? (i := 173) rfl) rfl), ⟨tyX9, tyX9_ok, nmX9⟩, (fun h => absurd h (by decide)), (fun h => absurd h (by decide)), (fun h => absurd h (by decide))⟩
theorem fo117 : ck_fok (9, 27, 9, 15, 0) := ⟨RX9, TX9, 46, rfl, inA9, by decide, (aw5 (List.mem_of_getElem? (i := 183) rfl) rfl), ⟨tyX9, tyX9_ok, nmX9⟩, (fun _ => ⟨rfl, rfl⟩), (fun h => absurd h (by decide)), (fun h => absurd h (by decide))⟩
theorem fo118 : ck_fok (9, 31, 9, 16, 3) := ⟨RX9, TX9, 46, rfl, inA9, by decide, (aw5 (List.mem_of_getElem? (i := 184) rfl) rfl), ⟨tyX9, tyX9_ok, nmX9⟩, (fun h => absurd h (by decide)), (fun h => absurd h (by decide)), (fun h => absurd h (by decide))⟩
theorem fo119 : ck_fok (9, 34, 9, 17, 3) := ⟨RX9, TX9, 46, rfl, inA9, by decide, (aw5 (List.mem_of_getElem? (i := 185) rfl) rfl), ⟨tyX9, tyX9_ok, nmX9⟩, (fun h => absurd h (by decide)), (fun h => absurd h (by decide)), (fun h => absurd h (by decide))⟩
theorem fo120 : ck_fok (9, 37, 9, 18, 3) := ⟨RX9, TX9, 46, rfl, inA9, by decide, (aw5 (List.mem_of_getElem? (i := 186) rfl) rfl), ⟨tyX9, tyX9_ok, nmX9⟩, (fun h => absurd h (by decide)), (fun h => absurd h (by decide)), (fun h => absurd h (by decide))⟩
theorem fo121 : ck_fok (9, 40, 9, 19, 3) := ⟨RX9, TX9, 46, rfl, inA9, by decide, (aw5 (List.mem_of_getElem? (i := 187) rfl) rfl), ⟨tyX9, tyX9_ok, nmX9⟩, (fun h => absurd h (by decide)), (fun h => absurd h (by decide)), (fun h => absurd h (by decide))⟩
theorem fo122 : ck_fok (9, 43, 9, 20, 3) := ⟨RX9, TX9, 46, rfl, inA9, by decide, (aw5 (List.mem_of_getElem? (i := 188) rfl) rfl), ⟨tyX9, tyX9_ok, nmX9⟩, (fun h => absurd h (by decide)), (fun h => absurd h (by decide)), (fun h => absurd h (by decide))⟩
theorem fo123 : ck_fok (9, 46, 9, 21, 3) := ⟨RX9, TX9, 46, rfl, inA9, by decide, (aw5 (List.mem_of_getElem? (i := 189) rfl) rfl), ⟨tyX9, tyX9_ok, nmX9⟩, (fun h => absurd h (by decide)), (fun h => absurd h (by decide)), (fun h => absurd h (by decide))⟩
theorem fo124 : ck_fok (9, 49, 9, 22, 3) := ⟨RX9, TX9, 46, rfl, inA9, by decide, (aw5 (List.mem_of_getElem? (i := 190) rfl) rfl), ⟨tyX9, tyX9_ok, nmX9⟩, (fun h => absurd h (by decide)), (fun h => absurd h (by decide)), (fun h => absurd h (by decide))⟩
theorem fo125 : ck_fok (9, 52, 9, 23, 3) := ⟨RX9, TX9, 46, rfl, inA9, by decide, (aw5 (List.mem_of_getElem? (i := 191) rfl) rfl), ⟨tyX9, tyX9_ok, nmX9⟩, (fun h => absurd h (by decide)), (fun h => absurd h (by decide)), (fun h => absurd h (by decide))⟩
theorem fo126 : ck_fok (9, 55, 9, 24, 3) := ⟨RX9, TX9, 46, rfl, inA9, by decide, (aw5 (List.mem_of_getElem? (i := 192) rfl) rfl), ⟨tyX9, tyX9_ok, nmX9⟩, (fun h => absurd h (by decide)), (fun h => absurd h (by decide)), (fun h => absurd h (by decide))⟩
theorem fo127 : ck_fok (9, 58, 9, 25, 3) := ⟨RX9, TX9, 46, rfl, inA9, by decide, (aw5 (List.mem_of_getElem? (i := 193) rfl) rfl), ⟨tyX9, tyX9_ok, nmX9⟩, (fun h => absurd h (by decide)), (fun h => absurd h (by decide)), (fun h => absurd h (by decide))⟩
theorem fo128 : ck_fok (9, 61, 9, 27, 3) := ⟨RX9, TX9, 46, rfl, inA9, by decide, (aw5 (List.mem_of_getElem? (i := 195) rfl) rfl), ⟨tyX9, tyX9_ok, nmX9⟩, (fun h => absurd h (by decide)), (fun h => absurd h (by decide)), (fun h => absurd h (by decide))⟩
theorem fo129 : ck_fok (9, 65, 9, 28, 3) := ⟨RX9, TX9, 46, rfl, inA9, by decide, (aw5 (List.mem_of_getElem? (i := 196) rfl) rfl), ⟨tyX9, tyX9_ok, nmX9⟩, (fun h => absurd h (by decide)), (fun h => absurd h (by decide)), (fun h => absurd h (by decide))⟩
theorem fo130 : ck_fok (9, 68, 9, 29, 3) := ⟨RX9, TX9, 46, rfl, inA9, by decide, (aw5 (List.mem_of_getElem? (i := 197) rfl) rfl), ⟨tyX9, tyX9_ok, nmX9⟩, (fun h => absurd h (by decide)), (fun h => absurd h (by decide)), (fun h => absurd h (by decide))⟩
theorem fo131 : ck_fok (9, 71, 9, 32, 3) := ⟨RX9, TX9, 46, rfl, inA9, by decide, (aw5 (List.mem_of_getElem? (i := 200) rfl) rfl), ⟨tyX9, tyX9_ok, nmX9⟩, (fun h => absurd h (by decide)), (fun h => absurd h (by decide)), (fun h => absurd h (by decide))⟩
theorem fo132 : ck_fok (9, 74, 9, 33, 3) := ⟨RX9, TX9, 46, rfl, inA9, by decide, (aw5 (List.mem_of_getElem? (i := 201) rfl) rfl), ⟨tyX9, tyX9_ok, nmX9⟩, (fun h => absurd h (by decide)), (fun h => absurd h (by decide)), (fun h => absurd h (by decide))⟩
theorem fo133 : ck_fok (9, 77, 9, 34, 3) := ⟨RX9, TX9, 46, rfl, inA9, by decide, (aw5 (List.mem_of_getElem? (i := 202) rfl) rfl), ⟨tyX9, tyX9_ok, nmX9⟩, (fun h => absurd h (by decide)), (fun h => absurd h (by decide)), (fun h => absurd h (by decide))⟩
theorem fo134 : ck_fok (9, 80, 9, 38, 3) := ⟨RX9, TX9, 46, rfl, inA9, by decide, (aw5 (List.mem_of_getElem? (i := 206) rfl) rfl), ⟨tyX9, tyX9_ok, nmX9⟩, (fun h => absurd h (by decide)), (fun h => absurd h (by decide)), (fun h => absurd h (by decide))⟩
theorem fo135 : ck_fok (9, 83, 9, 39, 3) := ⟨RX9, TX9, 46, rfl, inA9, by decide, (aw5 (List.mem_of_getElem? (i := 207) rfl) rfl), ⟨tyX9, tyX9_ok, nmX9⟩, (fun h => absurd h (by decide)), (fun h => absurd h (by decide)), (fun h => absurd h (by decide))⟩
theorem fo136 : ck_fok (9, 86, 9, 40, 3) := ⟨RX9, TX9, 46, rfl, inA9, by decide, (aw5 (List.mem_of_getElem? (i := 208) rfl) rfl), ⟨tyX9, tyX9_ok, nmX9⟩, (fun h => absurd h (by decide)), (fun h => absurd h (by decide)), (fun h => absurd h (by decide))⟩
theorem fo137 : ck_fok (9, 89, 9, 42, 3) := ⟨RX9, TX9, 46, rfl, inA9, by decide, (aw5 (List.mem_of_getElem? (i := 210) rfl) rfl), ⟨tyX9, tyX9_ok, nmX9⟩, (fun h => absurd h (by decide)), (fun h => absurd h (by decide)), (fun h => absurd h (by decide))⟩
theorem fo138 : ck_fok (9, 92, 9, 0, 0) := ⟨RX9, TX9, 46, rfl, inA9, by decide, (aw5 (List.mem_of_getElem? (i := 168) rfl) rfl), ⟨tyX9, tyX9_ok, nmX9⟩, (fun _ => ⟨rfl, rfl⟩), (fun h => absurd h (by decide)), (fun h => absurd h (by decide))⟩
theorem fo139 : ck_fok (9, 109, 9, 6, 0) := ⟨RX9, TX9, 46, rfl, inA9, by decide, (aw5 (List.mem_of_getElem? (i := 174) rfl) rfl), ⟨tyX9, tyX9_ok, nmX9⟩, (fun _ => ⟨rfl, rfl⟩), (fun h => absurd h (by decide)), (fun h => absurd h (by decide))⟩
theorem fo140 : ck_fok (9, 116, 9, 7, 0) := ⟨RX9, TX9, 46, rfl, inA9, by decide, (aw5 (List.mem_of_getElem? (i := 175) rfl) rfl), ⟨tyX9, tyX9_ok, nmX9⟩, (fun _ => ⟨rfl, rfl⟩), (fun h => absurd h (by decide)), (fun h => absurd h (by decide))⟩
theorem fo141 : ck_fok (9, 123, 9, 9, 0) := ⟨RX9, TX9, 46, rfl, inA9, by decide, (aw5 (List.mem_of_getElem? (i := 177) rfl) rfl), ⟨tyX9, tyX9_ok, nmX9⟩, (fun _ => ⟨rfl, rfl⟩), (fun h => absurd h (by decide)), (fun h => absurd h (by decide))⟩
theorem fo142 : ck_fok (9, 126, 9, 10, 0) := ⟨RX9, TX9, 46, rfl, inA9, by decide, (aw5 (List.mem_of_getElem? (i := 178) rfl) rfl), ⟨tyX9, tyX9_ok, nmX9⟩, (fun _ => ⟨rfl, rfl⟩), (fun h => absurd h (by decide)), (fun h => absurd h (by decide))⟩
theorem fo143 : ck_fok (9, 129, 9, 11, 2) := ⟨RX9, TX9, 46, rfl, inA9, by decide, (aw5 (List.mem_of_getElem? (i := 179) rfl) rfl), ⟨tyX9, tyX9_ok, nmX9⟩, (fun h => absurd h (by decide)), (fun h => absurd h (by decide)), (fun _ => ⟨rfl, rfl⟩)⟩
theorem fo144 : ck_fok (9, 133, 9, 8, 0) := ⟨RX9, TX9, 46, rfl, inA9, by decide, (aw5 (List.mem_of_getElem? (i := 176) rfl) rfl), ⟨tyX9, tyX9_ok, nmX9⟩, (fun _ => ⟨rfl, rfl⟩), (fun h => absurd h (by decide)), (fun h => absurd h (by decide))⟩
theorem fo145 : ck_fok (9, 144, 9, 12, 0) := ⟨RX9, TX9, 46, rfl, inA9, by decide, (aw5 (List.mem_of_getElem? (i := 180) rfl) rfl), ⟨tyX9, tyX9_ok, nmX9⟩, (fun _ => ⟨rfl, rfl⟩), (fun h => absurd h (by decide)), (fun h => absurd h (by decide))⟩
theorem fo146 : ck_fok (9, 147, 9, 13, 0) := ⟨RX9, TX9, 46, rfl, inA9, by decide, (aw5 (List.mem_of_getElem? (i := 181) rfl) rfl), ⟨tyX9, tyX9_ok, nmX9⟩, (fun _ => ⟨rfl, rfl⟩), (fun h => absurd h (by decide)), (fun h => absurd h (by decide))⟩
theorem fo147 : ck_fok (9, 171, 9, 14, 0) := ⟨RX9, TX9, 46, rfl, inA9, by decide, (aw5 (List.mem_of_getElem? (i := 182) rfl) rfl), ⟨tyX9, tyX9_ok, nmX9⟩, (fun _ => ⟨rfl, rfl⟩), (fun h => absurd h (by decide)), (fun h => absurd h (by decide))⟩
theorem fo148 : ck_fok (9, 188, 9, 26, 1) := ⟨RX9, TX9, 46, rfl, inA9, by decide, (aw5 (List.mem_of_getElem? (i := 194) rfl) rfl), ⟨tyX9, tyX9_ok, nmX9⟩, (fun h => absurd h (by decide)), (fun _ => ⟨rfl, rfl⟩), (fun h => absurd h (by decide))⟩
theorem fo149 : ck_fok (9, 292, 9, 30, 0) := ⟨RX9, TX9, 46, rfl, inA9, by decide, (aw5 (List.mem_of_getElem? (i := 198) rfl) rfl), ⟨tyX9, tyX9_ok, nmX9⟩, (fun _ => ⟨rfl, rfl⟩), (fun h => absurd h (by decide)), (fun h => absurd h (by decide))⟩
theorem fo150 : ck_fok (9, 295, 9, 31, 0) := ⟨RX9, TX9, 46, rfl, inA9, by decide, (aw5 (List.mem_of_getElem? (i := 199) rfl) rfl), ⟨tyX9, tyX9_ok, nmX9⟩, (fun _ => ⟨rfl, rfl⟩), (fun h => absurd h (by decide)), (fun h => absurd h (by decide))⟩
theorem fo151 : ck_fok (9, 331, 9, 35, 0) := ⟨RX9, TX9, 46, rfl, inA9, by decide, (aw5 (List.mem_of_getElem? (i := 203) rfl) rfl), ⟨tyX9, tyX9_ok, nmX9⟩, (fun _ => ⟨rfl, rfl⟩), (fun h => absurd h (by decide)), (fun h => absurd h (by decide))⟩
theorem fo152 : ck_fok (9, 334, 9, 37, 0) := ⟨RX9, TX9, 46, rfl, inA9, by decide, (aw5 (List.mem_of_getElem? (i := 205) rfl) rfl), ⟨tyX9, tyX9_ok, nmX9⟩, (fun _ => ⟨rfl, rfl⟩), (fun h => absurd h (by decide)), (fun h => absurd h (by decide))⟩
theorem fo153 : ck_fok (9, 337, 9, 36, 0) := ⟨RX9, TX9, 46, rfl, inA9, by decide, (aw5 (List.mem_of_getElem? (i := 204) rfl) rfl), ⟨tyX9, tyX9_ok, nmX9⟩, (fun _ => ⟨rfl, rfl⟩), (fun h => absurd h (by decide)), (fun h => absurd h (by decide))⟩
theorem fo154 : ck_fok (9, 379, 9, 41, 2) := ⟨RX9, TX9, 46, rfl, inA9, by decide, (aw5 (List.mem_of_getElem? (i := 209) rfl) rfl), ⟨tyX9, tyX9_ok, nmX9⟩, (fun h => absurd h (by decide)), (fun h => absurd h (by decide)), (fun _ => ⟨rfl, rfl⟩)⟩
theorem fo155 : ck_fok (9, 382, 9, 43, 0) := ⟨RX9, TX9, 46, rfl, inA9, by decide, (aw5 (List.mem_of_getElem? (i := 211) rfl) rfl), ⟨tyX9, tyX9_ok, nmX9⟩, (fun _ => ⟨rfl, rfl⟩), (fun h => absurd h (by decide)), (fun h => absurd h (by decide))⟩
theorem fo156 : ck_fok (9, 385, 9, 44, 0) := ⟨RX9, TX9, 46, rfl, inA9, by decide, (aw5 (List.mem_of_getElem? (i := 212) rfl) rfl), ⟨tyX9, tyX9_ok, nmX9⟩, (fun _ => ⟨rfl, rfl⟩), (fun h => absurd h (by decide)), (fun h => absurd h (by decide))⟩
theorem fo157 : ck_fok (9, 388, 9, 45, 0) := ⟨RX9, TX9, 46, rfl, inA9, by decide, (aw5 (List.mem_of_getElem? (i := 213) rfl) rfl), ⟨tyX9, tyX9_ok, nmX9⟩, (fun _ => ⟨rfl, rfl⟩), (fun h => absurd h (by decide)), (fun h => absurd h (by decide))⟩
def ck_FT_0 : List (Nat × Nat × Nat × Nat × Nat) := [(0, 9, 0, 5, 3), (0, 15, 0, 6, 3), (0, 18, 0, 7, 3), (0, 21, 0, 8, 3), (0, 24, 0, 9, 3), (0, 27, 0, 10, 3), (0, 30, 0, 0, 0), (0, 34, 0, 1, 0), (0, 37, 0, 2, 0), (0, 40, 0, 3, 0), (0, 43, 0, 4, 0), (0, 46, 0, 11, 1), (1, 11, 1, 6, 3), (1, 15, 1, 7, 3), (1, 22, 0, 12, 0), (1, 28, 0, 13, 0), (1, 31, 0, 11, 1), (1, 52, 0, 0, 0), (1, 55, 0, 7, 3), (1, 73, 0, 14, 0), (1, 76, 0, 15, 0), (1, 83, 1, 0, 0), (1, 86, 1, 1, 0), (1, 96, 1, 2, 0), (1, 99, 1, 5, 0)]
theorem ck_FT_0_ok : ∀ q ∈ ck_FT_0, ck_fok q := (List.forall_mem_cons.mpr ⟨fo0, (List.forall_mem_cons.mpr ⟨fo1, (List.forall_mem_cons.mpr ⟨fo2, (List.forall_mem_cons.mpr ⟨fo3, (List.forall_mem_cons.mpr ⟨fo4, (List.forall_mem_cons.mpr ⟨fo5, (List.forall_mem_cons.mpr ⟨fo6, (List.forall_mem_cons.mpr ⟨fo7, (List.forall_mem_cons.mpr ⟨fo8, (List.forall_mem_cons.mpr ⟨fo9, (List.forall_mem_cons.mpr ⟨fo10, (List.forall_mem_cons.mpr ⟨fo11, (List.forall_mem_cons.mpr ⟨fo12, (List.forall_mem_cons.mpr ⟨fo13, (List.forall_mem_cons.mpr ⟨fo14, (List.forall_mem_cons.mpr ⟨fo15, (List.forall_mem_cons.mpr ⟨fo16, (List.forall_mem_cons.mpr ⟨fo17, (List.forall_mem_cons.mpr ⟨fo18, (List.forall_mem_cons.mpr ⟨fo19, (List.forall_mem_cons.mpr ⟨fo20, (List.forall_mem_cons.mpr ⟨fo21, (List.forall_mem_cons.mpr ⟨fo22, (List.forall_mem_cons.mpr ⟨fo23, (List.forall_mem_cons.mpr ⟨fo24, (fun _ h => absurd h List.not_mem_nil)⟩)⟩)⟩)⟩)⟩)⟩)⟩)⟩)⟩)⟩)⟩)⟩)⟩)⟩)⟩)⟩)⟩)⟩)⟩)⟩)⟩)⟩)⟩)⟩)⟩)
def ck_FT_1 : List (Nat × Nat × Nat × Nat × Nat) := [(1, 106, 1, 3, 0), (1, 109, 1, 4, 0), (2, 9, 2, 3, 3), (2, 15, 2, 7, 3), (2, 18, 2, 8, 3), (2, 21, 0, 10, 3), (2, 26, 2, 4, 0), (2, 30, 2, 5, 0), (2, 33, 2, 6, 0), (2, 40, 2, 1, 0), (2, 43, 2, 2, 0), (2, 50, 2, 0, 0), (2, 67, 0, 0, 0), (3, 11, 3, 0, 3), (3, 15, 3, 3, 0), (3, 19, 3, 4, 3), (3, 23, 3, 1, 0), (3, 35, 3, 5, 0), (3, 38, 3, 10, 0), (3, 41, 3, 11, 1), (3, 45, 3, 2, 0), (3, 51, 3, 6, 0), (3, 58, 0, 1, 0), (3, 108, 3, 9, 0), (3, 136, 3, 8, 0)]
theorem ck_FT_1_ok : ∀ q ∈ ck_FT_1, ck_fok q := (List.forall_mem_cons.mpr ⟨fo25, (List.forall_mem_cons.mpr ⟨fo26, (List.forall_mem_cons.mpr ⟨fo27, (List.forall_mem_cons.mpr ⟨fo28, (List.forall_mem_cons.mpr ⟨fo29, (List.forall_mem_cons.mpr ⟨fo30, (List.forall_mem_cons.mpr ⟨fo31, (List.forall_mem_cons.mpr ⟨fo32, (List.forall_mem_cons.mpr ⟨fo33, (List.forall_mem_cons.mpr ⟨fo34, (List.forall_mem_cons.mpr ⟨fo35, (List.forall_mem_cons.mpr ⟨fo36, (List.forall_mem_cons.mpr ⟨fo37, (List.forall_mem_cons.mpr ⟨fo38, (List.forall_mem_cons.mpr ⟨fo39, (List.forall_mem_cons.mpr ⟨fo40, (List.forall_mem_cons.mpr ⟨fo41, (List.forall_mem_cons.mpr ⟨fo42, (List.forall_mem_cons.mpr ⟨fo43, (List.forall_mem_cons.mpr ⟨fo44, (List.forall_mem_cons.mpr ⟨fo45, (List.forall_mem_cons.mpr ⟨fo46, (List.forall_mem_cons.mpr ⟨fo47, (List.forall_mem_cons.mpr ⟨fo48, (List.forall_mem_cons.mpr ⟨fo49, (fun _ h => absurd h List.not_mem_nil)⟩)⟩)⟩)⟩)⟩)⟩)⟩)⟩)⟩)⟩)⟩)⟩)⟩)⟩)⟩)⟩)⟩)⟩)⟩)⟩)⟩)⟩)⟩)⟩)⟩)
def ck_FT_2 : List (Nat × Nat × Nat × Nat × Nat) := [(3, 145, 0, 0, 0), (3, 157, 0, 2, 0), (3, 168, 0, 3, 0), (3, 173, 0, 4, 0), (3, 175, 3, 7, 0), (4, 11, 4, 0, 3), (4, 15, 4, 1, 3), (4, 18, 4, 2, 3), (5, 11, 5, 0, 3), (5, 15, 5, 1, 3), (5, 28, 0, 7, 3), (6, 9, 6, 4, 3), (6, 15, 6, 0, 0), (6, 19, 6, 1, 0), (6, 22, 6, 2, 0), (6, 25, 6, 3, 0), (6, 28, 0, 4, 0), (6, 37, 0, 0, 0), (6, 57, 0, 3, 0), (7, 11, 7, 2, 3), (7, 23, 7, 0, 0), (7, 27, 7, 1, 0), (8, 10, 8, 0, 3), (8, 16, 8, 1, 3), (8, 19, 8, 2, 3)]
theorem ck_FT_2_ok : ∀ q ∈ ck_FT_2, ck_fok q := (List.forall_mem_cons.mpr ⟨fo50, (List.forall_mem_cons.mpr ⟨fo51, (List.forall_mem_cons.mpr ⟨fo52, (List.forall_mem_cons.mpr ⟨fo53, (List.forall_mem_cons.mpr ⟨fo54, (List.forall_mem_cons.mpr ⟨fo55, (List.forall_mem_cons.mpr ⟨fo56, (List.forall_mem_cons.mpr ⟨fo57, (List.forall_mem_cons.mpr ⟨fo58, (List.forall_mem_cons.mpr ⟨fo59, (List.forall_mem_cons.mpr ⟨fo60, (List.forall_mem_cons.mpr ⟨fo61, (List.forall_mem_cons.mpr ⟨fo62, (List.forall_mem_cons.mpr ⟨fo63, (List.forall_mem_cons.mpr ⟨fo64, (List.forall_mem_cons.mpr ⟨fo65, (List.forall_mem_cons.mpr ⟨fo66, (List.forall_mem_cons.mpr ⟨fo67, (List.forall_mem_cons.mpr ⟨fo68, (List.forall_mem_cons.mpr ⟨fo69, (List.forall_mem_cons.mpr ⟨fo70, (List.forall_mem_cons.mpr ⟨fo71, (List.forall_mem_cons.mpr ⟨fo72, (List.forall_mem_cons.mpr ⟨fo73, (List.forall_mem_cons.mpr ⟨fo74, (fun _ h => absurd h List.not_mem_nil)⟩)⟩)⟩)⟩)⟩)⟩)⟩)⟩)⟩)⟩)⟩)⟩)⟩)⟩)⟩)⟩)⟩)⟩)⟩)⟩)⟩)⟩)⟩)⟩)⟩)
def ck_FT_3 : List (Nat × Nat × Nat × Nat × Nat) := [(8, 23, 8, 3, 3), (8, 32, 8, 4, 3), (8, 39, 8, 5, 3), (8, 46, 8, 6, 3), (8, 53, 8, 7, 3), (8, 60, 8, 8, 3), (8, 67, 8, 9, 3), (8, 74, 8, 10, 3), (8, 86, 3, 1, 0), (8, 97, 0, 1, 0), (8, 100, 3, 2, 0), (8, 103, 3, 3, 0), (8, 123, 0, 8, 3), (8, 127, 0, 7, 3), (8, 155, 0, 0, 0), (8, 166, 0, 13, 0), (8, 169, 0, 14, 0), (8, 172, 0, 15, 0), (8, 190, 1, 0, 0), (8, 193, 1, 1, 0), (8, 200, 1, 2, 0), (8, 203, 1, 3, 0), (8, 206, 1, 4, 0), (8, 209, 1, 5, 0), (8, 247, 0, 10, 3)]
theorem ck_FT_3_ok : ∀ q ∈ ck_FT_3, ck_fok q := (List.forall_mem_cons.mpr ⟨fo75, (List.forall_mem_cons.mpr ⟨fo76, (List.forall_mem_cons.mpr ⟨fo77, (List.forall_mem_cons.mpr ⟨fo78, (List.forall_mem_cons.mpr ⟨fo79, (List.forall_mem_cons.mpr ⟨fo80, (List.forall_mem_cons.mpr ⟨fo81, (List.forall_mem_cons.mpr ⟨fo82, (List.forall_mem_cons.mpr ⟨fo83, (List.forall_mem_cons.mpr ⟨fo84, (List.forall_mem_cons.mpr ⟨fo85, (List.forall_mem_cons.mpr ⟨fo86, (List.forall_mem_cons.mpr ⟨fo87, (List.forall_mem_cons.mpr ⟨fo88, (List.forall_mem_cons.mpr ⟨fo89, (List.forall_mem_cons.mpr ⟨fo90, (List.forall_mem_cons.mpr ⟨fo91, (List.forall_mem_cons.mpr ⟨fo92, (List.forall_mem_cons.mpr ⟨fo93, (List.forall_mem_cons.mpr ⟨fo94, (List.forall_mem_cons.mpr ⟨fo95, (List.forall_mem_cons.mpr ⟨fo96, (List.forall_mem_cons.mpr ⟨fo97, (List.forall_mem_cons.mpr ⟨fo98, (List.forall_mem_cons.mpr ⟨fo99, (fun _ h => absurd h List.not_mem_nil)⟩)⟩)⟩)⟩)⟩)⟩)⟩)⟩)⟩)⟩)⟩)⟩)⟩)⟩)⟩)⟩)⟩)⟩)⟩)⟩)⟩)⟩)⟩)⟩)⟩)
def ck_FT_4 : List (Nat × Nat × Nat × Nat × Nat) := [(8, 254, 2, 0, 0), (8, 257, 2, 1, 0), (8, 260, 2, 2, 0), (8, 263, 2, 3, 3), (8, 304, 6, 0, 0), (8, 307, 6, 1, 0), (8, 310, 6, 2, 0), (8, 323, 4, 1, 3), (8, 338, 0, 2, 0), (8, 345, 0, 3, 0), (8, 348, 0, 4, 0), (8, 369, 4, 0, 3), (9, 7, 9, 1, 3), (9, 13, 9, 2, 3), (9, 16, 9, 3, 3), (9, 20, 9, 4, 3), (9, 23, 9, 5, 3), (9, 27, 9, 15, 0), (9, 31, 9, 16, 3), (9, 34, 9, 17, 3), (9, 37, 9, 18, 3), (9, 40, 9, 19, 3), (9, 43, 9, 20, 3), (9, 46, 9, 21, 3), (9, 49, 9, 22, 3)]
theorem ck_FT_4_ok : ∀ q ∈ ck_FT_4, ck_fok q := (List.forall_mem_cons.mpr ⟨fo100, (List.forall_mem_cons.mpr ⟨fo101, (List.forall_mem_cons.mpr ⟨fo102, (List.forall_mem_cons.mpr ⟨fo103, (List.forall_mem_cons.mpr ⟨fo104, (List.forall_mem_cons.mpr ⟨fo105, (List.forall_mem_cons.mpr ⟨fo106, (List.forall_mem_cons.mpr ⟨fo107, (List.forall_mem_cons.mpr ⟨fo108, (List.forall_mem_cons.mpr ⟨fo109, (List.forall_mem_cons.mpr ⟨fo110, (List.forall_mem_cons.mpr ⟨fo111, (List.forall_mem_cons.mpr ⟨fo112, (List.forall_mem_cons.mpr ⟨fo113, (List.forall_mem_cons.mpr ⟨fo114, (List.forall_mem_cons.mpr ⟨fo115, (List.forall_mem_cons.mpr ⟨fo116, (List.forall_mem_cons.mpr ⟨fo117, (List.forall_mem_cons.mpr ⟨fo118, (List.forall_mem_cons.mpr ⟨fo119, (List.forall_mem_cons.mpr ⟨fo120, (List.forall_mem_cons.mpr ⟨fo121, (List.forall_mem_cons.mpr ⟨fo122, (List.forall_mem_cons.mpr ⟨fo123, (List.forall_mem_cons.mpr ⟨fo124, (fun _ h => absurd h List.not_mem_nil)⟩)⟩)⟩)⟩)⟩)⟩)⟩)⟩)⟩)⟩)⟩)⟩)⟩)⟩)⟩)⟩)⟩)⟩)⟩)⟩)⟩)⟩)⟩)⟩)⟩)
def ck_FT_5 : List (Nat × Nat × Nat × Nat × Nat) := [(9, 52, 9, 23, 3), (9, 55, 9, 24, 3), (9, 58, 9, 25, 3), (9, 61, 9, 27, 3), (9, 65, 9, 28, 3), (9, 68, 9, 29, 3), (9, 71, 9, 32, 3), (9, 74, 9, 33, 3), (9, 77, 9, 34, 3), (9, 80, 9, 38, 3), (9, 83, 9, 39, 3), (9, 86, 9, 40, 3), (9, 89, 9, 42, 3), (9, 92, 9, 0, 0), (9, 109, 9, 6, 0), (9, 116, 9, 7, 0), (9, 123, 9, 9, 0), (9, 126, 9, 10, 0), (9, 129, 9, 11, 2), (9, 133, 9, 8, 0), (9, 144, 9, 12, 0), (9, 147, 9, 13, 0), (9, 171, 9, 14, 0), (9, 188, 9, 26, 1), (9, 292, 9, 30, 0)]
theorem ck_FT_5_ok : ∀ q ∈ ck_FT_5, ck_fok q := (List.forall_mem_cons.mpr ⟨fo125, (List.forall_mem_cons.mpr ⟨fo126, (List.forall_mem_cons.mpr ⟨fo127, (List.forall_mem_cons.mpr ⟨fo128, (List.forall_mem_cons.mpr ⟨fo129, (List.forall_mem_cons.mpr ⟨fo130, (List.forall_mem_cons.mpr ⟨fo131, (List.forall_mem_cons.mpr ⟨fo132, (List.forall_mem_cons.mpr ⟨fo133, (List.forall_mem_cons.mpr ⟨fo134, (List.forall_mem_cons.mpr ⟨fo135, (List.forall_mem_cons.mpr ⟨fo136, (List.forall_mem_cons.mpr ⟨fo137, (List.forall_mem_cons.mpr ⟨fo138, (List.forall_mem_cons.mpr ⟨fo139, (List.forall_mem_cons.mpr ⟨fo140, (List.forall_mem_cons.mpr ⟨fo141, (List.forall_mem_cons.mpr ⟨fo142, (List.forall_mem_cons.mpr ⟨fo143, (List.forall_mem_cons.mpr ⟨fo144, (List.forall_mem_cons.mpr ⟨fo145, (List.forall_mem_cons.mpr ⟨fo146, (List.forall_mem_cons.mpr ⟨fo147, (List.forall_mem_cons.mpr ⟨fo148, (List.forall_mem_cons.mpr ⟨fo149, (fun _ h => absurd h List.not_mem_nil)⟩)⟩)⟩)⟩)⟩)⟩)⟩)⟩)⟩)⟩)⟩)⟩)⟩)⟩)⟩)⟩)⟩)⟩)⟩)⟩)⟩)⟩)⟩)⟩)⟩)
def ck_FT_6 : List (Nat × Nat × Nat × Nat × Nat) := [(9, 295, 9, 31, 0), (9, 331, 9, 35, 0), (9, 334, 9, 37, 0), (9, 337, 9, 36, 0), (9, 379, 9, 41, 2), (9, 382, 9, 43, 0), (9, 385, 9, 44, 0), (9, 388, 9, 45, 0)]
theorem ck_FT_6_ok : ∀ q ∈ ck_FT_6, ck_fok q := (List.forall_mem_cons.mpr ⟨fo150, (List.forall_mem_cons.mpr ⟨fo151, (List.forall_mem_cons.mpr ⟨fo152, (List.forall_mem_cons.mpr ⟨fo153, (List.forall_mem_cons.mpr ⟨fo154, (List.forall_mem_cons.mpr ⟨fo155, (List.forall_mem_cons.mpr ⟨fo156, (List.forall_mem_cons.mpr ⟨fo157, (fun _ h => absurd h List.not_mem_nil)⟩)⟩)⟩)⟩)⟩)⟩)⟩)⟩)
def ck_FT : List (Nat × Nat × Nat × Nat × Nat) := ck_FT_0 ++ (ck_FT_1 ++ (ck_FT_2 ++ (ck_FT_3 ++ (ck_FT_4 ++ (ck_FT_5 ++ (ck_FT_6))))))
theorem ck_FT_ok : ∀ q ∈ ck_FT, ck_fok q := (List.forall_mem_append.mpr ⟨ck_FT_0_ok, (List.forall_mem_append.mpr ⟨ck_FT_1_ok, (List.forall_mem_append.mpr ⟨ck_FT_2_ok, (List.forall_mem_append.mpr ⟨ck_FT_3_ok, (List.forall_mem_append.mpr ⟨ck_FT_4_ok, (List.forall_mem_append.mpr ⟨ck_FT_5_ok, ck_FT_6_ok⟩)⟩)⟩)⟩)⟩)⟩)
def ck_ftl (o i : Nat) : Option (Nat × Nat × Nat) := (ck_FT.find? (fun q => Nat.beq q.2.1 i && Nat.beq q.1 o)).map (fun q => q.2.2)
theorem ck_ftl_ok {o i : Nat} {q : Nat × Nat × Nat} (h : ck_ftl o i = some q) : ck_fok (o, i, q) := by
  unfold ck_ftl at h
  cases hf : ck_FT.find? (fun q => Nat.beq q.2.1 i && Nat.beq q.1 o) with
  | none => rw [hf] at h; cases h
  | some p =>
    rw [hf] at h
    have hp := List.find?_some hf
    obtain ⟨h1, h20⟩ := Bool.and_eq_true_iff.mp hp
    have h2 : p.2.1 = i := Nat.eq_of_beq_eq_true h1
    have h1 : p.1 = o := Nat.eq_of_beq_eq_true h20
    have h3 : p.2.2 = q := by cases h; rfl
    have := ck_FT_ok p (List.mem_of_find?_eq_some hf)
    rw [← h1, ← h2, ← h3]
    exact this
def ck_kio (q : Nat × Nat × Int) : Prop := Cond.constant (ck_nm q.1) q.2.1 (Int32.ofInt q.2.2) ∈ ck_AW ∧ -2147483648 ≤ q.2.2 ∧ q.2.2 ≤ 2147483647
def ck_kjo (q : Nat × Nat × Int) : Prop := Cond.constantLong (ck_nm q.1) q.2.1 (Int64.ofInt q.2.2) ∈ ck_AW ∧ -9223372036854775808 ≤ q.2.2 ∧ q.2.2 ≤ 9223372036854775807
theorem ki0 : ck_kio (2, 60, 1000000000) := ⟨(aw4 (List.mem_of_getElem? (i := 125) rfl) rfl), by decide, by decide⟩
theorem ki1 : ck_kio (3, 196, 1000000) := ⟨(aw2 (List.mem_of_getElem? (i := 145) rfl) rfl), by decide, by decide⟩
theorem ki2 : ck_kio (6, 64, 1103515245) := ⟨(aw5 (List.mem_of_getElem? (i := 60) rfl) rfl), by decide, by decide⟩
theorem ki3 : ck_kio (6, 65, 2147483647) := ⟨(aw5 (List.mem_of_getElem? (i := 61) rfl) rfl), by decide, by decide⟩
theorem ki4 : ck_kio (6, 66, 65536) := ⟨(aw5 (List.mem_of_getElem? (i := 62) rfl) rfl), by decide, by decide⟩
theorem ki5 : ck_kio (8, 313, 2000000000) := ⟨(aw5 (List.mem_of_getElem? (i := 40) rfl) rfl), by decide, by decide⟩
theorem ki6 : ck_kio (8, 379, 99999) := ⟨(aw3 (List.mem_of_getElem? (i := 88) rfl) rfl), by decide, by decide⟩
theorem ki7 : ck_kio (9, 142, 100000) := ⟨(aw6 (List.mem_of_getElem? (i := 128) rfl) rfl), by decide, by decide⟩
theorem ki8 : ck_kio (9, 143, 1000000) := ⟨(aw6 (List.mem_of_getElem? (i := 129) rfl) rfl), by decide, by decide⟩
theorem ki9 : ck_kio (10, 265, 1431655765) := ⟨(aw4 (List.mem_of_getElem? (i := 224) rfl) rfl), by decide, by decide⟩
theorem ki10 : ck_kio (10, 266, 858993459) := ⟨(aw4 (List.mem_of_getElem? (i := 225) rfl) rfl), by decide, by decide⟩
theorem ki11 : ck_kio (10, 267, 252645135) := ⟨(aw4 (List.mem_of_getElem? (i := 226) rfl) rfl), by decide, by decide⟩
theorem kj0 : ck_kjo (4, 43, (-1)) := ⟨(aw5 (List.mem_of_getElem? (i := 93) rfl) rfl), by decide, by decide⟩
theorem kj1 : ck_kjo (8, 237, (-2)) := ⟨(aw4 (List.mem_of_getElem? (i := 79) rfl) rfl), by decide, by decide⟩
theorem kj2 : ck_kjo (8, 239, 2) := ⟨(aw4 (List.mem_of_getElem? (i := 80) rfl) rfl), by decide, by decide⟩
theorem kj3 : ck_kjo (8, 334, 96) := ⟨(aw5 (List.mem_of_getElem? (i := 98) rfl) rfl), by decide, by decide⟩
theorem kj4 : ck_kjo (8, 336, 10) := ⟨(aw5 (List.mem_of_getElem? (i := 99) rfl) rfl), by decide, by decide⟩
theorem kj5 : ck_kjo (9, 95, 3) := ⟨(aw6 (List.mem_of_getElem? (i := 74) rfl) rfl), by decide, by decide⟩
theorem kj6 : ck_kjo (9, 136, (-1)) := ⟨(aw6 (List.mem_of_getElem? (i := 125) rfl) rfl), by decide, by decide⟩
theorem kj7 : ck_kjo (9, 138, 27) := ⟨(aw6 (List.mem_of_getElem? (i := 126) rfl) rfl), by decide, by decide⟩
theorem kj8 : ck_kjo (9, 140, 96) := ⟨(aw6 (List.mem_of_getElem? (i := 127) rfl) rfl), by decide, by decide⟩
theorem kj9 : ck_kjo (9, 182, 9) := ⟨(aw6 (List.mem_of_getElem? (i := 189) rfl) rfl), by decide, by decide⟩
theorem kj10 : ck_kjo (9, 184, 555) := ⟨(aw6 (List.mem_of_getElem? (i := 177) rfl) rfl), by decide, by decide⟩
theorem kj11 : ck_kjo (9, 186, 4147840) := ⟨(aw6 (List.mem_of_getElem? (i := 159) rfl) rfl), by decide, by decide⟩
theorem kj12 : ck_kjo (9, 192, 131638) := ⟨(aw6 (List.mem_of_getElem? (i := 160) rfl) rfl), by decide, by decide⟩
theorem kj13 : ck_kjo (9, 197, 298288) := ⟨(aw6 (List.mem_of_getElem? (i := 165) rfl) rfl), by decide, by decide⟩
theorem kj14 : ck_kjo (9, 199, 1960084) := ⟨(aw6 (List.mem_of_getElem? (i := 166) rfl) rfl), by decide, by decide⟩
theorem kj15 : ck_kjo (9, 201, 175252482) := ⟨(aw6 (List.mem_of_getElem? (i := 167) rfl) rfl), by decide, by decide⟩
theorem kj16 : ck_kjo (9, 207, 47) := ⟨(aw6 (List.mem_of_getElem? (i := 176) rfl) rfl), by decide, by decide⟩
theorem kj17 : ck_kjo (9, 209, 7873079139) := ⟨(aw6 (List.mem_of_getElem? (i := 178) rfl) rfl), by decide, by decide⟩
theorem kj18 : ck_kjo (9, 211, 8740238) := ⟨(aw6 (List.mem_of_getElem? (i := 179) rfl) rfl), by decide, by decide⟩
theorem kj19 : ck_kjo (9, 213, 240023) := ⟨(aw6 (List.mem_of_getElem? (i := 180) rfl) rfl), by decide, by decide⟩
theorem kj20 : ck_kjo (9, 215, 383153) := ⟨(aw6 (List.mem_of_getElem? (i := 181) rfl) rfl), by decide, by decide⟩
theorem kj21 : ck_kjo (9, 217, 1306021) := ⟨(aw6 (List.mem_of_getElem? (i := 182) rfl) rfl), by decide, by decide⟩
theorem kj22 : ck_kjo (9, 219, 4721686497) := ⟨(aw6 (List.mem_of_getElem? (i := 183) rfl) rfl), by decide, by decide⟩
theorem kj23 : ck_kjo (9, 221, 291595537) := ⟨(aw6 (List.mem_of_getElem? (i := 184) rfl) rfl), by decide, by decide⟩
theorem kj24 : ck_kjo (9, 232, 9872299) := ⟨(aw6 (List.mem_of_getElem? (i := 134) rfl) rfl), by decide, by decide⟩
theorem kj25 : ck_kjo (9, 251, 99999) := ⟨(aw6 (List.mem_of_getElem? (i := 216) rfl) rfl), by decide, by decide⟩
theorem kj26 : ck_kjo (9, 262, 2) := ⟨(aw6 (List.mem_of_getElem? (i := 217) rfl) rfl), by decide, by decide⟩
theorem kj27 : ck_kjo (9, 301, 200) := ⟨(aw7 (List.mem_of_getElem? (i := 66) rfl) rfl), by decide, by decide⟩
theorem kj28 : ck_kjo (9, 321, 10000) := ⟨(aw7 (List.mem_of_getElem? (i := 119) rfl) rfl), by decide, by decide⟩
theorem kj29 : ck_kjo (9, 323, (-2)) := ⟨(aw7 (List.mem_of_getElem? (i := 120) rfl) rfl), by decide, by decide⟩
theorem kj30 : ck_kjo (9, 367, 8) := ⟨(aw7 (List.mem_of_getElem? (i := 207) rfl) rfl), by decide, by decide⟩
theorem kj31 : ck_kjo (9, 394, 1103515245) := ⟨(aw8 (List.mem_of_getElem? (i := 28) rfl) rfl), by decide, by decide⟩
theorem kj32 : ck_kjo (9, 396, 12345) := ⟨(aw8 (List.mem_of_getElem? (i := 29) rfl) rfl), by decide, by decide⟩
theorem kj33 : ck_kjo (9, 398, 2147483648) := ⟨(aw8 (List.mem_of_getElem? (i := 30) rfl) rfl), by decide, by decide⟩
theorem kj34 : ck_kjo (9, 400, 65536) := ⟨(aw8 (List.mem_of_getElem? (i := 31) rfl) rfl), by decide, by decide⟩
theorem kj35 : ck_kjo (9, 402, 100) := ⟨(aw8 (List.mem_of_getElem? (i := 32) rfl) rfl), by decide, by decide⟩
theorem kj36 : ck_kjo (9, 404, 2000000000) := ⟨(aw8 (List.mem_of_getElem? (i := 18) rfl) rfl), by decide, by decide⟩
theorem kj37 : ck_kjo (9, 406, 2000) := ⟨(aw8 (List.mem_of_getElem? (i := 19) rfl) rfl), by decide, by decide⟩
theorem kj38 : ck_kjo (9, 415, 20) := ⟨(aw8 (List.mem_of_getElem? (i := 37) rfl) rfl), by decide, by decide⟩
theorem kj39 : ck_kjo (9, 417, 99) := ⟨(aw8 (List.mem_of_getElem? (i := 46) rfl) rfl), by decide, by decide⟩
theorem kj40 : ck_kjo (9, 419, 10) := ⟨(aw8 (List.mem_of_getElem? (i := 47) rfl) rfl), by decide, by decide⟩
def ck_KI_0 : List (Nat × Nat × Int) := [(2, 60, 1000000000), (3, 196, 1000000), (6, 64, 1103515245), (6, 65, 2147483647), (6, 66, 65536), (8, 313, 2000000000), (8, 379, 99999), (9, 142, 100000), (9, 143, 1000000), (10, 265, 1431655765), (10, 266, 858993459), (10, 267, 252645135)]
theorem ck_KI_0_ok : ∀ q ∈ ck_KI_0, ck_kio q := (List.forall_mem_cons.mpr ⟨ki0, (List.forall_mem_cons.mpr ⟨ki1, (List.forall_mem_cons.mpr ⟨ki2, (List.forall_mem_cons.mpr ⟨ki3, (List.forall_mem_cons.mpr ⟨ki4, (List.forall_mem_cons.mpr ⟨ki5, (List.forall_mem_cons.mpr ⟨ki6, (List.forall_mem_cons.mpr ⟨ki7, (List.forall_mem_cons.mpr ⟨ki8, (List.forall_mem_cons.mpr ⟨ki9, (List.forall_mem_cons.mpr ⟨ki10, (List.forall_mem_cons.mpr ⟨ki11, (fun _ h => absurd h List.not_mem_nil)⟩)⟩)⟩)⟩)⟩)⟩)⟩)⟩)⟩)⟩)⟩)⟩)
def ck_KI : List (Nat × Nat × Int) := ck_KI_0
theorem ck_KI_ok : ∀ q ∈ ck_KI, ck_kio q := ck_KI_0_ok
def ck_KJ_0 : List (Nat × Nat × Int) := [(4, 43, (-1)), (8, 237, (-2)), (8, 239, 2), (8, 334, 96), (8, 336, 10), (9, 95, 3), (9, 136, (-1)), (9, 138, 27), (9, 140, 96), (9, 182, 9), (9, 184, 555), (9, 186, 4147840), (9, 192, 131638), (9, 197, 298288), (9, 199, 1960084), (9, 201, 175252482), (9, 207, 47), (9, 209, 7873079139), (9, 211, 8740238), (9, 213, 240023), (9, 215, 383153), (9, 217, 1306021), (9, 219, 4721686497), (9, 221, 291595537), (9, 232, 9872299)]
theorem ck_KJ_0_ok : ∀ q ∈ ck_KJ_0, ck_kjo q := (List.forall_mem_cons.mpr ⟨kj0, (List.forall_mem_cons.mpr ⟨kj1, (List.forall_mem_cons.mpr ⟨kj2, (List.forall_mem_cons.mpr ⟨kj3, (List.forall_mem_cons.mpr ⟨kj4, (List.forall_mem_cons.mpr ⟨kj5, (List.forall_mem_cons.mpr ⟨kj6, (List.forall_mem_cons.mpr ⟨kj7, (List.forall_mem_cons.mpr ⟨kj8, (List.forall_mem_cons.mpr ⟨kj9, (List.forall_mem_cons.mpr ⟨kj10, (List.forall_mem_cons.mpr ⟨kj11, (List.forall_mem_cons.mpr ⟨kj12, (List.forall_mem_cons.mpr ⟨kj13, (List.forall_mem_cons.mpr ⟨kj14, (List.forall_mem_cons.mpr ⟨kj15, (List.forall_mem_cons.mpr ⟨kj16, (List.forall_mem_cons.mpr ⟨kj17, (List.forall_mem_cons.mpr ⟨kj18, (List.forall_mem_cons.mpr ⟨kj19, (List.forall_mem_cons.mpr ⟨kj20, (List.forall_mem_cons.mpr ⟨kj21, (List.forall_mem_cons.mpr ⟨kj22, (List.forall_mem_cons.mpr ⟨kj23, (List.forall_mem_cons.mpr ⟨kj24, (fun _ h => absurd h List.not_mem_nil)⟩)⟩)⟩)⟩)⟩)⟩)⟩)⟩)⟩)⟩)⟩)⟩)⟩)⟩)⟩)⟩)⟩)⟩)⟩)⟩)⟩)⟩)⟩)⟩)⟩)
def ck_KJ_1 : List (Nat × Nat × Int) := [(9, 251, 99999), (9, 262, 2), (9, 301, 200), (9, 321, 10000), (9, 323, (-2)), (9, 367, 8), (9, 394, 1103515245), (9, 396, 12345), (9, 398, 2147483648), (9, 400, 65536), (9, 402, 100), (9, 404, 2000000000), (9, 406, 2000), (9, 415, 20), (9, 417, 99), (9, 419, 10)]
theorem ck_KJ_1_ok : ∀ q ∈ ck_KJ_1, ck_kjo q := (List.forall_mem_cons.mpr ⟨kj25, (List.forall_mem_cons.mpr ⟨kj26, (List.forall_mem_cons.mpr ⟨kj27, (List.forall_mem_cons.mpr ⟨kj28, (List.forall_mem_cons.mpr ⟨kj29, (List.forall_mem_cons.mpr ⟨kj30, (List.forall_mem_cons.mpr ⟨kj31, (List.forall_mem_cons.mpr ⟨kj32, (List.forall_mem_cons.mpr ⟨kj33, (List.forall_mem_cons.mpr ⟨kj34, (List.forall_mem_cons.mpr ⟨kj35, (List.forall_mem_cons.mpr ⟨kj36, (List.forall_mem_cons.mpr ⟨kj37, (List.forall_mem_cons.mpr ⟨kj38, (List.forall_mem_cons.mpr ⟨kj39, (List.forall_mem_cons.mpr ⟨kj40, (fun _ h => absurd h List.not_mem_nil)⟩)⟩)⟩)⟩)⟩)⟩)⟩)⟩)⟩)⟩)⟩)⟩)⟩)⟩)⟩)⟩)
def ck_KJ : List (Nat × Nat × Int) := ck_KJ_0 ++ (ck_KJ_1)
theorem ck_KJ_ok : ∀ q ∈ ck_KJ, ck_kjo q := (List.forall_mem_append.mpr ⟨ck_KJ_0_ok, ck_KJ_1_ok⟩)
def ck_kil (o i : Nat) : Option Int := (ck_KI.find? (fun q => Nat.beq q.2.1 i && Nat.beq q.1 o)).map (fun q => q.2.2)
theorem ck_kil_ok {o i : Nat} {q : Int} (h : ck_kil o i = some q) : ck_kio (o, i, q) := by
  unfold ck_kil at h
  cases hf : ck_KI.find? (fun q => Nat.beq q.2.1 i && Nat.beq q.1 o) with
  | none => rw [hf] at h; cases h
  | some p =>
    rw [hf] at h
    have hp := List.find?_some hf
    obtain ⟨h1, h20⟩ := Bool.and_eq_true_iff.mp hp
    have h2 : p.2.1 = i := Nat.eq_of_beq_eq_true h1
    have h1 : p.1 = o := Nat.eq_of_beq_eq_true h20
    have h3 : p.2.2 = q := by cases h; rfl
    have := ck_KI_ok p (List.mem_of_find?_eq_some hf)
    rw [← h1, ← h2, ← h3]
    exact this
def ck_kjl (o i : Nat) : Option Int := (ck_KJ.find? (fun q => Nat.beq q.2.1 i && Nat.beq q.1 o)).map (fun q => q.2.2)
theorem ck_kjl_ok {o i : Nat} {q : Int} (h : ck_kjl o i = some q) : ck_kjo (o, i, q) := by
  unfold ck_kjl at h
  cases hf : ck_KJ.find? (fun q => Nat.beq q.2.1 i && Nat.beq q.1 o) with
  | none => rw [hf] at h; cases h
  | some p =>
    rw [hf] at h
    have hp := List.find?_some hf
    obtain ⟨h1, h20⟩ := Bool.and_eq_true_iff.mp hp
    have h2 : p.2.1 = i := Nat.eq_of_beq_eq_true h1
    have h1 : p.1 = o := Nat.eq_of_beq_eq_true h20
    have h3 : p.2.2 = q := by cases h; rfl
    have := ck_KJ_ok p (List.mem_of_find?_eq_some hf)
    rw [← h1, ← h2, ← h3]
    exact this
def ck_kso (q : Nat × Nat × Nat) : Prop := ck_nm q.1 = "JuggledPost$Scribe" ∧ q.2.2 < 15 ∧ ∃ t : String, jz_tx[q.2.2]? = some (q.2.1, t)
theorem ks0 : ck_kso (3, 99, 0) := ⟨rfl, by decide, ⟨_, rfl⟩⟩
theorem ks1 : ck_kso (3, 64, 1) := ⟨rfl, by decide, ⟨_, rfl⟩⟩
theorem ks2 : ck_kso (3, 126, 2) := ⟨rfl, by decide, ⟨_, rfl⟩⟩
theorem ks3 : ck_kso (3, 128, 3) := ⟨rfl, by decide, ⟨_, rfl⟩⟩
theorem ks4 : ck_kso (3, 130, 4) := ⟨rfl, by decide, ⟨_, rfl⟩⟩
theorem ks5 : ck_kso (3, 132, 5) := ⟨rfl, by decide, ⟨_, rfl⟩⟩
theorem ks6 : ck_kso (3, 134, 6) := ⟨rfl, by decide, ⟨_, rfl⟩⟩
theorem ks7 : ck_kso (3, 73, 7) := ⟨rfl, by decide, ⟨_, rfl⟩⟩
theorem ks8 : ck_kso (3, 143, 8) := ⟨rfl, by decide, ⟨_, rfl⟩⟩
theorem ks9 : ck_kso (3, 78, 9) := ⟨rfl, by decide, ⟨_, rfl⟩⟩
theorem ks10 : ck_kso (3, 83, 10) := ⟨rfl, by decide, ⟨_, rfl⟩⟩
theorem ks11 : ck_kso (3, 160, 11) := ⟨rfl, by decide, ⟨_, rfl⟩⟩
theorem ks12 : ck_kso (3, 88, 12) := ⟨rfl, by decide, ⟨_, rfl⟩⟩
theorem ks13 : ck_kso (3, 166, 13) := ⟨rfl, by decide, ⟨_, rfl⟩⟩
theorem ks14 : ck_kso (3, 171, 14) := ⟨rfl, by decide, ⟨_, rfl⟩⟩
def ck_KS_0 : List (Nat × Nat × Nat) := [(3, 99, 0), (3, 64, 1), (3, 126, 2), (3, 128, 3), (3, 130, 4), (3, 132, 5), (3, 134, 6), (3, 73, 7), (3, 143, 8), (3, 78, 9), (3, 83, 10), (3, 160, 11), (3, 88, 12), (3, 166, 13), (3, 171, 14)]
theorem ck_KS_0_ok : ∀ q ∈ ck_KS_0, ck_kso q := (List.forall_mem_cons.mpr ⟨ks0, (List.forall_mem_cons.mpr ⟨ks1, (List.forall_mem_cons.mpr ⟨ks2, (List.forall_mem_cons.mpr ⟨ks3, (List.forall_mem_cons.mpr ⟨ks4, (List.forall_mem_cons.mpr ⟨ks5, (List.forall_mem_cons.mpr ⟨ks6, (List.forall_mem_cons.mpr ⟨ks7, (List.forall_mem_cons.mpr ⟨ks8, (List.forall_mem_cons.mpr ⟨ks9, (List.forall_mem_cons.mpr ⟨ks10, (List.forall_mem_cons.mpr ⟨ks11, (List.forall_mem_cons.mpr ⟨ks12, (List.forall_mem_cons.mpr ⟨ks13, (List.forall_mem_cons.mpr ⟨ks14, (fun _ h => absurd h List.not_mem_nil)⟩)⟩)⟩)⟩)⟩)⟩)⟩)⟩)⟩)⟩)⟩)⟩)⟩)⟩)⟩)
def ck_KS : List (Nat × Nat × Nat) := ck_KS_0
theorem ck_KS_ok : ∀ q ∈ ck_KS, ck_kso q := ck_KS_0_ok
def ck_ksl (o i : Nat) : Option Nat := (ck_KS.find? (fun q => Nat.beq q.2.1 i && Nat.beq q.1 o)).map (fun q => q.2.2)
theorem ck_ksl_ok {o i : Nat} {q : Nat} (h : ck_ksl o i = some q) : ck_kso (o, i, q) := by
  unfold ck_ksl at h
  cases hf : ck_KS.find? (fun q => Nat.beq q.2.1 i && Nat.beq q.1 o) with
  | none => rw [hf] at h; cases h
  | some p =>
    rw [hf] at h
    have hp := List.find?_some hf
    obtain ⟨h1, h20⟩ := Bool.and_eq_true_iff.mp hp
    have h2 : p.2.1 = i := Nat.eq_of_beq_eq_true h1
    have h1 : p.1 = o := Nat.eq_of_beq_eq_true h20
    have h3 : p.2.2 = q := by cases h; rfl
    have := ck_KS_ok p (List.mem_of_find?_eq_some hf)
    rw [← h1, ← h2, ← h3]
    exact this
def ck_sfo (q : Nat × Nat × Nat) : Prop := match q.2.2 with
  | 0 => Cond.fieldLink (ck_nm q.1) q.2.1 "java/lang/String" "value" "[B" ∈ ck_AW
  | 1 => Cond.fieldLink (ck_nm q.1) q.2.1 "java/lang/String" "coder" "B" ∈ ck_AW
  | 2 => Cond.fieldLink (ck_nm q.1) q.2.1 "java/lang/String" "COMPACT_STRINGS" "Z" ∈ ck_AW
  | _ => Cond.fieldLink (ck_nm q.1) q.2.1 "jdk/internal/util/Preconditions" "SIOOBE_FORMATTER" "Ljava/util/function/BiFunction;" ∈ ck_AW
theorem sf0 : ck_sfo (13, 38, 2) := (aw2 (List.mem_of_getElem? (i := 174) rfl) rfl)
theorem sf1 : ck_sfo (13, 1053, 3) := (aw2 (List.mem_of_getElem? (i := 190) rfl) rfl)
theorem sf2 : ck_sfo (13, 9, 0) := (aw8 (List.mem_of_getElem? (i := 69) rfl) rfl)
theorem sf3 : ck_sfo (13, 15, 1) := (aw8 (List.mem_of_getElem? (i := 70) rfl) rfl)
def ck_SF_0 : List (Nat × Nat × Nat) := [(13, 38, 2), (13, 1053, 3), (13, 9, 0), (13, 15, 1)]
theorem ck_SF_0_ok : ∀ q ∈ ck_SF_0, ck_sfo q := (List.forall_mem_cons.mpr ⟨sf0, (List.forall_mem_cons.mpr ⟨sf1, (List.forall_mem_cons.mpr ⟨sf2, (List.forall_mem_cons.mpr ⟨sf3, (fun _ h => absurd h List.not_mem_nil)⟩)⟩)⟩)⟩)
def ck_SF : List (Nat × Nat × Nat) := ck_SF_0
theorem ck_SF_ok : ∀ q ∈ ck_SF, ck_sfo q := ck_SF_0_ok
def ck_sfl (o i : Nat) : Option Nat := (ck_SF.find? (fun q => Nat.beq q.2.1 i && Nat.beq q.1 o)).map (fun q => q.2.2)
theorem ck_sfl_ok {o i : Nat} {q : Nat} (h : ck_sfl o i = some q) : ck_sfo (o, i, q) := by
  unfold ck_sfl at h
  cases hf : ck_SF.find? (fun q => Nat.beq q.2.1 i && Nat.beq q.1 o) with
  | none => rw [hf] at h; cases h
  | some p =>
    rw [hf] at h
    have hp := List.find?_some hf
    obtain ⟨h1, h20⟩ := Bool.and_eq_true_iff.mp hp
    have h2 : p.2.1 = i := Nat.eq_of_beq_eq_true h1
    have h1 : p.1 = o := Nat.eq_of_beq_eq_true h20
    have h3 : p.2.2 = q := by cases h; rfl
    have := ck_SF_ok p (List.mem_of_find?_eq_some hf)
    rw [← h1, ← h2, ← h3]
    exact this
abbrev ck_MI : Type := MethodName × ByteArray × Nat × Option FieldType × Nat × Nat
def ck_MT_0 : List ck_MI := [(yX8_feed, cX8_feed, 6, (some .int), 8, 6), (yX8_end, cX8_end, 2, (some .int), 8, 2), (yX8_city, cX8_city, 1, (some .int), 8, 1), (yX8_fault, cX8_fault, 2, (some .int), 8, 2), (yX8_tosses, cX8_tosses, 5, (some .int), 8, 4), (yX8_period, cX8_period, 2, (some .int), 8, 2), (yX8_turn, cX8_turn, 1, (some .int), 8, 1), (yX8_set, cX8_set, 6, (some .int), 8, 5), (yX8_swap, cX8_swap, 4, (some .int), 8, 4), (yX8_exchange, cX8_exchange, 5, (some .int), 8, 5), (yX8_trade, cX8_trade, 11, (some .int), 8, 5), (yX8_shift, cX8_shift, 5, (some .int), 8, 3), (yX8_backwards, cX8_backwards, 5, (some .int), 8, 1), (yX8_keeps, cX8_keeps, 1, (some .int), 8, 1), (yX8_clash, cX8_clash, 2, (some .int), 8, 2), (yX8_balls, cX8_balls, 1, (some .int), 8, 1), (yX8_lands, cX8_lands, 3, (some .int), 8, 3), (yX8_air, cX8_air, 2, (some .int), 8, 2), (yX8_ball, cX8_ball, 5, (some .int), 8, 5), (yX8_orbit, cX8_orbit, 4, (some .int), 8, 4), (yX8_orbits, cX8_orbits, 1, (some .int), 8, 1), (yX8_same, cX8_same, 5, (some .int), 8, 5), (yX8_misses, cX8_misses, 4, (some .int), 8, 4), (yX8_missed, cX8_missed, 5, (some .int), 8, 5), (yX8_crossings, cX8_crossings, 7, (some .int), 8, 2)]
def ck_MT_1 : List ck_MI := [(yX8_suits, cX8_suits, 2, (some .int), 8, 2), (yX8_unsuited, cX8_unsuited, 2, (some .int), 8, 2), (yX8_firstUnsuited, cX8_firstUnsuited, 4, (some .int), 8, 2), (yX8_wages, cX8_wages, 13, (some .long), 8, 3), (yX8_carries, cX8_carries, 6, (some .int), 8, 3), (yX8_busiest, cX8_busiest, 7, (some .int), 8, 2), (yX8_silent, cX8_silent, 5, (some .int), 8, 2), (yX8_letter, cX8_letter, 3, (some .int), 8, 3), (yX8_alone, cX8_alone, 4, (some .int), 8, 2), (yX8_soonest, cX8_soonest, 3, (some .int), 8, 3), (yX8_way, cX8_way, 3, (some .int), 8, 3), (yX8_readers, cX8_readers, 5, (some .int), 8, 3), (yX8_latest, cX8_latest, 3, (some .int), 8, 3), (yX8_state, cX8_state, 3, (some .int), 8, 3), (yX8_change, cX8_change, 5, (some .int), 8, 5), (yX8_changes, cX8_changes, 8, (some .int), 8, 6), (yX8_ground, cX8_ground, 4, (some .int), 8, 3), (yX8_rows, cX8_rows, 4, (some .long), 8, 4), (yX8_least, cX8_least, 5, (some .int), 8, 5), (yX8_isRowKind, cX8_isRowKind, 3, (some .boolean), 8, 3), (yX8_gusts, cX8_gusts, 4, (some .int), 8, 4), (yX8_years, cX8_years, 6, (some .int), 8, 4), (yX8_areGusts, cX8_areGusts, 3, (some .boolean), 8, 3), (yX8_judge, cX8_judge, 4, (some .int), 8, 3), (yX8_takes, cX8_takes, 4, (some .int), 8, 3)]
def ck_MT_2 : List ck_MI := [(yX8_draftFrom, cX8_draftFrom, 7, (some .int), 8, 3), (yX8_isThrowOf, cX8_isThrowOf, 5, (some .boolean), 8, 3), (yX8_count, cX8_count, 2, (some .int), 8, 2), (yX8_keep, cX8_keep, 3, (some .int), 8, 2), (yX8_back, cX8_back, 3, (some .int), 8, 2), (yX8_imageAt, cX8_imageAt, 2, (some (.object "JuggledPost$City")), 8, 2), (yX8_row, cX8_row, 4, (some .int), 8, 4), (yX8_write, cX8_write, 5, (some .int), 8, 4), (yX8_paste, cX8_paste, 6, (some .int), 8, 6), (yX8_isWithin, cX8_isWithin, 2, (some .boolean), 8, 2), (yX8_isBeat, cX8_isBeat, 1, (some .boolean), 8, 1), (yX8_isThrown, cX8_isThrown, 1, (some .boolean), 8, 1), (yX9_in, cX9_in, 6, (some .boolean), 9, 3), (yX9_isSlot, cX9_isSlot, 1, (some .boolean), 9, 1), (yX9_row, cX9_row, 5, (some .int), 9, 4), (yX9_cut, cX9_cut, 3, (some .long), 9, 2), (yX9_write, cX9_write, 5, (some .int), 9, 4), (yX9_paste, cX9_paste, 7, (some .int), 9, 6), (yX9_feed, cX9_feed, 6, (some .int), 9, 6), (yX9_four, cX9_four, 3, none, 9, 2), (yX9_end, cX9_end, 2, (some .int), 9, 2), (yX9_isByte, cX9_isByte, 4, (some .boolean), 9, 4), (yX9_next, cX9_next, 2, none, 9, 1), (yX9_isGood, cX9_isGood, 1, (some .boolean), 9, 1), (yX9_fails, cX9_fails, 2, none, 9, 2)]
def ck_MT_3 : List ck_MI := [(yX9_is, cX9_is, 3, (some .boolean), 9, 2), (yX9_takes, cX9_takes, 3, (some .boolean), 9, 2), (yX9_asks, cX9_asks, 3, none, 9, 2), (yX9_number, cX9_number, 4, (some .int), 9, 3), (yX9_number_, cX9_number_, 5, (some .int), 9, 4), (yX9_ends, cX9_ends, 1, none, 9, 1), (yX9_begins, cX9_begins, 1, none, 9, 1), (yX9_isOver, cX9_isOver, 1, none, 9, 1), (yX9_fault, cX9_fault, 2, (some .int), 9, 2), (yX9_roof, cX9_roof, 1, (some .int), 9, 1), (yX9_other, cX9_other, 2, (some .int), 9, 2), (yX9_throwsLine, cX9_throwsLine, 6, none, 9, 2), (yX9_line, cX9_line, 6, none, 9, 1), (yX9_clears, cX9_clears, 3, none, 9, 1), (yX9_city, cX9_city, 1, (some .int), 9, 1), (yX9_copyRow, cX9_copyRow, 5, none, 9, 4), (yX9_copyCity, cX9_copyCity, 3, none, 9, 3), (yX9_isCity, cX9_isCity, 1, (some .boolean), 9, 1), (yX9_isRoof, cX9_isRoof, 2, (some .boolean), 9, 2), (yX9_isBeat, cX9_isBeat, 1, (some .boolean), 9, 1), (yX9_placeOf, cX9_placeOf, 4, (some .int), 9, 3), (yX9_highOf, cX9_highOf, 3, (some .int), 9, 3), (yX9_toOf, cX9_toOf, 3, (some .int), 9, 3), (yX9_tosses, cX9_tosses, 4, (some .int), 9, 4), (yX9_period, cX9_period, 2, (some .int), 9, 2)]
def ck_MT_4 : List ck_MI := [(yX9_round, cX9_round, 4, (some .int), 9, 1), (yX9_turn, cX9_turn, 1, (some .int), 9, 1), (yX9_isThrow, cX9_isThrow, 3, (some .boolean), 9, 3), (yX9_set, cX9_set, 7, (some .int), 9, 5), (yX9_swap, cX9_swap, 9, (some .int), 9, 4), (yX9_shift, cX9_shift, 4, (some .int), 9, 3), (yX9_comesDown, cX9_comesDown, 6, (some .int), 9, 3), (yX9_isClash, cX9_isClash, 3, (some .boolean), 9, 3), (yX9_isUp, cX9_isUp, 4, (some .boolean), 9, 1), (yX9_keeps, cX9_keeps, 1, (some .int), 9, 1), (yX9_clash, cX9_clash, 5, (some .int), 9, 2), (yX9_ballsOf, cX9_ballsOf, 5, (some .int), 9, 1), (yX9_balls, cX9_balls, 1, (some .int), 9, 1), (yX9_lands, cX9_lands, 5, (some .int), 9, 3), (yX9_air, cX9_air, 5, (some .int), 9, 2), (yX9_follows, cX9_follows, 2, none, 9, 1), (yX9_starts, cX9_starts, 3, (some .boolean), 9, 3), (yX9_isToss, cX9_isToss, 3, (some .boolean), 9, 3), (yX9_ball, cX9_ball, 6, (some .int), 9, 5), (yX9_orbit, cX9_orbit, 8, (some .int), 9, 4), (yX9_orbits, cX9_orbits, 5, (some .int), 9, 1), (yX9_same, cX9_same, 5, (some .int), 9, 5), (yX9_isPair, cX9_isPair, 4, (some .boolean), 9, 3), (yX9_crossings, cX9_crossings, 8, (some .int), 9, 2), (yX9_firstHigh, cX9_firstHigh, 3, (some .int), 9, 2)]
def ck_MT_5 : List ck_MI := [(yX9_isUnsuited, cX9_isUnsuited, 4, (some .boolean), 9, 3), (yX9_unsuitedOf, cX9_unsuitedOf, 4, (some .int), 9, 2), (yX9_suits, cX9_suits, 2, (some .int), 9, 2), (yX9_unsuited, cX9_unsuited, 2, (some .int), 9, 2), (yX9_wages, cX9_wages, 6, (some .long), 9, 3), (yX9_carries, cX9_carries, 6, (some .int), 9, 3), (yX9_isLetter, cX9_isLetter, 2, (some .boolean), 9, 2), (yX9_letter, cX9_letter, 3, (some .int), 9, 3), (yX9_alone, cX9_alone, 5, (some .int), 9, 2), (yX9_soonestOf, cX9_soonestOf, 5, (some .int), 9, 2), (yX9_goesSoonest, cX9_goesSoonest, 9, (some .boolean), 9, 2), (yX9_soonest, cX9_soonest, 3, (some .int), 9, 3), (yX9_way, cX9_way, 3, (some .int), 9, 3), (yX9_readers, cX9_readers, 4, (some .int), 9, 3), (yX9_misses, cX9_misses, 5, (some .int), 9, 4), (yX9_missed, cX9_missed, 6, (some .int), 9, 5), (yX9_isSolo, cX9_isSolo, 5, (some .boolean), 9, 2), (yX9_stateOf, cX9_stateOf, 5, (some .int), 9, 3), (yX9_state, cX9_state, 3, (some .int), 9, 3), (yX9_behind, cX9_behind, 2, (some .int), 9, 2), (yX9_laysChange, cX9_laysChange, 6, none, 9, 2), (yX9_isChange, cX9_isChange, 5, (some .boolean), 9, 5), (yX9_canChange, cX9_canChange, 5, (some .boolean), 9, 5), (yX9_change, cX9_change, 5, (some .int), 9, 5), (yX9_changes, cX9_changes, 9, (some .int), 9, 6)]
def ck_MT_6 : List ck_MI := [(yX9_at, cX9_at, 2, (some .int), 9, 2), (yX9_laysRows, cX9_laysRows, 12, none, 9, 4), (yX9_bitsOf, cX9_bitsOf, 3, (some .int), 9, 1), (yX9_areRows, cX9_areRows, 3, (some .boolean), 9, 3), (yX9_rows, cX9_rows, 4, (some .long), 9, 4), (yX9_least, cX9_least, 9, (some .int), 9, 5), (yX9_exchange, cX9_exchange, 10, (some .int), 9, 5), (yX9_backwards, cX9_backwards, 7, (some .int), 9, 1), (yX9_ground, cX9_ground, 4, (some .int), 9, 3), (yX9_latest, cX9_latest, 7, (some .int), 9, 3), (yX9_throwers, cX9_throwers, 4, (some .int), 9, 2), (yX9_busiest, cX9_busiest, 5, (some .int), 9, 2), (yX9_silent, cX9_silent, 5, (some .int), 9, 2), (yX9_blows, cX9_blows, 6, none, 9, 3), (yX9_blowsAt, cX9_blowsAt, 5, none, 9, 3), (yX9_isGust, cX9_isGust, 3, (some .boolean), 9, 3), (yX9_gusts, cX9_gusts, 4, (some .int), 9, 4), (yX9_years, cX9_years, 6, (some .int), 9, 4), (yX9_whyNot, cX9_whyNot, 6, (some .int), 9, 3), (yX9_takesRow, cX9_takesRow, 4, none, 9, 3), (yX9_judge, cX9_judge, 5, (some .int), 9, 3), (yX9_takes_, cX9_takes_, 4, (some .int), 9, 3), (yX9_count, cX9_count, 5, (some .int), 9, 2), (yX9_keep, cX9_keep, 2, (some .int), 9, 2), (yX9_back, cX9_back, 2, (some .int), 9, 2)]
def ck_MT_7 : List ck_MI := [(yX0_wipe, cX0_wipe, 1, none, 0, 1), (yX0_found, cX0_found, 3, none, 0, 2), (yX0_copyOf, cX0_copyOf, 2, none, 0, 2), (yX0_isTold, cX0_isTold, 1, (some .boolean), 0, 1), (yX0_hasRoof, cX0_hasRoof, 2, (some .boolean), 0, 2), (yX0_hasThrow, cX0_hasThrow, 3, (some .boolean), 0, 3), (yX0_hasLetter, cX0_hasLetter, 2, (some .boolean), 0, 2), (yX0_heightAt, cX0_heightAt, 3, (some .int), 0, 3), (yX0_goalAt, cX0_goalAt, 3, (some .int), 0, 3), (yX0_spot, cX0_spot, 4, (some .int), 0, 3), (yX0_put, cX0_put, 5, none, 0, 5), (yX0_resize, cX0_resize, 3, none, 0, 3), (yX0_employ, cX0_employ, 3, none, 0, 3), (yX0_forbid, cX0_forbid, 3, none, 0, 3), (yX0_post, cX0_post, 4, none, 0, 4), (yX0_pairs, cX0_pairs, 3, (some .int), 0, 1), (yX0_busyRoofs, cX0_busyRoofs, 4, (some .int), 0, 1), (yX0_throwersAt, cX0_throwersAt, 4, (some .int), 0, 2), (yX0_crossesAt, cX0_crossesAt, 4, (some .boolean), 0, 3), (yX0_suitsAt, cX0_suitsAt, 5, (some .boolean), 0, 3), (yX0_isLowThrownTo, cX0_isLowThrownTo, 5, (some .boolean), 0, 3), (yX0_firstHeight, cX0_firstHeight, 3, (some .int), 0, 2), (yX1_roundOf, cX1_roundOf, 2, (some .int), 1, 2), (yX1_isKeptUp, cX1_isKeptUp, 2, (some .boolean), 1, 2), (yX1_look, cX1_look, 3, none, 1, 2)]
def ck_MT_8 : List ck_MI := [(yX1_leastRound, cX1_leastRound, 5, (some .int), 1, 1), (yX1_throwAll, cX1_throwAll, 5, none, 1, 3), (yX1_findClash, cX1_findClash, 5, none, 1, 3), (yX1_ballsOf, cX1_ballsOf, 2, (some .int), 1, 2), (yX1_aloftBehind, cX1_aloftBehind, 6, (some .int), 1, 3), (yX1_sourceOf, cX1_sourceOf, 6, (some .int), 1, 4), (yX1_isThrownFrom, cX1_isThrownFrom, 4, (some .boolean), 1, 4), (yX1_begin, cX1_begin, 3, none, 1, 3), (yX1_step, cX1_step, 3, none, 1, 2), (yX1_isRound, cX1_isRound, 4, (some .boolean), 1, 4), (yX1_follow, cX1_follow, 6, none, 1, 5), (yX1_goRound, cX1_goRound, 5, none, 1, 4), (yX1_orbitsOf, cX1_orbitsOf, 5, (some .int), 1, 2), (yX1_markOrbit, cX1_markOrbit, 5, none, 1, 4), (yX1_meet, cX1_meet, 5, (some .boolean), 1, 3), (yX1_comesBy, cX1_comesBy, 8, (some .boolean), 1, 6), (yX1_firstDown, cX1_firstDown, 6, (some .int), 1, 5), (yX1_timesDown, cX1_timesDown, 8, (some .int), 1, 6), (yX1_roofsUpTo, cX1_roofsUpTo, 7, (some .int), 1, 5), (yX2_take, cX2_take, 3, none, 2, 3), (yX2_plan, cX2_plan, 3, none, 2, 3), (yX2_firstArrival, cX2_firstArrival, 6, (some .int), 2, 2), (yX2_fillFewest, cX2_fillFewest, 6, none, 2, 2), (yX2_fewestFrom, cX2_fewestFrom, 4, (some .int), 2, 3), (yX2_fewestThrowing, cX2_fewestThrowing, 5, (some .int), 2, 4)]
def ck_MT_9 : List ck_MI := [(yX2_trace, cX2_trace, 6, none, 2, 2), (yX2_lastLeave, cX2_lastLeave, 9, (some .int), 2, 4), (yX3_hasRoom, cX3_hasRoom, 2, (some .boolean), 3, 2), (yX3_append, cX3_append, 3, none, 3, 2), (yX3_readAll, cX3_readAll, 2, (some .boolean), 3, 1), (yX3_readLine, cX3_readLine, 2, (some .boolean), 3, 1), (yX3_readRoofs, cX3_readRoofs, 1, (some .boolean), 3, 1), (yX3_readThrower, cX3_readThrower, 2, (some .boolean), 3, 1), (yX3_kindTold, cX3_kindTold, 1, (some .int), 3, 1), (yX3_readThrows, cX3_readThrows, 3, (some .boolean), 3, 1), (yX3_readThrow, cX3_readThrow, 7, (some .boolean), 3, 3), (yX3_readCross, cX3_readCross, 2, (some .boolean), 3, 1), (yX3_readLetter, cX3_readLetter, 3, (some .boolean), 3, 1), (yX3_readGusts, cX3_readGusts, 1, (some .boolean), 3, 1), (yX3_takeSign, cX3_takeSign, 1, (some .boolean), 3, 1), (yX3_takeWord, cX3_takeWord, 2, (some .boolean), 3, 2), (yX3_takeNumber, cX3_takeNumber, 4, (some .boolean), 3, 4), (yX3_takeRoof, cX3_takeRoof, 2, (some .boolean), 3, 2), (yX3_fail, cX3_fail, 2, (some .boolean), 3, 2), (yX3_isWord, cX3_isWord, 3, (some .boolean), 3, 2), (yX3_advance, cX3_advance, 1, none, 3, 1), (yX3_byteAt, cX3_byteAt, 2, (some .int), 3, 2), (yX3_isLowerCase, cX3_isLowerCase, 1, (some .boolean), 3, 1), (yX3_isDigit, cX3_isDigit, 1, (some .boolean), 3, 1), (yX4_isSlot, cX4_isSlot, 2, (some .boolean), 4, 2)]
def ck_MT_10 : List ck_MI := [(yX4_isFilled, cX4_isFilled, 2, (some .boolean), 4, 2), (yX4_filled, cX4_filled, 3, (some .int), 4, 1), (yX4_open, cX4_open, 5, none, 4, 4), (yX4_hasRun, cX4_hasRun, 4, (some .boolean), 4, 4), (yX4_store, cX4_store, 5, none, 4, 4), (yX4_cut, cX4_cut, 3, (some .long), 4, 2), (yX4_numberAt, cX4_numberAt, 3, (some .long), 4, 3), (yX4_carry, cX4_carry, 6, none, 4, 6), (yX5_stateOf, cX5_stateOf, 7, (some .int), 5, 4), (yX5_isKeptUpAlone, cX5_isKeptUpAlone, 6, (some .boolean), 5, 2), (yX5_throwsBetween, cX5_throwsBetween, 3, (some .int), 5, 3), (yX5_isState, cX5_isState, 1, (some .boolean), 5, 1), (yX5_spread, cX5_spread, 8, none, 5, 2), (yX5_reach, cX5_reach, 4, (some .int), 5, 4), (yX5_throwOfChange, cX5_throwOfChange, 6, (some .int), 5, 3), (yX5_leastThrow, cX5_leastThrow, 4, (some .int), 5, 2), (yX5_behind, cX5_behind, 2, (some .int), 5, 2), (yX6_blow, cX6_blow, 7, none, 6, 5), (yX6_fillComing, cX6_fillComing, 5, none, 6, 2), (yX6_launch, cX6_launch, 5, none, 6, 4), (yX6_draw, cX6_draw, 1, (some .int), 6, 1), (yX7_waysOf, cX7_waysOf, 4, (some .int), 7, 4), (yX7_fill, cX7_fill, 6, none, 7, 3), (yX7_addWays, cX7_addWays, 7, none, 7, 3), (yX7_bitOf, cX7_bitOf, 2, (some .int), 7, 2)]
def ck_MT_11 : List ck_MI := [(yX7_turnsOf, cX7_turnsOf, 2, (some .int), 7, 2), (yX7_waysOn, cX7_waysOn, 4, (some .int), 7, 3), (yX7_heightOfLeast, cX7_heightOfLeast, 9, (some .int), 7, 5), (yX7_leastHeight, cX7_leastHeight, 6, (some .int), 7, 4), (yJ6_bitCount_0f7a4, cJ6_bitCount_0f7a4, 1, (some .int), 10, 1), (yJ9_floorMod_7cf53, cJ9_floorMod_7cf53, 3, (some .int), 11, 2), (yJ9_max_7cf53, cJ9_max_7cf53, 2, (some .int), 11, 2), (yJ9_min_7cf53, cJ9_min_7cf53, 2, (some .int), 11, 2), (yJ0_charAt_5068e, cJ0_charAt_5068e, 2, (some .char), 13, 2), (yJ0_checkIndex_df160, cJ0_checkIndex_df160, 2, none, 13, 2), (yJ0_coder_7d493, cJ0_coder_7d493, 1, (some .byte), 13, 1), (yJ0_isLatin1_aae02, cJ0_isLatin1_aae02, 1, (some .boolean), 13, 1), (yJ0_length_8abf5, cJ0_length_8abf5, 1, (some .int), 13, 1), (yJ1_charAt_3b067, cJ1_charAt_3b067, 2, (some .char), 14, 2), (yJ7_fill_53178, cJ7_fill_53178, 4, none, 12, 2), (yJ3_checkIndex_8e157, cJ3_checkIndex_8e157, 3, (some .int), 15, 3)]
def ck_MT (i : Nat) : ck_MI := match i / 25 with
  | 0 => ck_MT_0.getD (i % 25) (yX8_feed, cX8_feed, 0, none, 0, 0)
  | 1 => ck_MT_1.getD (i % 25) (yX8_feed, cX8_feed, 0, none, 0, 0)
  | 2 => ck_MT_2.getD (i % 25) (yX8_feed, cX8_feed, 0, none, 0, 0)
  | 3 => ck_MT_3.getD (i % 25) (yX8_feed, cX8_feed, 0, none, 0, 0)
  | 4 => ck_MT_4.getD (i % 25) (yX8_feed, cX8_feed, 0, none, 0, 0)
  | 5 => ck_MT_5.getD (i % 25) (yX8_feed, cX8_feed, 0, none, 0, 0)
  | 6 => ck_MT_6.getD (i % 25) (yX8_feed, cX8_feed, 0, none, 0, 0)
  | 7 => ck_MT_7.getD (i % 25) (yX8_feed, cX8_feed, 0, none, 0, 0)
  | 8 => ck_MT_8.getD (i % 25) (yX8_feed, cX8_feed, 0, none, 0, 0)
  | 9 => ck_MT_9.getD (i % 25) (yX8_feed, cX8_feed, 0, none, 0, 0)
  | 10 => ck_MT_10.getD (i % 25) (yX8_feed, cX8_feed, 0, none, 0, 0)
  | 11 => ck_MT_11.getD (i % 25) (yX8_feed, cX8_feed, 0, none, 0, 0)
  | _ => (yX8_feed, cX8_feed, 0, none, 0, 0)
def ck_my (i : Nat) : MethodName := (ck_MT i).1
def ck_mc (i : Nat) : ByteArray := (ck_MT i).2.1
def ck_ml (i : Nat) : Nat := (ck_MT i).2.2.1
def ck_mr (i : Nat) : Option FieldType := (ck_MT i).2.2.2.1
def ck_mo (i : Nat) : Nat := (ck_MT i).2.2.2.2.1
def ck_ma (i : Nat) : Nat := (ck_MT i).2.2.2.2.2
def ck_ws (i : Nat) : List Cond := Cond.code (ck_my i) (ck_mc i) (ck_ml i) (ck_mr i) :: ck_AW
def ck_mok (i : Nat) : Prop := Cond.code (ck_my i) (ck_mc i) (ck_ml i) (ck_mr i) ∈ ck_AW ∧ Cond.initialized (ck_my i).cls ∈ ck_AW ∧ (ck_my i).cls ≠ "java/lang/invoke/MethodHandle" ∧ (ck_my i).cls ≠ "java/lang/invoke/VarHandle"
theorem mk10 : ck_mok 10 := ⟨(aw3 (List.mem_of_getElem? (i := 154) rfl) rfl), (aw1 (List.mem_of_getElem? (i := 1) rfl) rfl), by decide +kernel, by decide +kernel⟩
theorem mk27 : ck_mok 27 := ⟨(aw4 (List.mem_of_getElem? (i := 57) rfl) rfl), (aw1 (List.mem_of_getElem? (i := 1) rfl) rfl), by decide +kernel, by decide +kernel⟩
theorem mk44 : ck_mok 44 := ⟨(aw4 (List.mem_of_getElem? (i := 233) rfl) rfl), (aw1 (List.mem_of_getElem? (i := 1) rfl) rfl), by decide +kernel, by decide +kernel⟩
theorem mk47 : ck_mok 47 := ⟨(aw5 (List.mem_of_getElem? (i := 39) rfl) rfl), (aw1 (List.mem_of_getElem? (i := 1) rfl) rfl), by decide +kernel, by decide +kernel⟩
theorem mk50 : ck_mok 50 := ⟨(aw5 (List.mem_of_getElem? (i := 74) rfl) rfl), (aw1 (List.mem_of_getElem? (i := 1) rfl) rfl), by decide +kernel, by decide +kernel⟩
theorem mk51 : ck_mok 51 := ⟨(aw5 (List.mem_of_getElem? (i := 97) rfl) rfl), (aw1 (List.mem_of_getElem? (i := 1) rfl) rfl), by decide +kernel, by decide +kernel⟩
theorem mk55 : ck_mok 55 := ⟨(aw5 (List.mem_of_getElem? (i := 128) rfl) rfl), (aw1 (List.mem_of_getElem? (i := 1) rfl) rfl), by decide +kernel, by decide +kernel⟩
theorem mk59 : ck_mok 59 := ⟨(aw3 (List.mem_of_getElem? (i := 1) rfl) rfl), (aw1 (List.mem_of_getElem? (i := 1) rfl) rfl), by decide +kernel, by decide +kernel⟩
theorem mk60 : ck_mok 60 := ⟨(aw3 (List.mem_of_getElem? (i := 87) rfl) rfl), (aw1 (List.mem_of_getElem? (i := 1) rfl) rfl), by decide +kernel, by decide +kernel⟩
theorem mk61 : ck_mok 61 := ⟨(aw3 (List.mem_of_getElem? (i := 157) rfl) rfl), (aw1 (List.mem_of_getElem? (i := 1) rfl) rfl), by decide +kernel, by decide +kernel⟩
theorem mk62 : ck_mok 62 := ⟨(aw6 (List.mem_of_getElem? (i := 77) rfl) rfl), (aw1 (List.mem_of_getElem? (i := 11) rfl) rfl), by decide +kernel, by decide +kernel⟩
theorem mk63 : ck_mok 63 := ⟨(aw6 (List.mem_of_getElem? (i := 73) rfl) rfl), (aw1 (List.mem_of_getElem? (i := 11) rfl) rfl), by decide +kernel, by decide +kernel⟩
theorem mk65 : ck_mok 65 := ⟨(aw6 (List.mem_of_getElem? (i := 84) rfl) rfl), (aw1 (List.mem_of_getElem? (i := 11) rfl) rfl), by decide +kernel, by decide +kernel⟩
theorem mk69 : ck_mok 69 := ⟨(aw6 (List.mem_of_getElem? (i := 96) rfl) rfl), (aw1 (List.mem_of_getElem? (i := 11) rfl) rfl), by decide +kernel, by decide +kernel⟩
theorem mk71 : ck_mok 71 := ⟨(aw6 (List.mem_of_getElem? (i := 124) rfl) rfl), (aw1 (List.mem_of_getElem? (i := 11) rfl) rfl), by decide +kernel, by decide +kernel⟩
theorem mk72 : ck_mok 72 := ⟨(aw6 (List.mem_of_getElem? (i := 120) rfl) rfl), (aw1 (List.mem_of_getElem? (i := 11) rfl) rfl), by decide +kernel, by decide +kernel⟩
theorem mk73 : ck_mok 73 := ⟨(aw6 (List.mem_of_getElem? (i := 133) rfl) rfl), (aw1 (List.mem_of_getElem? (i := 11) rfl) rfl), by decide +kernel, by decide +kernel⟩
theorem mk74 : ck_mok 74 := ⟨(aw6 (List.mem_of_getElem? (i := 150) rfl) rfl), (aw1 (List.mem_of_getElem? (i := 11) rfl) rfl), by decide +kernel, by decide +kernel⟩
theorem mk75 : ck_mok 75 := ⟨(aw6 (List.mem_of_getElem? (i := 146) rfl) rfl), (aw1 (List.mem_of_getElem? (i := 11) rfl) rfl), by decide +kernel, by decide +kernel⟩
theorem mk76 : ck_mok 76 := ⟨(aw6 (List.mem_of_getElem? (i := 142) rfl) rfl), (aw1 (List.mem_of_getElem? (i := 11) rfl) rfl), by decide +kernel, by decide +kernel⟩
theorem mk77 : ck_mok 77 := ⟨(aw6 (List.mem_of_getElem? (i := 138) rfl) rfl), (aw1 (List.mem_of_getElem? (i := 11) rfl) rfl), by decide +kernel, by decide +kernel⟩
theorem mk78 : ck_mok 78 := ⟨(aw6 (List.mem_of_getElem? (i := 154) rfl) rfl), (aw1 (List.mem_of_getElem? (i := 11) rfl) rfl), by decide +kernel, by decide +kernel⟩
theorem mk79 : ck_mok 79 := ⟨(aw6 (List.mem_of_getElem? (i := 164) rfl) rfl), (aw1 (List.mem_of_getElem? (i := 11) rfl) rfl), by decide +kernel, by decide +kernel⟩
theorem mk80 : ck_mok 80 := ⟨(aw6 (List.mem_of_getElem? (i := 193) rfl) rfl), (aw1 (List.mem_of_getElem? (i := 11) rfl) rfl), by decide +kernel, by decide +kernel⟩
theorem mk81 : ck_mok 81 := ⟨(aw6 (List.mem_of_getElem? (i := 116) rfl) rfl), (aw1 (List.mem_of_getElem? (i := 11) rfl) rfl), by decide +kernel, by decide +kernel⟩
theorem mk82 : ck_mok 82 := ⟨(aw6 (List.mem_of_getElem? (i := 197) rfl) rfl), (aw1 (List.mem_of_getElem? (i := 11) rfl) rfl), by decide +kernel, by decide +kernel⟩
theorem mk84 : ck_mok 84 := ⟨(aw6 (List.mem_of_getElem? (i := 171) rfl) rfl), (aw1 (List.mem_of_getElem? (i := 11) rfl) rfl), by decide +kernel, by decide +kernel⟩
theorem mk85 : ck_mok 85 := ⟨(aw6 (List.mem_of_getElem? (i := 175) rfl) rfl), (aw1 (List.mem_of_getElem? (i := 11) rfl) rfl), by decide +kernel, by decide +kernel⟩
theorem mk86 : ck_mok 86 := ⟨(aw6 (List.mem_of_getElem? (i := 188) rfl) rfl), (aw1 (List.mem_of_getElem? (i := 11) rfl) rfl), by decide +kernel, by decide +kernel⟩
theorem mk87 : ck_mok 87 := ⟨(aw6 (List.mem_of_getElem? (i := 158) rfl) rfl), (aw1 (List.mem_of_getElem? (i := 11) rfl) rfl), by decide +kernel, by decide +kernel⟩
theorem mk88 : ck_mok 88 := ⟨(aw6 (List.mem_of_getElem? (i := 112) rfl) rfl), (aw1 (List.mem_of_getElem? (i := 11) rfl) rfl), by decide +kernel, by decide +kernel⟩
theorem mk90 : ck_mok 90 := ⟨(aw6 (List.mem_of_getElem? (i := 204) rfl) rfl), (aw1 (List.mem_of_getElem? (i := 11) rfl) rfl), by decide +kernel, by decide +kernel⟩
theorem mk91 : ck_mok 91 := ⟨(aw6 (List.mem_of_getElem? (i := 201) rfl) rfl), (aw1 (List.mem_of_getElem? (i := 11) rfl) rfl), by decide +kernel, by decide +kernel⟩
theorem mk92 : ck_mok 92 := ⟨(aw7 (List.mem_of_getElem? (i := 1) rfl) rfl), (aw1 (List.mem_of_getElem? (i := 11) rfl) rfl), by decide +kernel, by decide +kernel⟩
theorem mk93 : ck_mok 93 := ⟨(aw6 (List.mem_of_getElem? (i := 212) rfl) rfl), (aw1 (List.mem_of_getElem? (i := 11) rfl) rfl), by decide +kernel, by decide +kernel⟩
theorem mk94 : ck_mok 94 := ⟨(aw6 (List.mem_of_getElem? (i := 215) rfl) rfl), (aw1 (List.mem_of_getElem? (i := 11) rfl) rfl), by decide +kernel, by decide +kernel⟩
theorem mk95 : ck_mok 95 := ⟨(aw6 (List.mem_of_getElem? (i := 225) rfl) rfl), (aw1 (List.mem_of_getElem? (i := 11) rfl) rfl), by decide +kernel, by decide +kernel⟩
theorem mk96 : ck_mok 96 := ⟨(aw6 (List.mem_of_getElem? (i := 221) rfl) rfl), (aw1 (List.mem_of_getElem? (i := 11) rfl) rfl), by decide +kernel, by decide +kernel⟩
theorem mk97 : ck_mok 97 := ⟨(aw6 (List.mem_of_getElem? (i := 229) rfl) rfl), (aw1 (List.mem_of_getElem? (i := 11) rfl) rfl), by decide +kernel, by decide +kernel⟩
theorem mk100 : ck_mok 100 := ⟨(aw7 (List.mem_of_getElem? (i := 5) rfl) rfl), (aw1 (List.mem_of_getElem? (i := 11) rfl) rfl), by decide +kernel, by decide +kernel⟩
theorem mk102 : ck_mok 102 := ⟨(aw7 (List.mem_of_getElem? (i := 13) rfl) rfl), (aw1 (List.mem_of_getElem? (i := 11) rfl) rfl), by decide +kernel, by decide +kernel⟩
theorem mk106 : ck_mok 106 := ⟨(aw7 (List.mem_of_getElem? (i := 37) rfl) rfl), (aw1 (List.mem_of_getElem? (i := 11) rfl) rfl), by decide +kernel, by decide +kernel⟩
theorem mk107 : ck_mok 107 := ⟨(aw7 (List.mem_of_getElem? (i := 33) rfl) rfl), (aw1 (List.mem_of_getElem? (i := 11) rfl) rfl), by decide +kernel, by decide +kernel⟩
theorem mk108 : ck_mok 108 := ⟨(aw7 (List.mem_of_getElem? (i := 29) rfl) rfl), (aw1 (List.mem_of_getElem? (i := 11) rfl) rfl), by decide +kernel, by decide +kernel⟩
theorem mk111 : ck_mok 111 := ⟨(aw7 (List.mem_of_getElem? (i := 49) rfl) rfl), (aw1 (List.mem_of_getElem? (i := 11) rfl) rfl), by decide +kernel, by decide +kernel⟩
theorem mk115 : ck_mok 115 := ⟨(aw7 (List.mem_of_getElem? (i := 74) rfl) rfl), (aw1 (List.mem_of_getElem? (i := 11) rfl) rfl), by decide +kernel, by decide +kernel⟩
theorem mk116 : ck_mok 116 := ⟨(aw7 (List.mem_of_getElem? (i := 70) rfl) rfl), (aw1 (List.mem_of_getElem? (i := 11) rfl) rfl), by decide +kernel, by decide +kernel⟩
theorem mk117 : ck_mok 117 := ⟨(aw7 (List.mem_of_getElem? (i := 65) rfl) rfl), (aw1 (List.mem_of_getElem? (i := 11) rfl) rfl), by decide +kernel, by decide +kernel⟩
theorem mk122 : ck_mok 122 := ⟨(aw7 (List.mem_of_getElem? (i := 94) rfl) rfl), (aw1 (List.mem_of_getElem? (i := 11) rfl) rfl), by decide +kernel, by decide +kernel⟩
theorem mk124 : ck_mok 124 := ⟨(aw7 (List.mem_of_getElem? (i := 110) rfl) rfl), (aw1 (List.mem_of_getElem? (i := 11) rfl) rfl), by decide +kernel, by decide +kernel⟩
theorem mk125 : ck_mok 125 := ⟨(aw7 (List.mem_of_getElem? (i := 106) rfl) rfl), (aw1 (List.mem_of_getElem? (i := 11) rfl) rfl), by decide +kernel, by decide +kernel⟩
theorem mk126 : ck_mok 126 := ⟨(aw7 (List.mem_of_getElem? (i := 102) rfl) rfl), (aw1 (List.mem_of_getElem? (i := 11) rfl) rfl), by decide +kernel, by decide +kernel⟩
theorem mk131 : ck_mok 131 := ⟨(aw7 (List.mem_of_getElem? (i := 132) rfl) rfl), (aw1 (List.mem_of_getElem? (i := 11) rfl) rfl), by decide +kernel, by decide +kernel⟩
theorem mk134 : ck_mok 134 := ⟨(aw7 (List.mem_of_getElem? (i := 148) rfl) rfl), (aw1 (List.mem_of_getElem? (i := 11) rfl) rfl), by decide +kernel, by decide +kernel⟩
theorem mk135 : ck_mok 135 := ⟨(aw7 (List.mem_of_getElem? (i := 144) rfl) rfl), (aw1 (List.mem_of_getElem? (i := 11) rfl) rfl), by decide +kernel, by decide +kernel⟩
theorem mk141 : ck_mok 141 := ⟨(aw7 (List.mem_of_getElem? (i := 172) rfl) rfl), (aw1 (List.mem_of_getElem? (i := 11) rfl) rfl), by decide +kernel, by decide +kernel⟩
theorem mk142 : ck_mok 142 := ⟨(aw7 (List.mem_of_getElem? (i := 176) rfl) rfl), (aw1 (List.mem_of_getElem? (i := 11) rfl) rfl), by decide +kernel, by decide +kernel⟩
theorem mk144 : ck_mok 144 := ⟨(aw7 (List.mem_of_getElem? (i := 195) rfl) rfl), (aw1 (List.mem_of_getElem? (i := 11) rfl) rfl), by decide +kernel, by decide +kernel⟩
theorem mk145 : ck_mok 145 := ⟨(aw7 (List.mem_of_getElem? (i := 192) rfl) rfl), (aw1 (List.mem_of_getElem? (i := 11) rfl) rfl), by decide +kernel, by decide +kernel⟩
theorem mk146 : ck_mok 146 := ⟨(aw7 (List.mem_of_getElem? (i := 184) rfl) rfl), (aw1 (List.mem_of_getElem? (i := 11) rfl) rfl), by decide +kernel, by decide +kernel⟩
theorem mk147 : ck_mok 147 := ⟨(aw7 (List.mem_of_getElem? (i := 188) rfl) rfl), (aw1 (List.mem_of_getElem? (i := 11) rfl) rfl), by decide +kernel, by decide +kernel⟩
theorem mk150 : ck_mok 150 := ⟨(aw7 (List.mem_of_getElem? (i := 217) rfl) rfl), (aw1 (List.mem_of_getElem? (i := 11) rfl) rfl), by decide +kernel, by decide +kernel⟩
theorem mk151 : ck_mok 151 := ⟨(aw7 (List.mem_of_getElem? (i := 211) rfl) rfl), (aw1 (List.mem_of_getElem? (i := 11) rfl) rfl), by decide +kernel, by decide +kernel⟩
theorem mk152 : ck_mok 152 := ⟨(aw7 (List.mem_of_getElem? (i := 214) rfl) rfl), (aw1 (List.mem_of_getElem? (i := 11) rfl) rfl), by decide +kernel, by decide +kernel⟩
theorem mk153 : ck_mok 153 := ⟨(aw7 (List.mem_of_getElem? (i := 206) rfl) rfl), (aw1 (List.mem_of_getElem? (i := 11) rfl) rfl), by decide +kernel, by decide +kernel⟩
theorem mk160 : ck_mok 160 := ⟨(aw8 (List.mem_of_getElem? (i := 5) rfl) rfl), (aw1 (List.mem_of_getElem? (i := 11) rfl) rfl), by decide +kernel, by decide +kernel⟩
theorem mk163 : ck_mok 163 := ⟨(aw8 (List.mem_of_getElem? (i := 23) rfl) rfl), (aw1 (List.mem_of_getElem? (i := 11) rfl) rfl), by decide +kernel, by decide +kernel⟩
theorem mk164 : ck_mok 164 := ⟨(aw8 (List.mem_of_getElem? (i := 27) rfl) rfl), (aw1 (List.mem_of_getElem? (i := 11) rfl) rfl), by decide +kernel, by decide +kernel⟩
theorem mk165 : ck_mok 165 := ⟨(aw8 (List.mem_of_getElem? (i := 17) rfl) rfl), (aw1 (List.mem_of_getElem? (i := 11) rfl) rfl), by decide +kernel, by decide +kernel⟩
theorem mk168 : ck_mok 168 := ⟨(aw8 (List.mem_of_getElem? (i := 45) rfl) rfl), (aw1 (List.mem_of_getElem? (i := 11) rfl) rfl), by decide +kernel, by decide +kernel⟩
theorem mk169 : ck_mok 169 := ⟨(aw8 (List.mem_of_getElem? (i := 51) rfl) rfl), (aw1 (List.mem_of_getElem? (i := 11) rfl) rfl), by decide +kernel, by decide +kernel⟩
theorem mk175 : ck_mok 175 := ⟨(aw2 (List.mem_of_getElem? (i := 130) rfl) rfl), (aw1 (List.mem_of_getElem? (i := 2) rfl) rfl), by decide +kernel, by decide +kernel⟩
theorem mk176 : ck_mok 176 := ⟨(aw2 (List.mem_of_getElem? (i := 225) rfl) rfl), (aw1 (List.mem_of_getElem? (i := 2) rfl) rfl), by decide +kernel, by decide +kernel⟩
theorem mk177 : ck_mok 177 := ⟨(aw3 (List.mem_of_getElem? (i := 72) rfl) rfl), (aw1 (List.mem_of_getElem? (i := 2) rfl) rfl), by decide +kernel, by decide +kernel⟩
theorem mk178 : ck_mok 178 := ⟨(aw3 (List.mem_of_getElem? (i := 116) rfl) rfl), (aw1 (List.mem_of_getElem? (i := 2) rfl) rfl), by decide +kernel, by decide +kernel⟩
theorem mk179 : ck_mok 179 := ⟨(aw2 (List.mem_of_getElem? (i := 238) rfl) rfl), (aw1 (List.mem_of_getElem? (i := 2) rfl) rfl), by decide +kernel, by decide +kernel⟩
theorem mk180 : ck_mok 180 := ⟨(aw2 (List.mem_of_getElem? (i := 234) rfl) rfl), (aw1 (List.mem_of_getElem? (i := 2) rfl) rfl), by decide +kernel, by decide +kernel⟩
theorem mk181 : ck_mok 181 := ⟨(aw4 (List.mem_of_getElem? (i := 104) rfl) rfl), (aw1 (List.mem_of_getElem? (i := 2) rfl) rfl), by decide +kernel, by decide +kernel⟩
theorem mk182 : ck_mok 182 := ⟨(aw3 (List.mem_of_getElem? (i := 93) rfl) rfl), (aw1 (List.mem_of_getElem? (i := 2) rfl) rfl), by decide +kernel, by decide +kernel⟩
theorem mk183 : ck_mok 183 := ⟨(aw3 (List.mem_of_getElem? (i := 104) rfl) rfl), (aw1 (List.mem_of_getElem? (i := 2) rfl) rfl), by decide +kernel, by decide +kernel⟩
theorem mk184 : ck_mok 184 := ⟨(aw3 (List.mem_of_getElem? (i := 97) rfl) rfl), (aw1 (List.mem_of_getElem? (i := 2) rfl) rfl), by decide +kernel, by decide +kernel⟩
theorem mk185 : ck_mok 185 := ⟨(aw2 (List.mem_of_getElem? (i := 230) rfl) rfl), (aw1 (List.mem_of_getElem? (i := 2) rfl) rfl), by decide +kernel, by decide +kernel⟩
theorem mk186 : ck_mok 186 := ⟨(aw3 (List.mem_of_getElem? (i := 37) rfl) rfl), (aw1 (List.mem_of_getElem? (i := 2) rfl) rfl), by decide +kernel, by decide +kernel⟩
theorem mk187 : ck_mok 187 := ⟨(aw3 (List.mem_of_getElem? (i := 23) rfl) rfl), (aw1 (List.mem_of_getElem? (i := 2) rfl) rfl), by decide +kernel, by decide +kernel⟩
theorem mk188 : ck_mok 188 := ⟨(aw3 (List.mem_of_getElem? (i := 47) rfl) rfl), (aw1 (List.mem_of_getElem? (i := 2) rfl) rfl), by decide +kernel, by decide +kernel⟩
theorem mk189 : ck_mok 189 := ⟨(aw3 (List.mem_of_getElem? (i := 57) rfl) rfl), (aw1 (List.mem_of_getElem? (i := 2) rfl) rfl), by decide +kernel, by decide +kernel⟩
theorem mk190 : ck_mok 190 := ⟨(aw5 (List.mem_of_getElem? (i := 111) rfl) rfl), (aw1 (List.mem_of_getElem? (i := 2) rfl) rfl), by decide +kernel, by decide +kernel⟩
theorem mk191 : ck_mok 191 := ⟨(aw5 (List.mem_of_getElem? (i := 116) rfl) rfl), (aw1 (List.mem_of_getElem? (i := 2) rfl) rfl), by decide +kernel, by decide +kernel⟩
theorem mk192 : ck_mok 192 := ⟨(aw4 (List.mem_of_getElem? (i := 92) rfl) rfl), (aw1 (List.mem_of_getElem? (i := 2) rfl) rfl), by decide +kernel, by decide +kernel⟩
theorem mk193 : ck_mok 193 := ⟨(aw4 (List.mem_of_getElem? (i := 48) rfl) rfl), (aw1 (List.mem_of_getElem? (i := 2) rfl) rfl), by decide +kernel, by decide +kernel⟩
theorem mk194 : ck_mok 194 := ⟨(aw4 (List.mem_of_getElem? (i := 61) rfl) rfl), (aw1 (List.mem_of_getElem? (i := 2) rfl) rfl), by decide +kernel, by decide +kernel⟩
theorem mk195 : ck_mok 195 := ⟨(aw4 (List.mem_of_getElem? (i := 65) rfl) rfl), (aw1 (List.mem_of_getElem? (i := 2) rfl) rfl), by decide +kernel, by decide +kernel⟩
theorem mk196 : ck_mok 196 := ⟨(aw4 (List.mem_of_getElem? (i := 70) rfl) rfl), (aw1 (List.mem_of_getElem? (i := 2) rfl) rfl), by decide +kernel, by decide +kernel⟩
theorem mk197 : ck_mok 197 := ⟨(aw3 (List.mem_of_getElem? (i := 120) rfl) rfl), (aw1 (List.mem_of_getElem? (i := 4) rfl) rfl), by decide +kernel, by decide +kernel⟩
theorem mk198 : ck_mok 198 := ⟨(aw3 (List.mem_of_getElem? (i := 173) rfl) rfl), (aw1 (List.mem_of_getElem? (i := 4) rfl) rfl), by decide +kernel, by decide +kernel⟩
theorem mk199 : ck_mok 199 := ⟨(aw3 (List.mem_of_getElem? (i := 124) rfl) rfl), (aw1 (List.mem_of_getElem? (i := 4) rfl) rfl), by decide +kernel, by decide +kernel⟩
theorem mk200 : ck_mok 200 := ⟨(aw3 (List.mem_of_getElem? (i := 127) rfl) rfl), (aw1 (List.mem_of_getElem? (i := 4) rfl) rfl), by decide +kernel, by decide +kernel⟩
theorem mk201 : ck_mok 201 := ⟨(aw3 (List.mem_of_getElem? (i := 133) rfl) rfl), (aw1 (List.mem_of_getElem? (i := 4) rfl) rfl), by decide +kernel, by decide +kernel⟩
theorem mk202 : ck_mok 202 := ⟨(aw3 (List.mem_of_getElem? (i := 140) rfl) rfl), (aw1 (List.mem_of_getElem? (i := 4) rfl) rfl), by decide +kernel, by decide +kernel⟩
theorem mk203 : ck_mok 203 := ⟨(aw3 (List.mem_of_getElem? (i := 194) rfl) rfl), (aw1 (List.mem_of_getElem? (i := 4) rfl) rfl), by decide +kernel, by decide +kernel⟩
theorem mk204 : ck_mok 204 := ⟨(aw3 (List.mem_of_getElem? (i := 198) rfl) rfl), (aw1 (List.mem_of_getElem? (i := 4) rfl) rfl), by decide +kernel, by decide +kernel⟩
theorem mk205 : ck_mok 205 := ⟨(aw3 (List.mem_of_getElem? (i := 178) rfl) rfl), (aw1 (List.mem_of_getElem? (i := 4) rfl) rfl), by decide +kernel, by decide +kernel⟩
theorem mk206 : ck_mok 206 := ⟨(aw3 (List.mem_of_getElem? (i := 215) rfl) rfl), (aw1 (List.mem_of_getElem? (i := 4) rfl) rfl), by decide +kernel, by decide +kernel⟩
theorem mk207 : ck_mok 207 := ⟨(aw3 (List.mem_of_getElem? (i := 223) rfl) rfl), (aw1 (List.mem_of_getElem? (i := 4) rfl) rfl), by decide +kernel, by decide +kernel⟩
theorem mk208 : ck_mok 208 := ⟨(aw3 (List.mem_of_getElem? (i := 227) rfl) rfl), (aw1 (List.mem_of_getElem? (i := 4) rfl) rfl), by decide +kernel, by decide +kernel⟩
theorem mk209 : ck_mok 209 := ⟨(aw3 (List.mem_of_getElem? (i := 239) rfl) rfl), (aw1 (List.mem_of_getElem? (i := 4) rfl) rfl), by decide +kernel, by decide +kernel⟩
theorem mk210 : ck_mok 210 := ⟨(aw3 (List.mem_of_getElem? (i := 219) rfl) rfl), (aw1 (List.mem_of_getElem? (i := 4) rfl) rfl), by decide +kernel, by decide +kernel⟩
theorem mk211 : ck_mok 211 := ⟨(aw3 (List.mem_of_getElem? (i := 235) rfl) rfl), (aw1 (List.mem_of_getElem? (i := 4) rfl) rfl), by decide +kernel, by decide +kernel⟩
theorem mk212 : ck_mok 212 := ⟨(aw4 (List.mem_of_getElem? (i := 7) rfl) rfl), (aw1 (List.mem_of_getElem? (i := 4) rfl) rfl), by decide +kernel, by decide +kernel⟩
theorem mk213 : ck_mok 213 := ⟨(aw4 (List.mem_of_getElem? (i := 15) rfl) rfl), (aw1 (List.mem_of_getElem? (i := 4) rfl) rfl), by decide +kernel, by decide +kernel⟩
theorem mk214 : ck_mok 214 := ⟨(aw4 (List.mem_of_getElem? (i := 11) rfl) rfl), (aw1 (List.mem_of_getElem? (i := 4) rfl) rfl), by decide +kernel, by decide +kernel⟩
theorem mk215 : ck_mok 215 := ⟨(aw4 (List.mem_of_getElem? (i := 23) rfl) rfl), (aw1 (List.mem_of_getElem? (i := 4) rfl) rfl), by decide +kernel, by decide +kernel⟩
theorem mk216 : ck_mok 216 := ⟨(aw4 (List.mem_of_getElem? (i := 32) rfl) rfl), (aw1 (List.mem_of_getElem? (i := 4) rfl) rfl), by decide +kernel, by decide +kernel⟩
theorem mk217 : ck_mok 217 := ⟨(aw4 (List.mem_of_getElem? (i := 40) rfl) rfl), (aw1 (List.mem_of_getElem? (i := 4) rfl) rfl), by decide +kernel, by decide +kernel⟩
theorem mk218 : ck_mok 218 := ⟨(aw4 (List.mem_of_getElem? (i := 157) rfl) rfl), (aw1 (List.mem_of_getElem? (i := 4) rfl) rfl), by decide +kernel, by decide +kernel⟩
theorem mk219 : ck_mok 219 := ⟨(aw4 (List.mem_of_getElem? (i := 120) rfl) rfl), (aw1 (List.mem_of_getElem? (i := 5) rfl) rfl), by decide +kernel, by decide +kernel⟩
theorem mk220 : ck_mok 220 := ⟨(aw4 (List.mem_of_getElem? (i := 116) rfl) rfl), (aw1 (List.mem_of_getElem? (i := 5) rfl) rfl), by decide +kernel, by decide +kernel⟩
theorem mk221 : ck_mok 221 := ⟨(aw4 (List.mem_of_getElem? (i := 124) rfl) rfl), (aw1 (List.mem_of_getElem? (i := 5) rfl) rfl), by decide +kernel, by decide +kernel⟩
theorem mk222 : ck_mok 222 := ⟨(aw4 (List.mem_of_getElem? (i := 133) rfl) rfl), (aw1 (List.mem_of_getElem? (i := 5) rfl) rfl), by decide +kernel, by decide +kernel⟩
theorem mk223 : ck_mok 223 := ⟨(aw4 (List.mem_of_getElem? (i := 137) rfl) rfl), (aw1 (List.mem_of_getElem? (i := 5) rfl) rfl), by decide +kernel, by decide +kernel⟩
theorem mk224 : ck_mok 224 := ⟨(aw4 (List.mem_of_getElem? (i := 141) rfl) rfl), (aw1 (List.mem_of_getElem? (i := 5) rfl) rfl), by decide +kernel, by decide +kernel⟩
theorem mk225 : ck_mok 225 := ⟨(aw4 (List.mem_of_getElem? (i := 145) rfl) rfl), (aw1 (List.mem_of_getElem? (i := 5) rfl) rfl), by decide +kernel, by decide +kernel⟩
theorem mk226 : ck_mok 226 := ⟨(aw4 (List.mem_of_getElem? (i := 165) rfl) rfl), (aw1 (List.mem_of_getElem? (i := 5) rfl) rfl), by decide +kernel, by decide +kernel⟩
theorem mk227 : ck_mok 227 := ⟨(aw2 (List.mem_of_getElem? (i := 109) rfl) rfl), (aw1 (List.mem_of_getElem? (i := 3) rfl) rfl), by decide +kernel, by decide +kernel⟩
theorem mk228 : ck_mok 228 := ⟨(aw2 (List.mem_of_getElem? (i := 113) rfl) rfl), (aw1 (List.mem_of_getElem? (i := 3) rfl) rfl), by decide +kernel, by decide +kernel⟩
theorem mk229 : ck_mok 229 := ⟨(aw2 (List.mem_of_getElem? (i := 126) rfl) rfl), (aw1 (List.mem_of_getElem? (i := 3) rfl) rfl), by decide +kernel, by decide +kernel⟩
theorem mk230 : ck_mok 230 := ⟨(aw2 (List.mem_of_getElem? (i := 152) rfl) rfl), (aw1 (List.mem_of_getElem? (i := 3) rfl) rfl), by decide +kernel, by decide +kernel⟩
theorem mk231 : ck_mok 231 := ⟨(aw2 (List.mem_of_getElem? (i := 156) rfl) rfl), (aw1 (List.mem_of_getElem? (i := 3) rfl) rfl), by decide +kernel, by decide +kernel⟩
theorem mk232 : ck_mok 232 := ⟨(aw3 (List.mem_of_getElem? (i := 6) rfl) rfl), (aw1 (List.mem_of_getElem? (i := 3) rfl) rfl), by decide +kernel, by decide +kernel⟩
theorem mk233 : ck_mok 233 := ⟨(aw3 (List.mem_of_getElem? (i := 14) rfl) rfl), (aw1 (List.mem_of_getElem? (i := 3) rfl) rfl), by decide +kernel, by decide +kernel⟩
theorem mk234 : ck_mok 234 := ⟨(aw3 (List.mem_of_getElem? (i := 28) rfl) rfl), (aw1 (List.mem_of_getElem? (i := 3) rfl) rfl), by decide +kernel, by decide +kernel⟩
theorem mk235 : ck_mok 235 := ⟨(aw3 (List.mem_of_getElem? (i := 32) rfl) rfl), (aw1 (List.mem_of_getElem? (i := 3) rfl) rfl), by decide +kernel, by decide +kernel⟩
theorem mk236 : ck_mok 236 := ⟨(aw3 (List.mem_of_getElem? (i := 43) rfl) rfl), (aw1 (List.mem_of_getElem? (i := 3) rfl) rfl), by decide +kernel, by decide +kernel⟩
theorem mk237 : ck_mok 237 := ⟨(aw3 (List.mem_of_getElem? (i := 52) rfl) rfl), (aw1 (List.mem_of_getElem? (i := 3) rfl) rfl), by decide +kernel, by decide +kernel⟩
theorem mk238 : ck_mok 238 := ⟨(aw3 (List.mem_of_getElem? (i := 62) rfl) rfl), (aw1 (List.mem_of_getElem? (i := 3) rfl) rfl), by decide +kernel, by decide +kernel⟩
theorem mk239 : ck_mok 239 := ⟨(aw3 (List.mem_of_getElem? (i := 68) rfl) rfl), (aw1 (List.mem_of_getElem? (i := 3) rfl) rfl), by decide +kernel, by decide +kernel⟩
theorem mk240 : ck_mok 240 := ⟨(aw2 (List.mem_of_getElem? (i := 161) rfl) rfl), (aw1 (List.mem_of_getElem? (i := 3) rfl) rfl), by decide +kernel, by decide +kernel⟩
theorem mk241 : ck_mok 241 := ⟨(aw2 (List.mem_of_getElem? (i := 221) rfl) rfl), (aw1 (List.mem_of_getElem? (i := 3) rfl) rfl), by decide +kernel, by decide +kernel⟩
theorem mk242 : ck_mok 242 := ⟨(aw3 (List.mem_of_getElem? (i := 10) rfl) rfl), (aw1 (List.mem_of_getElem? (i := 3) rfl) rfl), by decide +kernel, by decide +kernel⟩
theorem mk243 : ck_mok 243 := ⟨(aw2 (List.mem_of_getElem? (i := 217) rfl) rfl), (aw1 (List.mem_of_getElem? (i := 3) rfl) rfl), by decide +kernel, by decide +kernel⟩
theorem mk244 : ck_mok 244 := ⟨(aw2 (List.mem_of_getElem? (i := 165) rfl) rfl), (aw1 (List.mem_of_getElem? (i := 3) rfl) rfl), by decide +kernel, by decide +kernel⟩
theorem mk245 : ck_mok 245 := ⟨(aw2 (List.mem_of_getElem? (i := 134) rfl) rfl), (aw1 (List.mem_of_getElem? (i := 3) rfl) rfl), by decide +kernel, by decide +kernel⟩
theorem mk246 : ck_mok 246 := ⟨(aw2 (List.mem_of_getElem? (i := 138) rfl) rfl), (aw1 (List.mem_of_getElem? (i := 3) rfl) rfl), by decide +kernel, by decide +kernel⟩
theorem mk247 : ck_mok 247 := ⟨(aw2 (List.mem_of_getElem? (i := 141) rfl) rfl), (aw1 (List.mem_of_getElem? (i := 3) rfl) rfl), by decide +kernel, by decide +kernel⟩
theorem mk248 : ck_mok 248 := ⟨(aw2 (List.mem_of_getElem? (i := 144) rfl) rfl), (aw1 (List.mem_of_getElem? (i := 3) rfl) rfl), by decide +kernel, by decide +kernel⟩
theorem mk249 : ck_mok 249 := ⟨(aw5 (List.mem_of_getElem? (i := 78) rfl) rfl), (aw1 (List.mem_of_getElem? (i := 9) rfl) rfl), by decide +kernel, by decide +kernel⟩
theorem mk250 : ck_mok 250 := ⟨(aw5 (List.mem_of_getElem? (i := 82) rfl) rfl), (aw1 (List.mem_of_getElem? (i := 9) rfl) rfl), by decide +kernel, by decide +kernel⟩
theorem mk251 : ck_mok 251 := ⟨(aw5 (List.mem_of_getElem? (i := 120) rfl) rfl), (aw1 (List.mem_of_getElem? (i := 9) rfl) rfl), by decide +kernel, by decide +kernel⟩
theorem mk252 : ck_mok 252 := ⟨(aw5 (List.mem_of_getElem? (i := 140) rfl) rfl), (aw1 (List.mem_of_getElem? (i := 9) rfl) rfl), by decide +kernel, by decide +kernel⟩
theorem mk253 : ck_mok 253 := ⟨(aw5 (List.mem_of_getElem? (i := 91) rfl) rfl), (aw1 (List.mem_of_getElem? (i := 9) rfl) rfl), by decide +kernel, by decide +kernel⟩
theorem mk254 : ck_mok 254 := ⟨(aw5 (List.mem_of_getElem? (i := 148) rfl) rfl), (aw1 (List.mem_of_getElem? (i := 9) rfl) rfl), by decide +kernel, by decide +kernel⟩
theorem mk255 : ck_mok 255 := ⟨(aw5 (List.mem_of_getElem? (i := 151) rfl) rfl), (aw1 (List.mem_of_getElem? (i := 9) rfl) rfl), by decide +kernel, by decide +kernel⟩
theorem mk256 : ck_mok 256 := ⟨(aw5 (List.mem_of_getElem? (i := 87) rfl) rfl), (aw1 (List.mem_of_getElem? (i := 9) rfl) rfl), by decide +kernel, by decide +kernel⟩
theorem mk257 : ck_mok 257 := ⟨(aw5 (List.mem_of_getElem? (i := 160) rfl) rfl), (aw1 (List.mem_of_getElem? (i := 9) rfl) rfl), by decide +kernel, by decide +kernel⟩
theorem mk258 : ck_mok 258 := ⟨(aw4 (List.mem_of_getElem? (i := 176) rfl) rfl), (aw1 (List.mem_of_getElem? (i := 6) rfl) rfl), by decide +kernel, by decide +kernel⟩
theorem mk259 : ck_mok 259 := ⟨(aw4 (List.mem_of_getElem? (i := 179) rfl) rfl), (aw1 (List.mem_of_getElem? (i := 6) rfl) rfl), by decide +kernel, by decide +kernel⟩
theorem mk260 : ck_mok 260 := ⟨(aw4 (List.mem_of_getElem? (i := 189) rfl) rfl), (aw1 (List.mem_of_getElem? (i := 6) rfl) rfl), by decide +kernel, by decide +kernel⟩
theorem mk261 : ck_mok 261 := ⟨(aw4 (List.mem_of_getElem? (i := 192) rfl) rfl), (aw1 (List.mem_of_getElem? (i := 6) rfl) rfl), by decide +kernel, by decide +kernel⟩
theorem mk262 : ck_mok 262 := ⟨(aw4 (List.mem_of_getElem? (i := 196) rfl) rfl), (aw1 (List.mem_of_getElem? (i := 6) rfl) rfl), by decide +kernel, by decide +kernel⟩
theorem mk263 : ck_mok 263 := ⟨(aw4 (List.mem_of_getElem? (i := 201) rfl) rfl), (aw1 (List.mem_of_getElem? (i := 6) rfl) rfl), by decide +kernel, by decide +kernel⟩
theorem mk264 : ck_mok 264 := ⟨(aw4 (List.mem_of_getElem? (i := 209) rfl) rfl), (aw1 (List.mem_of_getElem? (i := 6) rfl) rfl), by decide +kernel, by decide +kernel⟩
theorem mk265 : ck_mok 265 := ⟨(aw4 (List.mem_of_getElem? (i := 213) rfl) rfl), (aw1 (List.mem_of_getElem? (i := 6) rfl) rfl), by decide +kernel, by decide +kernel⟩
theorem mk266 : ck_mok 266 := ⟨(aw4 (List.mem_of_getElem? (i := 216) rfl) rfl), (aw1 (List.mem_of_getElem? (i := 6) rfl) rfl), by decide +kernel, by decide +kernel⟩
theorem mk267 : ck_mok 267 := ⟨(aw5 (List.mem_of_getElem? (i := 44) rfl) rfl), (aw1 (List.mem_of_getElem? (i := 8) rfl) rfl), by decide +kernel, by decide +kernel⟩
theorem mk268 : ck_mok 268 := ⟨(aw5 (List.mem_of_getElem? (i := 48) rfl) rfl), (aw1 (List.mem_of_getElem? (i := 8) rfl) rfl), by decide +kernel, by decide +kernel⟩
theorem mk269 : ck_mok 269 := ⟨(aw5 (List.mem_of_getElem? (i := 55) rfl) rfl), (aw1 (List.mem_of_getElem? (i := 8) rfl) rfl), by decide +kernel, by decide +kernel⟩
theorem mk270 : ck_mok 270 := ⟨(aw5 (List.mem_of_getElem? (i := 59) rfl) rfl), (aw1 (List.mem_of_getElem? (i := 8) rfl) rfl), by decide +kernel, by decide +kernel⟩
theorem mk271 : ck_mok 271 := ⟨(aw4 (List.mem_of_getElem? (i := 237) rfl) rfl), (aw1 (List.mem_of_getElem? (i := 7) rfl) rfl), by decide +kernel, by decide +kernel⟩
theorem mk272 : ck_mok 272 := ⟨(aw5 (List.mem_of_getElem? (i := 1) rfl) rfl), (aw1 (List.mem_of_getElem? (i := 7) rfl) rfl), by decide +kernel, by decide +kernel⟩
theorem mk273 : ck_mok 273 := ⟨(aw5 (List.mem_of_getElem? (i := 6) rfl) rfl), (aw1 (List.mem_of_getElem? (i := 7) rfl) rfl), by decide +kernel, by decide +kernel⟩
theorem mk274 : ck_mok 274 := ⟨(aw5 (List.mem_of_getElem? (i := 11) rfl) rfl), (aw1 (List.mem_of_getElem? (i := 7) rfl) rfl), by decide +kernel, by decide +kernel⟩
theorem mk275 : ck_mok 275 := ⟨(aw5 (List.mem_of_getElem? (i := 15) rfl) rfl), (aw1 (List.mem_of_getElem? (i := 7) rfl) rfl), by decide +kernel, by decide +kernel⟩
theorem mk276 : ck_mok 276 := ⟨(aw5 (List.mem_of_getElem? (i := 19) rfl) rfl), (aw1 (List.mem_of_getElem? (i := 7) rfl) rfl), by decide +kernel, by decide +kernel⟩
theorem mk277 : ck_mok 277 := ⟨(aw5 (List.mem_of_getElem? (i := 27) rfl) rfl), (aw1 (List.mem_of_getElem? (i := 7) rfl) rfl), by decide +kernel, by decide +kernel⟩
theorem mk278 : ck_mok 278 := ⟨(aw5 (List.mem_of_getElem? (i := 31) rfl) rfl), (aw1 (List.mem_of_getElem? (i := 7) rfl) rfl), by decide +kernel, by decide +kernel⟩
theorem mk279 : ck_mok 279 := ⟨(aw4 (List.mem_of_getElem? (i := 223) rfl) rfl), (aw1 (List.mem_of_getElem? (i := 18) rfl) rfl), by decide +kernel, by decide +kernel⟩
theorem mk280 : ck_mok 280 := ⟨(aw3 (List.mem_of_getElem? (i := 100) rfl) rfl), (aw1 (List.mem_of_getElem? (i := 12) rfl) rfl), by decide +kernel, by decide +kernel⟩
theorem mk281 : ck_mok 281 := ⟨(aw4 (List.mem_of_getElem? (i := 168) rfl) rfl), (aw1 (List.mem_of_getElem? (i := 12) rfl) rfl), by decide +kernel, by decide +kernel⟩
theorem mk282 : ck_mok 282 := ⟨(aw2 (List.mem_of_getElem? (i := 148) rfl) rfl), (aw1 (List.mem_of_getElem? (i := 12) rfl) rfl), by decide +kernel, by decide +kernel⟩
theorem mk283 : ck_mok 283 := ⟨(aw2 (List.mem_of_getElem? (i := 179) rfl) rfl), (aw1 (List.mem_of_getElem? (i := 13) rfl) rfl), by decide +kernel, by decide +kernel⟩
theorem mk284 : ck_mok 284 := ⟨(aw2 (List.mem_of_getElem? (i := 189) rfl) rfl), (aw1 (List.mem_of_getElem? (i := 13) rfl) rfl), by decide +kernel, by decide +kernel⟩
theorem mk285 : ck_mok 285 := ⟨(aw2 (List.mem_of_getElem? (i := 173) rfl) rfl), (aw1 (List.mem_of_getElem? (i := 13) rfl) rfl), by decide +kernel, by decide +kernel⟩
theorem mk286 : ck_mok 286 := ⟨(aw2 (List.mem_of_getElem? (i := 183) rfl) rfl), (aw1 (List.mem_of_getElem? (i := 13) rfl) rfl), by decide +kernel, by decide +kernel⟩
theorem mk287 : ck_mok 287 := ⟨(aw2 (List.mem_of_getElem? (i := 169) rfl) rfl), (aw1 (List.mem_of_getElem? (i := 13) rfl) rfl), by decide +kernel, by decide +kernel⟩
theorem mk288 : ck_mok 288 := ⟨(aw2 (List.mem_of_getElem? (i := 186) rfl) rfl), (aw1 (List.mem_of_getElem? (i := 14) rfl) rfl), by decide +kernel, by decide +kernel⟩
theorem mk289 : ck_mok 289 := ⟨(aw2 (List.mem_of_getElem? (i := 54) rfl) rfl), (aw1 (List.mem_of_getElem? (i := 10) rfl) rfl), by decide +kernel, by decide +kernel⟩
theorem mk290 : ck_mok 290 := ⟨(aw2 (List.mem_of_getElem? (i := 194) rfl) rfl), (aw1 (List.mem_of_getElem? (i := 15) rfl) rfl), by decide +kernel, by decide +kernel⟩
def ck_NN : jv_N := [(RX8, 9, yX0_init, "JuggledPost"), (RX8, 38, yX1_init, "JuggledPost"), (RX8, 45, yX2_init, "JuggledPost"), (RX8, 52, yX5_init, "JuggledPost"), (RX8, 59, yX7_init, "JuggledPost"), (RX8, 66, yX6_init, "JuggledPost"), (RX0, 80, yX8_isWithin, "JuggledPost")]
def ck_rok (q : Nat × Nat × Nat × Nat) : Prop := match q.2.2.1 with
  | 0 => ck_mok q.2.2.2 ∧ Cond.methodLink (ck_nm q.1) q.2.1 (ck_my q.2.2.2) ∈ ck_AW ∧ Cond.instanceMethod (ck_my q.2.2.2) ∈ ck_AW ∧ Cond.selects (ck_my q.2.2.2).cls (ck_my q.2.2.2) (ck_my q.2.2.2) ∈ ck_AW ∧ (∃ (T : u_T) (M : Nat), vwCl[ck_mo q.2.2.2]? = some ((ck_my q.2.2.2).cls, T, M)) ∧ (parseMethodDescriptor (ck_my q.2.2.2).desc).map (fun d => d.parameters.length) = some (ck_ma q.2.2.2 - 1)
  | 1 => ck_mok q.2.2.2 ∧ Cond.methodLink (ck_nm q.1) q.2.1 (ck_my q.2.2.2) ∈ ck_AW ∧ Cond.static (ck_my q.2.2.2) ∈ ck_AW ∧ (parseMethodDescriptor (ck_my q.2.2.2).desc).map (fun d => d.parameters.length) = some (ck_ma q.2.2.2)
  | 2 => ck_mok q.2.2.2 ∧ (∃ host : String, (ck_nm q.1, q.2.1, ck_my q.2.2.2, host) ∈ ck_NN) ∧ Cond.static (ck_my q.2.2.2) ∈ ck_AW ∧ (parseMethodDescriptor (ck_my q.2.2.2).desc).map (fun d => d.parameters.length) = some (ck_ma q.2.2.2)
  | 4 => ck_mok q.2.2.2 ∧ Cond.methodLink (ck_nm q.1) q.2.1 (ck_my q.2.2.2) ∈ ck_AW ∧ Cond.instanceMethod (ck_my q.2.2.2) ∈ ck_AW ∧ Cond.selects (ck_my q.2.2.2).cls (ck_my q.2.2.2) (ck_my q.2.2.2) ∈ ck_AW ∧ (ck_my q.2.2.2).cls = "java/lang/String" ∧ (parseMethodDescriptor (ck_my q.2.2.2).desc).map (fun d => d.parameters.length) = some (ck_ma q.2.2.2 - 1)
  | _ => Cond.methodLink (ck_nm q.1) q.2.1 arraycopyName ∈ ck_AW ∧ Cond.native arraycopyName ∈ ck_AW ∧ Cond.static arraycopyName ∈ ck_AW ∧ Cond.initialized "java/lang/System" ∈ ck_AW
theorem ro0 : ck_rok (0, 50, 1, 282) := ⟨mk282, (aw2 (List.mem_of_getElem? (i := 226) rfl) rfl), (aw2 (List.mem_of_getElem? (i := 147) rfl) rfl), by decide +kernel⟩
theorem ro1 : ck_rok (0, 56, 0, 185) := ⟨mk185, (aw2 (List.mem_of_getElem? (i := 227) rfl) rfl), (aw2 (List.mem_of_getElem? (i := 228) rfl) rfl), (aw2 (List.mem_of_getElem? (i := 229) rfl) rfl), ⟨_, _, rfl⟩, by decide +kernel⟩
theorem ro2 : ck_rok (0, 60, 3, 0) := ⟨(aw3 (List.mem_of_getElem? (i := 73) rfl) rfl), (aw3 (List.mem_of_getElem? (i := 75) rfl) rfl), (aw3 (List.mem_of_getElem? (i := 74) rfl) rfl), (aw1 (List.mem_of_getElem? (i := 17) rfl) rfl)⟩
theorem ro3 : ck_rok (0, 66, 0, 179) := ⟨mk179, (aw2 (List.mem_of_getElem? (i := 235) rfl) rfl), (aw2 (List.mem_of_getElem? (i := 236) rfl) rfl), (aw2 (List.mem_of_getElem? (i := 237) rfl) rfl), ⟨_, _, rfl⟩, by decide +kernel⟩
theorem ro4 : ck_rok (0, 70, 0, 184) := ⟨mk184, (aw3 (List.mem_of_getElem? (i := 94) rfl) rfl), (aw3 (List.mem_of_getElem? (i := 96) rfl) rfl), (aw0 (List.mem_of_getElem? (i := 17) rfl) rfl), ⟨_, _, rfl⟩, by decide +kernel⟩
theorem ro5 : ck_rok (0, 73, 1, 280) := ⟨mk280, (aw3 (List.mem_of_getElem? (i := 98) rfl) rfl), (aw3 (List.mem_of_getElem? (i := 99) rfl) rfl), by decide +kernel⟩
theorem ro6 : ck_rok (0, 76, 0, 180) := ⟨mk180, (aw2 (List.mem_of_getElem? (i := 231) rfl) rfl), (aw2 (List.mem_of_getElem? (i := 232) rfl) rfl), (aw2 (List.mem_of_getElem? (i := 233) rfl) rfl), ⟨_, _, rfl⟩, by decide +kernel⟩
theorem ro7 : ck_rok (0, 80, 2, 59) := ⟨mk59, ⟨"JuggledPost", List.mem_of_getElem? (i := 6) rfl⟩, (aw3 (List.mem_of_getElem? (i := 0) rfl) rfl), by decide +kernel⟩
theorem ro8 : ck_rok (0, 83, 1, 279) := ⟨mk279, (aw5 (List.mem_of_getElem? (i := 112) rfl) rfl), (aw4 (List.mem_of_getElem? (i := 222) rfl) rfl), by decide +kernel⟩
theorem ro9 : ck_rok (0, 89, 0, 182) := ⟨mk182, (aw4 (List.mem_of_getElem? (i := 66) rfl) rfl), (aw3 (List.mem_of_getElem? (i := 91) rfl) rfl), (aw3 (List.mem_of_getElem? (i := 92) rfl) rfl), ⟨_, _, rfl⟩, by decide +kernel⟩
theorem ro10 : ck_rok (0, 92, 0, 183) := ⟨mk183, (aw4 (List.mem_of_getElem? (i := 49) rfl) rfl), (aw3 (List.mem_of_getElem? (i := 102) rfl) rfl), (aw3 (List.mem_of_getElem? (i := 103) rfl) rfl), ⟨_, _, rfl⟩, by decide +kernel⟩
theorem ro11 : ck_rok (0, 95, 0, 195) := ⟨mk195, (aw4 (List.mem_of_getElem? (i := 62) rfl) rfl), (aw4 (List.mem_of_getElem? (i := 64) rfl) rfl), (aw0 (List.mem_of_getElem? (i := 28) rfl) rfl), ⟨_, _, rfl⟩, by decide +kernel⟩
theorem ro12 : ck_rok (0, 98, 0, 196) := ⟨mk196, (aw4 (List.mem_of_getElem? (i := 67) rfl) rfl), (aw4 (List.mem_of_getElem? (i := 69) rfl) rfl), (aw0 (List.mem_of_getElem? (i := 29) rfl) rfl), ⟨_, _, rfl⟩, by decide +kernel⟩
theorem ro13 : ck_rok (1, 18, 0, 199) := ⟨mk199, (aw3 (List.mem_of_getElem? (i := 121) rfl) rfl), (aw3 (List.mem_of_getElem? (i := 123) rfl) rfl), (aw0 (List.mem_of_getElem? (i := 18) rfl) rfl), ⟨_, _, rfl⟩, by decide +kernel⟩
theorem ro14 : ck_rok (1, 35, 1, 200) := ⟨mk200, (aw3 (List.mem_of_getElem? (i := 125) rfl) rfl), (aw3 (List.mem_of_getElem? (i := 126) rfl) rfl), by decide +kernel⟩
theorem ro15 : ck_rok (1, 39, 1, 289) := ⟨mk289, (aw3 (List.mem_of_getElem? (i := 129) rfl) rfl), (aw2 (List.mem_of_getElem? (i := 53) rfl) rfl), by decide +kernel⟩
theorem ro16 : ck_rok (1, 45, 0, 201) := ⟨mk201, (aw3 (List.mem_of_getElem? (i := 130) rfl) rfl), (aw3 (List.mem_of_getElem? (i := 132) rfl) rfl), (aw0 (List.mem_of_getElem? (i := 19) rfl) rfl), ⟨_, _, rfl⟩, by decide +kernel⟩
theorem ro17 : ck_rok (1, 49, 0, 202) := ⟨mk202, (aw3 (List.mem_of_getElem? (i := 137) rfl) rfl), (aw3 (List.mem_of_getElem? (i := 139) rfl) rfl), (aw0 (List.mem_of_getElem? (i := 20) rfl) rfl), ⟨_, _, rfl⟩, by decide +kernel⟩
theorem ro18 : ck_rok (1, 58, 1, 282) := ⟨mk282, (aw3 (List.mem_of_getElem? (i := 128) rfl) rfl), (aw2 (List.mem_of_getElem? (i := 147) rfl) rfl), by decide +kernel⟩
theorem ro19 : ck_rok (1, 64, 1, 280) := ⟨mk280, (aw3 (List.mem_of_getElem? (i := 134) rfl) rfl), (aw3 (List.mem_of_getElem? (i := 99) rfl) rfl), by decide +kernel⟩
theorem ro20 : ck_rok (1, 67, 0, 182) := ⟨mk182, (aw3 (List.mem_of_getElem? (i := 135) rfl) rfl), (aw3 (List.mem_of_getElem? (i := 91) rfl) rfl), (aw3 (List.mem_of_getElem? (i := 92) rfl) rfl), ⟨_, _, rfl⟩, by decide +kernel⟩
theorem ro21 : ck_rok (1, 70, 0, 183) := ⟨mk183, (aw3 (List.mem_of_getElem? (i := 136) rfl) rfl), (aw3 (List.mem_of_getElem? (i := 102) rfl) rfl), (aw3 (List.mem_of_getElem? (i := 103) rfl) rfl), ⟨_, _, rfl⟩, by decide +kernel⟩
theorem ro22 : ck_rok (1, 79, 0, 204) := ⟨mk204, (aw3 (List.mem_of_getElem? (i := 195) rfl) rfl), (aw3 (List.mem_of_getElem? (i := 196) rfl) rfl), (aw3 (List.mem_of_getElem? (i := 197) rfl) rfl), ⟨_, _, rfl⟩, by decide +kernel⟩
theorem ro23 : ck_rok (1, 89, 0, 207) := ⟨mk207, (aw3 (List.mem_of_getElem? (i := 220) rfl) rfl), (aw3 (List.mem_of_getElem? (i := 222) rfl) rfl), (aw0 (List.mem_of_getElem? (i := 22) rfl) rfl), ⟨_, _, rfl⟩, by decide +kernel⟩
theorem ro24 : ck_rok (1, 93, 0, 208) := ⟨mk208, (aw3 (List.mem_of_getElem? (i := 224) rfl) rfl), (aw3 (List.mem_of_getElem? (i := 226) rfl) rfl), (aw0 (List.mem_of_getElem? (i := 23) rfl) rfl), ⟨_, _, rfl⟩, by decide +kernel⟩
theorem ro25 : ck_rok (1, 102, 0, 209) := ⟨mk209, (aw3 (List.mem_of_getElem? (i := 236) rfl) rfl), (aw3 (List.mem_of_getElem? (i := 238) rfl) rfl), (aw0 (List.mem_of_getElem? (i := 24) rfl) rfl), ⟨_, _, rfl⟩, by decide +kernel⟩
theorem ro26 : ck_rok (1, 112, 0, 214) := ⟨mk214, (aw4 (List.mem_of_getElem? (i := 8) rfl) rfl), (aw4 (List.mem_of_getElem? (i := 10) rfl) rfl), (aw0 (List.mem_of_getElem? (i := 25) rfl) rfl), ⟨_, _, rfl⟩, by decide +kernel⟩
theorem ro27 : ck_rok (1, 116, 0, 213) := ⟨mk213, (aw4 (List.mem_of_getElem? (i := 12) rfl) rfl), (aw4 (List.mem_of_getElem? (i := 14) rfl) rfl), (aw0 (List.mem_of_getElem? (i := 26) rfl) rfl), ⟨_, _, rfl⟩, by decide +kernel⟩
theorem ro28 : ck_rok (1, 120, 0, 211) := ⟨mk211, (aw4 (List.mem_of_getElem? (i := 24) rfl) rfl), (aw3 (List.mem_of_getElem? (i := 233) rfl) rfl), (aw3 (List.mem_of_getElem? (i := 234) rfl) rfl), ⟨_, _, rfl⟩, by decide +kernel⟩
theorem ro29 : ck_rok (2, 36, 0, 219) := ⟨mk219, (aw4 (List.mem_of_getElem? (i := 117) rfl) rfl), (aw4 (List.mem_of_getElem? (i := 119) rfl) rfl), (aw0 (List.mem_of_getElem? (i := 30) rfl) rfl), ⟨_, _, rfl⟩, by decide +kernel⟩
theorem ro30 : ck_rok (2, 46, 0, 221) := ⟨mk221, (aw4 (List.mem_of_getElem? (i := 121) rfl) rfl), (aw4 (List.mem_of_getElem? (i := 123) rfl) rfl), (aw0 (List.mem_of_getElem? (i := 31) rfl) rfl), ⟨_, _, rfl⟩, by decide +kernel⟩
theorem ro31 : ck_rok (2, 53, 0, 222) := ⟨mk222, (aw4 (List.mem_of_getElem? (i := 130) rfl) rfl), (aw4 (List.mem_of_getElem? (i := 132) rfl) rfl), (aw0 (List.mem_of_getElem? (i := 32) rfl) rfl), ⟨_, _, rfl⟩, by decide +kernel⟩
theorem ro32 : ck_rok (2, 57, 0, 225) := ⟨mk225, (aw4 (List.mem_of_getElem? (i := 142) rfl) rfl), (aw4 (List.mem_of_getElem? (i := 144) rfl) rfl), (aw0 (List.mem_of_getElem? (i := 35) rfl) rfl), ⟨_, _, rfl⟩, by decide +kernel⟩
theorem ro33 : ck_rok (2, 61, 1, 289) := ⟨mk289, (aw4 (List.mem_of_getElem? (i := 126) rfl) rfl), (aw2 (List.mem_of_getElem? (i := 53) rfl) rfl), by decide +kernel⟩
theorem ro34 : ck_rok (2, 70, 0, 182) := ⟨mk182, (aw4 (List.mem_of_getElem? (i := 127) rfl) rfl), (aw3 (List.mem_of_getElem? (i := 91) rfl) rfl), (aw3 (List.mem_of_getElem? (i := 92) rfl) rfl), ⟨_, _, rfl⟩, by decide +kernel⟩
theorem ro35 : ck_rok (2, 74, 0, 183) := ⟨mk183, (aw4 (List.mem_of_getElem? (i := 128) rfl) rfl), (aw3 (List.mem_of_getElem? (i := 102) rfl) rfl), (aw3 (List.mem_of_getElem? (i := 103) rfl) rfl), ⟨_, _, rfl⟩, by decide +kernel⟩
theorem ro36 : ck_rok (2, 77, 1, 282) := ⟨mk282, (aw4 (List.mem_of_getElem? (i := 129) rfl) rfl), (aw2 (List.mem_of_getElem? (i := 147) rfl) rfl), by decide +kernel⟩
theorem ro37 : ck_rok (2, 82, 0, 223) := ⟨mk223, (aw4 (List.mem_of_getElem? (i := 134) rfl) rfl), (aw4 (List.mem_of_getElem? (i := 136) rfl) rfl), (aw0 (List.mem_of_getElem? (i := 33) rfl) rfl), ⟨_, _, rfl⟩, by decide +kernel⟩
theorem ro38 : ck_rok (2, 85, 0, 224) := ⟨mk224, (aw4 (List.mem_of_getElem? (i := 138) rfl) rfl), (aw4 (List.mem_of_getElem? (i := 140) rfl) rfl), (aw0 (List.mem_of_getElem? (i := 34) rfl) rfl), ⟨_, _, rfl⟩, by decide +kernel⟩
theorem ro39 : ck_rok (2, 89, 1, 281) := ⟨mk281, (aw4 (List.mem_of_getElem? (i := 166) rfl) rfl), (aw4 (List.mem_of_getElem? (i := 167) rfl) rfl), by decide +kernel⟩
theorem ro40 : ck_rok (3, 26, 0, 227) := ⟨mk227, (aw2 (List.mem_of_getElem? (i := 114) rfl) rfl), (aw2 (List.mem_of_getElem? (i := 107) rfl) rfl), (aw2 (List.mem_of_getElem? (i := 108) rfl) rfl), ⟨_, _, rfl⟩, by decide +kernel⟩
theorem ro41 : ck_rok (3, 30, 0, 175) := ⟨mk175, (aw2 (List.mem_of_getElem? (i := 127) rfl) rfl), (aw2 (List.mem_of_getElem? (i := 128) rfl) rfl), (aw2 (List.mem_of_getElem? (i := 129) rfl) rfl), ⟨_, _, rfl⟩, by decide +kernel⟩
theorem ro42 : ck_rok (3, 48, 0, 245) := ⟨mk245, (aw2 (List.mem_of_getElem? (i := 131) rfl) rfl), (aw2 (List.mem_of_getElem? (i := 133) rfl) rfl), (aw0 (List.mem_of_getElem? (i := 0) rfl) rfl), ⟨_, _, rfl⟩, by decide +kernel⟩
theorem ro43 : ck_rok (3, 54, 0, 230) := ⟨mk230, (aw2 (List.mem_of_getElem? (i := 149) rfl) rfl), (aw2 (List.mem_of_getElem? (i := 151) rfl) rfl), (aw0 (List.mem_of_getElem? (i := 2) rfl) rfl), ⟨_, _, rfl⟩, by decide +kernel⟩
theorem ro44 : ck_rok (3, 61, 0, 231) := ⟨mk231, (aw2 (List.mem_of_getElem? (i := 153) rfl) rfl), (aw2 (List.mem_of_getElem? (i := 155) rfl) rfl), (aw0 (List.mem_of_getElem? (i := 3) rfl) rfl), ⟨_, _, rfl⟩, by decide +kernel⟩
theorem ro45 : ck_rok (3, 66, 0, 244) := ⟨mk244, (aw2 (List.mem_of_getElem? (i := 162) rfl) rfl), (aw2 (List.mem_of_getElem? (i := 164) rfl) rfl), (aw0 (List.mem_of_getElem? (i := 5) rfl) rfl), ⟨_, _, rfl⟩, by decide +kernel⟩
theorem ro46 : ck_rok (3, 70, 0, 232) := ⟨mk232, (aw3 (List.mem_of_getElem? (i := 3) rfl) rfl), (aw3 (List.mem_of_getElem? (i := 5) rfl) rfl), (aw0 (List.mem_of_getElem? (i := 8) rfl) rfl), ⟨_, _, rfl⟩, by decide +kernel⟩
theorem ro47 : ck_rok (3, 75, 0, 234) := ⟨mk234, (aw3 (List.mem_of_getElem? (i := 25) rfl) rfl), (aw3 (List.mem_of_getElem? (i := 27) rfl) rfl), (aw0 (List.mem_of_getElem? (i := 11) rfl) rfl), ⟨_, _, rfl⟩, by decide +kernel⟩
theorem ro48 : ck_rok (3, 80, 0, 236) := ⟨mk236, (aw3 (List.mem_of_getElem? (i := 40) rfl) rfl), (aw3 (List.mem_of_getElem? (i := 42) rfl) rfl), (aw0 (List.mem_of_getElem? (i := 13) rfl) rfl), ⟨_, _, rfl⟩, by decide +kernel⟩
theorem ro49 : ck_rok (3, 85, 0, 237) := ⟨mk237, (aw3 (List.mem_of_getElem? (i := 49) rfl) rfl), (aw3 (List.mem_of_getElem? (i := 51) rfl) rfl), (aw0 (List.mem_of_getElem? (i := 14) rfl) rfl), ⟨_, _, rfl⟩, by decide +kernel⟩
theorem ro50 : ck_rok (3, 90, 0, 238) := ⟨mk238, (aw3 (List.mem_of_getElem? (i := 59) rfl) rfl), (aw3 (List.mem_of_getElem? (i := 61) rfl) rfl), (aw0 (List.mem_of_getElem? (i := 15) rfl) rfl), ⟨_, _, rfl⟩, by decide +kernel⟩
theorem ro51 : ck_rok (3, 93, 0, 243) := ⟨mk243, (aw2 (List.mem_of_getElem? (i := 214) rfl) rfl), (aw2 (List.mem_of_getElem? (i := 216) rfl) rfl), (aw0 (List.mem_of_getElem? (i := 6) rfl) rfl), ⟨_, _, rfl⟩, by decide +kernel⟩
theorem ro52 : ck_rok (3, 96, 0, 239) := ⟨mk239, (aw3 (List.mem_of_getElem? (i := 65) rfl) rfl), (aw3 (List.mem_of_getElem? (i := 67) rfl) rfl), (aw0 (List.mem_of_getElem? (i := 16) rfl) rfl), ⟨_, _, rfl⟩, by decide +kernel⟩
theorem ro53 : ck_rok (3, 101, 0, 240) := ⟨mk240, (aw2 (List.mem_of_getElem? (i := 158) rfl) rfl), (aw2 (List.mem_of_getElem? (i := 160) rfl) rfl), (aw0 (List.mem_of_getElem? (i := 4) rfl) rfl), ⟨_, _, rfl⟩, by decide +kernel⟩
theorem ro54 : ck_rok (3, 104, 0, 241) := ⟨mk241, (aw2 (List.mem_of_getElem? (i := 218) rfl) rfl), (aw2 (List.mem_of_getElem? (i := 220) rfl) rfl), (aw0 (List.mem_of_getElem? (i := 7) rfl) rfl), ⟨_, _, rfl⟩, by decide +kernel⟩
theorem ro55 : ck_rok (3, 111, 0, 176) := ⟨mk176, (aw2 (List.mem_of_getElem? (i := 222) rfl) rfl), (aw2 (List.mem_of_getElem? (i := 223) rfl) rfl), (aw2 (List.mem_of_getElem? (i := 224) rfl) rfl), ⟨_, _, rfl⟩, by decide +kernel⟩
theorem ro56 : ck_rok (3, 115, 0, 242) := ⟨mk242, (aw3 (List.mem_of_getElem? (i := 7) rfl) rfl), (aw3 (List.mem_of_getElem? (i := 9) rfl) rfl), (aw0 (List.mem_of_getElem? (i := 9) rfl) rfl), ⟨_, _, rfl⟩, by decide +kernel⟩
theorem ro57 : ck_rok (3, 118, 0, 233) := ⟨mk233, (aw3 (List.mem_of_getElem? (i := 11) rfl) rfl), (aw3 (List.mem_of_getElem? (i := 13) rfl) rfl), (aw0 (List.mem_of_getElem? (i := 10) rfl) rfl), ⟨_, _, rfl⟩, by decide +kernel⟩
theorem ro58 : ck_rok (3, 122, 0, 187) := ⟨mk187, (aw3 (List.mem_of_getElem? (i := 20) rfl) rfl), (aw3 (List.mem_of_getElem? (i := 21) rfl) rfl), (aw3 (List.mem_of_getElem? (i := 22) rfl) rfl), ⟨_, _, rfl⟩, by decide +kernel⟩
theorem ro59 : ck_rok (3, 139, 0, 235) := ⟨mk235, (aw3 (List.mem_of_getElem? (i := 29) rfl) rfl), (aw3 (List.mem_of_getElem? (i := 31) rfl) rfl), (aw0 (List.mem_of_getElem? (i := 12) rfl) rfl), ⟨_, _, rfl⟩, by decide +kernel⟩
theorem ro60 : ck_rok (3, 147, 0, 186) := ⟨mk186, (aw3 (List.mem_of_getElem? (i := 34) rfl) rfl), (aw3 (List.mem_of_getElem? (i := 35) rfl) rfl), (aw3 (List.mem_of_getElem? (i := 36) rfl) rfl), ⟨_, _, rfl⟩, by decide +kernel⟩
theorem ro61 : ck_rok (3, 150, 0, 185) := ⟨mk185, (aw3 (List.mem_of_getElem? (i := 38) rfl) rfl), (aw2 (List.mem_of_getElem? (i := 228) rfl) rfl), (aw2 (List.mem_of_getElem? (i := 229) rfl) rfl), ⟨_, _, rfl⟩, by decide +kernel⟩
theorem ro62 : ck_rok (3, 154, 0, 188) := ⟨mk188, (aw3 (List.mem_of_getElem? (i := 44) rfl) rfl), (aw3 (List.mem_of_getElem? (i := 45) rfl) rfl), (aw3 (List.mem_of_getElem? (i := 46) rfl) rfl), ⟨_, _, rfl⟩, by decide +kernel⟩
theorem ro63 : ck_rok (3, 162, 0, 189) := ⟨mk189, (aw3 (List.mem_of_getElem? (i := 54) rfl) rfl), (aw3 (List.mem_of_getElem? (i := 55) rfl) rfl), (aw3 (List.mem_of_getElem? (i := 56) rfl) rfl), ⟨_, _, rfl⟩, by decide +kernel⟩
theorem ro64 : ck_rok (3, 178, 4, 287) := ⟨mk287, (aw2 (List.mem_of_getElem? (i := 166) rfl) rfl), (aw2 (List.mem_of_getElem? (i := 167) rfl) rfl), (aw2 (List.mem_of_getElem? (i := 168) rfl) rfl), rfl, by decide +kernel⟩
theorem ro65 : ck_rok (3, 182, 0, 246) := ⟨mk246, (aw2 (List.mem_of_getElem? (i := 135) rfl) rfl), (aw2 (List.mem_of_getElem? (i := 137) rfl) rfl), (aw0 (List.mem_of_getElem? (i := 1) rfl) rfl), ⟨_, _, rfl⟩, by decide +kernel⟩
theorem ro66 : ck_rok (3, 186, 4, 283) := ⟨mk283, (aw2 (List.mem_of_getElem? (i := 176) rfl) rfl), (aw2 (List.mem_of_getElem? (i := 177) rfl) rfl), (aw2 (List.mem_of_getElem? (i := 178) rfl) rfl), rfl, by decide +kernel⟩
theorem ro67 : ck_rok (3, 190, 1, 247) := ⟨mk247, (aw2 (List.mem_of_getElem? (i := 139) rfl) rfl), (aw2 (List.mem_of_getElem? (i := 140) rfl) rfl), by decide +kernel⟩
theorem ro68 : ck_rok (3, 193, 1, 248) := ⟨mk248, (aw2 (List.mem_of_getElem? (i := 142) rfl) rfl), (aw2 (List.mem_of_getElem? (i := 143) rfl) rfl), by decide +kernel⟩
theorem ro69 : ck_rok (3, 197, 1, 282) := ⟨mk282, (aw2 (List.mem_of_getElem? (i := 146) rfl) rfl), (aw2 (List.mem_of_getElem? (i := 147) rfl) rfl), by decide +kernel⟩
theorem ro70 : ck_rok (4, 22, 1, 289) := ⟨mk289, (aw2 (List.mem_of_getElem? (i := 52) rfl) rfl), (aw2 (List.mem_of_getElem? (i := 53) rfl) rfl), by decide +kernel⟩
theorem ro71 : ck_rok (4, 28, 0, 249) := ⟨mk249, (aw5 (List.mem_of_getElem? (i := 83) rfl) rfl), (aw5 (List.mem_of_getElem? (i := 76) rfl) rfl), (aw5 (List.mem_of_getElem? (i := 77) rfl) rfl), ⟨_, _, rfl⟩, by decide +kernel⟩
theorem ro72 : ck_rok (4, 32, 0, 250) := ⟨mk250, (aw5 (List.mem_of_getElem? (i := 92) rfl) rfl), (aw5 (List.mem_of_getElem? (i := 80) rfl) rfl), (aw5 (List.mem_of_getElem? (i := 81) rfl) rfl), ⟨_, _, rfl⟩, by decide +kernel⟩
theorem ro73 : ck_rok (4, 35, 0, 253) := ⟨mk253, (aw5 (List.mem_of_getElem? (i := 88) rfl) rfl), (aw5 (List.mem_of_getElem? (i := 89) rfl) rfl), (aw5 (List.mem_of_getElem? (i := 90) rfl) rfl), ⟨_, _, rfl⟩, by decide +kernel⟩
theorem ro74 : ck_rok (4, 39, 1, 255) := ⟨mk255, (aw5 (List.mem_of_getElem? (i := 149) rfl) rfl), (aw5 (List.mem_of_getElem? (i := 150) rfl) rfl), by decide +kernel⟩
theorem ro75 : ck_rok (4, 45, 3, 0) := ⟨(aw5 (List.mem_of_getElem? (i := 161) rfl) rfl), (aw3 (List.mem_of_getElem? (i := 75) rfl) rfl), (aw3 (List.mem_of_getElem? (i := 74) rfl) rfl), (aw1 (List.mem_of_getElem? (i := 17) rfl) rfl)⟩
theorem ro76 : ck_rok (5, 18, 1, 259) := ⟨mk259, (aw4 (List.mem_of_getElem? (i := 177) rfl) rfl), (aw4 (List.mem_of_getElem? (i := 178) rfl) rfl), by decide +kernel⟩
theorem ro77 : ck_rok (5, 22, 0, 182) := ⟨mk182, (aw4 (List.mem_of_getElem? (i := 180) rfl) rfl), (aw3 (List.mem_of_getElem? (i := 91) rfl) rfl), (aw3 (List.mem_of_getElem? (i := 92) rfl) rfl), ⟨_, _, rfl⟩, by decide +kernel⟩
theorem ro78 : ck_rok (5, 31, 0, 183) := ⟨mk183, (aw4 (List.mem_of_getElem? (i := 181) rfl) rfl), (aw3 (List.mem_of_getElem? (i := 102) rfl) rfl), (aw3 (List.mem_of_getElem? (i := 103) rfl) rfl), ⟨_, _, rfl⟩, by decide +kernel⟩
theorem ro79 : ck_rok (5, 34, 1, 261) := ⟨mk261, (aw4 (List.mem_of_getElem? (i := 190) rfl) rfl), (aw4 (List.mem_of_getElem? (i := 191) rfl) rfl), by decide +kernel⟩
theorem ro80 : ck_rok (5, 38, 0, 262) := ⟨mk262, (aw4 (List.mem_of_getElem? (i := 193) rfl) rfl), (aw4 (List.mem_of_getElem? (i := 195) rfl) rfl), (aw0 (List.mem_of_getElem? (i := 36) rfl) rfl), ⟨_, _, rfl⟩, by decide +kernel⟩
theorem ro81 : ck_rok (5, 42, 1, 289) := ⟨mk289, (aw4 (List.mem_of_getElem? (i := 197) rfl) rfl), (aw2 (List.mem_of_getElem? (i := 53) rfl) rfl), by decide +kernel⟩
theorem ro82 : ck_rok (5, 48, 0, 263) := ⟨mk263, (aw4 (List.mem_of_getElem? (i := 198) rfl) rfl), (aw4 (List.mem_of_getElem? (i := 200) rfl) rfl), (aw0 (List.mem_of_getElem? (i := 37) rfl) rfl), ⟨_, _, rfl⟩, by decide +kernel⟩
theorem ro83 : ck_rok (5, 52, 0, 265) := ⟨mk265, (aw4 (List.mem_of_getElem? (i := 210) rfl) rfl), (aw4 (List.mem_of_getElem? (i := 212) rfl) rfl), (aw0 (List.mem_of_getElem? (i := 38) rfl) rfl), ⟨_, _, rfl⟩, by decide +kernel⟩
theorem ro84 : ck_rok (5, 56, 1, 266) := ⟨mk266, (aw4 (List.mem_of_getElem? (i := 214) rfl) rfl), (aw4 (List.mem_of_getElem? (i := 215) rfl) rfl), by decide +kernel⟩
theorem ro85 : ck_rok (6, 33, 0, 268) := ⟨mk268, (aw5 (List.mem_of_getElem? (i := 45) rfl) rfl), (aw5 (List.mem_of_getElem? (i := 47) rfl) rfl), (aw0 (List.mem_of_getElem? (i := 46) rfl) rfl), ⟨_, _, rfl⟩, by decide +kernel⟩
theorem ro86 : ck_rok (6, 40, 0, 269) := ⟨mk269, (aw5 (List.mem_of_getElem? (i := 52) rfl) rfl), (aw5 (List.mem_of_getElem? (i := 54) rfl) rfl), (aw0 (List.mem_of_getElem? (i := 47) rfl) rfl), ⟨_, _, rfl⟩, by decide +kernel⟩
theorem ro87 : ck_rok (6, 44, 1, 289) := ⟨mk289, (aw5 (List.mem_of_getElem? (i := 49) rfl) rfl), (aw2 (List.mem_of_getElem? (i := 53) rfl) rfl), by decide +kernel⟩
theorem ro88 : ck_rok (6, 50, 0, 182) := ⟨mk182, (aw5 (List.mem_of_getElem? (i := 50) rfl) rfl), (aw3 (List.mem_of_getElem? (i := 91) rfl) rfl), (aw3 (List.mem_of_getElem? (i := 92) rfl) rfl), ⟨_, _, rfl⟩, by decide +kernel⟩
theorem ro89 : ck_rok (6, 54, 0, 183) := ⟨mk183, (aw5 (List.mem_of_getElem? (i := 51) rfl) rfl), (aw3 (List.mem_of_getElem? (i := 102) rfl) rfl), (aw3 (List.mem_of_getElem? (i := 103) rfl) rfl), ⟨_, _, rfl⟩, by decide +kernel⟩
theorem ro90 : ck_rok (6, 60, 0, 270) := ⟨mk270, (aw5 (List.mem_of_getElem? (i := 56) rfl) rfl), (aw5 (List.mem_of_getElem? (i := 58) rfl) rfl), (aw0 (List.mem_of_getElem? (i := 48) rfl) rfl), ⟨_, _, rfl⟩, by decide +kernel⟩
theorem ro91 : ck_rok (7, 15, 0, 272) := ⟨mk272, (aw4 (List.mem_of_getElem? (i := 238) rfl) rfl), (aw5 (List.mem_of_getElem? (i := 0) rfl) rfl), (aw0 (List.mem_of_getElem? (i := 39) rfl) rfl), ⟨_, _, rfl⟩, by decide +kernel⟩
theorem ro92 : ck_rok (7, 19, 0, 276) := ⟨mk276, (aw5 (List.mem_of_getElem? (i := 16) rfl) rfl), (aw5 (List.mem_of_getElem? (i := 18) rfl) rfl), (aw0 (List.mem_of_getElem? (i := 43) rfl) rfl), ⟨_, _, rfl⟩, by decide +kernel⟩
theorem ro93 : ck_rok (7, 30, 1, 289) := ⟨mk289, (aw5 (List.mem_of_getElem? (i := 2) rfl) rfl), (aw2 (List.mem_of_getElem? (i := 53) rfl) rfl), by decide +kernel⟩
theorem ro94 : ck_rok (7, 35, 0, 273) := ⟨mk273, (aw5 (List.mem_of_getElem? (i := 3) rfl) rfl), (aw5 (List.mem_of_getElem? (i := 5) rfl) rfl), (aw0 (List.mem_of_getElem? (i := 40) rfl) rfl), ⟨_, _, rfl⟩, by decide +kernel⟩
theorem ro95 : ck_rok (7, 38, 1, 279) := ⟨mk279, (aw5 (List.mem_of_getElem? (i := 7) rfl) rfl), (aw4 (List.mem_of_getElem? (i := 222) rfl) rfl), by decide +kernel⟩
theorem ro96 : ck_rok (7, 44, 0, 274) := ⟨mk274, (aw5 (List.mem_of_getElem? (i := 8) rfl) rfl), (aw5 (List.mem_of_getElem? (i := 10) rfl) rfl), (aw0 (List.mem_of_getElem? (i := 41) rfl) rfl), ⟨_, _, rfl⟩, by decide +kernel⟩
theorem ro97 : ck_rok (7, 47, 0, 275) := ⟨mk275, (aw5 (List.mem_of_getElem? (i := 12) rfl) rfl), (aw5 (List.mem_of_getElem? (i := 14) rfl) rfl), (aw0 (List.mem_of_getElem? (i := 42) rfl) rfl), ⟨_, _, rfl⟩, by decide +kernel⟩
theorem ro98 : ck_rok (7, 50, 0, 278) := ⟨mk278, (aw5 (List.mem_of_getElem? (i := 28) rfl) rfl), (aw5 (List.mem_of_getElem? (i := 30) rfl) rfl), (aw0 (List.mem_of_getElem? (i := 44) rfl) rfl), ⟨_, _, rfl⟩, by decide +kernel⟩
theorem ro99 : ck_rok (8, 78, 0, 227) := ⟨mk227, (aw2 (List.mem_of_getElem? (i := 106) rfl) rfl), (aw2 (List.mem_of_getElem? (i := 107) rfl) rfl), (aw2 (List.mem_of_getElem? (i := 108) rfl) rfl), ⟨_, _, rfl⟩, by decide +kernel⟩
theorem ro100 : ck_rok (8, 82, 0, 228) := ⟨mk228, (aw2 (List.mem_of_getElem? (i := 110) rfl) rfl), (aw2 (List.mem_of_getElem? (i := 111) rfl) rfl), (aw2 (List.mem_of_getElem? (i := 112) rfl) rfl), ⟨_, _, rfl⟩, by decide +kernel⟩
theorem ro101 : ck_rok (8, 90, 0, 229) := ⟨mk229, (aw2 (List.mem_of_getElem? (i := 123) rfl) rfl), (aw2 (List.mem_of_getElem? (i := 124) rfl) rfl), (aw2 (List.mem_of_getElem? (i := 125) rfl) rfl), ⟨_, _, rfl⟩, by decide +kernel⟩
theorem ro102 : ck_rok (8, 94, 0, 177) := ⟨mk177, (aw3 (List.mem_of_getElem? (i := 69) rfl) rfl), (aw3 (List.mem_of_getElem? (i := 70) rfl) rfl), (aw3 (List.mem_of_getElem? (i := 71) rfl) rfl), ⟨_, _, rfl⟩, by decide +kernel⟩
theorem ro103 : ck_rok (8, 106, 0, 179) := ⟨mk179, (aw3 (List.mem_of_getElem? (i := 84) rfl) rfl), (aw2 (List.mem_of_getElem? (i := 236) rfl) rfl), (aw2 (List.mem_of_getElem? (i := 237) rfl) rfl), ⟨_, _, rfl⟩, by decide +kernel⟩
theorem ro104 : ck_rok (8, 109, 1, 60) := ⟨mk60, (aw3 (List.mem_of_getElem? (i := 85) rfl) rfl), (aw3 (List.mem_of_getElem? (i := 86) rfl) rfl), by decide +kernel⟩
theorem ro105 : ck_rok (8, 112, 1, 59) := ⟨mk59, (aw3 (List.mem_of_getElem? (i := 89) rfl) rfl), (aw3 (List.mem_of_getElem? (i := 0) rfl) rfl), by decide +kernel⟩
theorem ro106 : ck_rok (8, 116, 0, 182) := ⟨mk182, (aw3 (List.mem_of_getElem? (i := 90) rfl) rfl), (aw3 (List.mem_of_getElem? (i := 91) rfl) rfl), (aw3 (List.mem_of_getElem? (i := 92) rfl) rfl), ⟨_, _, rfl⟩, by decide +kernel⟩
theorem ro107 : ck_rok (8, 120, 0, 183) := ⟨mk183, (aw3 (List.mem_of_getElem? (i := 101) rfl) rfl), (aw3 (List.mem_of_getElem? (i := 102) rfl) rfl), (aw3 (List.mem_of_getElem? (i := 103) rfl) rfl), ⟨_, _, rfl⟩, by decide +kernel⟩
theorem ro108 : ck_rok (8, 130, 0, 178) := ⟨mk178, (aw3 (List.mem_of_getElem? (i := 113) rfl) rfl), (aw3 (List.mem_of_getElem? (i := 114) rfl) rfl), (aw3 (List.mem_of_getElem? (i := 115) rfl) rfl), ⟨_, _, rfl⟩, by decide +kernel⟩
theorem ro109 : ck_rok (8, 133, 0, 197) := ⟨mk197, (aw3 (List.mem_of_getElem? (i := 117) rfl) rfl), (aw3 (List.mem_of_getElem? (i := 118) rfl) rfl), (aw3 (List.mem_of_getElem? (i := 119) rfl) rfl), ⟨_, _, rfl⟩, by decide +kernel⟩
theorem ro110 : ck_rok (8, 137, 0, 180) := ⟨mk180, (aw3 (List.mem_of_getElem? (i := 145) rfl) rfl), (aw2 (List.mem_of_getElem? (i := 232) rfl) rfl), (aw2 (List.mem_of_getElem? (i := 233) rfl) rfl), ⟨_, _, rfl⟩, by decide +kernel⟩
theorem ro111 : ck_rok (8, 140, 0, 185) := ⟨mk185, (aw3 (List.mem_of_getElem? (i := 146) rfl) rfl), (aw2 (List.mem_of_getElem? (i := 228) rfl) rfl), (aw2 (List.mem_of_getElem? (i := 229) rfl) rfl), ⟨_, _, rfl⟩, by decide +kernel⟩
theorem ro112 : ck_rok (8, 144, 0, 10) := ⟨mk10, (aw3 (List.mem_of_getElem? (i := 151) rfl) rfl), (aw3 (List.mem_of_getElem? (i := 153) rfl) rfl), (aw0 (List.mem_of_getElem? (i := 21) rfl) rfl), ⟨_, _, rfl⟩, by decide +kernel⟩
theorem ro113 : ck_rok (8, 148, 1, 61) := ⟨mk61, (aw3 (List.mem_of_getElem? (i := 155) rfl) rfl), (aw3 (List.mem_of_getElem? (i := 156) rfl) rfl), by decide +kernel⟩
theorem ro114 : ck_rok (8, 151, 0, 198) := ⟨mk198, (aw3 (List.mem_of_getElem? (i := 170) rfl) rfl), (aw3 (List.mem_of_getElem? (i := 171) rfl) rfl), (aw3 (List.mem_of_getElem? (i := 172) rfl) rfl), ⟨_, _, rfl⟩, by decide +kernel⟩
theorem ro115 : ck_rok (8, 158, 0, 186) := ⟨mk186, (aw3 (List.mem_of_getElem? (i := 174) rfl) rfl), (aw3 (List.mem_of_getElem? (i := 35) rfl) rfl), (aw3 (List.mem_of_getElem? (i := 36) rfl) rfl), ⟨_, _, rfl⟩, by decide +kernel⟩
theorem ro116 : ck_rok (8, 162, 0, 205) := ⟨mk205, (aw3 (List.mem_of_getElem? (i := 175) rfl) rfl), (aw3 (List.mem_of_getElem? (i := 176) rfl) rfl), (aw3 (List.mem_of_getElem? (i := 177) rfl) rfl), ⟨_, _, rfl⟩, by decide +kernel⟩
theorem ro117 : ck_rok (8, 175, 0, 203) := ⟨mk203, (aw3 (List.mem_of_getElem? (i := 191) rfl) rfl), (aw3 (List.mem_of_getElem? (i := 192) rfl) rfl), (aw3 (List.mem_of_getElem? (i := 193) rfl) rfl), ⟨_, _, rfl⟩, by decide +kernel⟩
theorem ro118 : ck_rok (8, 178, 0, 204) := ⟨mk204, (aw3 (List.mem_of_getElem? (i := 207) rfl) rfl), (aw3 (List.mem_of_getElem? (i := 196) rfl) rfl), (aw3 (List.mem_of_getElem? (i := 197) rfl) rfl), ⟨_, _, rfl⟩, by decide +kernel⟩
theorem ro119 : ck_rok (8, 182, 0, 206) := ⟨mk206, (aw3 (List.mem_of_getElem? (i := 212) rfl) rfl), (aw3 (List.mem_of_getElem? (i := 213) rfl) rfl), (aw3 (List.mem_of_getElem? (i := 214) rfl) rfl), ⟨_, _, rfl⟩, by decide +kernel⟩
theorem ro120 : ck_rok (8, 186, 0, 210) := ⟨mk210, (aw3 (List.mem_of_getElem? (i := 216) rfl) rfl), (aw3 (List.mem_of_getElem? (i := 217) rfl) rfl), (aw3 (List.mem_of_getElem? (i := 218) rfl) rfl), ⟨_, _, rfl⟩, by decide +kernel⟩
theorem ro121 : ck_rok (8, 196, 0, 211) := ⟨mk211, (aw3 (List.mem_of_getElem? (i := 232) rfl) rfl), (aw3 (List.mem_of_getElem? (i := 233) rfl) rfl), (aw3 (List.mem_of_getElem? (i := 234) rfl) rfl), ⟨_, _, rfl⟩, by decide +kernel⟩
theorem ro122 : ck_rok (8, 212, 0, 212) := ⟨mk212, (aw4 (List.mem_of_getElem? (i := 4) rfl) rfl), (aw4 (List.mem_of_getElem? (i := 5) rfl) rfl), (aw4 (List.mem_of_getElem? (i := 6) rfl) rfl), ⟨_, _, rfl⟩, by decide +kernel⟩
theorem ro123 : ck_rok (8, 215, 0, 215) := ⟨mk215, (aw4 (List.mem_of_getElem? (i := 20) rfl) rfl), (aw4 (List.mem_of_getElem? (i := 21) rfl) rfl), (aw4 (List.mem_of_getElem? (i := 22) rfl) rfl), ⟨_, _, rfl⟩, by decide +kernel⟩
theorem ro124 : ck_rok (8, 219, 0, 216) := ⟨mk216, (aw4 (List.mem_of_getElem? (i := 29) rfl) rfl), (aw4 (List.mem_of_getElem? (i := 30) rfl) rfl), (aw4 (List.mem_of_getElem? (i := 31) rfl) rfl), ⟨_, _, rfl⟩, by decide +kernel⟩
theorem ro125 : ck_rok (8, 223, 0, 217) := ⟨mk217, (aw4 (List.mem_of_getElem? (i := 37) rfl) rfl), (aw4 (List.mem_of_getElem? (i := 38) rfl) rfl), (aw4 (List.mem_of_getElem? (i := 39) rfl) rfl), ⟨_, _, rfl⟩, by decide +kernel⟩
theorem ro126 : ck_rok (8, 227, 0, 193) := ⟨mk193, (aw4 (List.mem_of_getElem? (i := 45) rfl) rfl), (aw4 (List.mem_of_getElem? (i := 46) rfl) rfl), (aw4 (List.mem_of_getElem? (i := 47) rfl) rfl), ⟨_, _, rfl⟩, by decide +kernel⟩
theorem ro127 : ck_rok (8, 230, 0, 27) := ⟨mk27, (aw4 (List.mem_of_getElem? (i := 54) rfl) rfl), (aw4 (List.mem_of_getElem? (i := 56) rfl) rfl), (aw0 (List.mem_of_getElem? (i := 27) rfl) rfl), ⟨_, _, rfl⟩, by decide +kernel⟩
theorem ro128 : ck_rok (8, 234, 0, 194) := ⟨mk194, (aw4 (List.mem_of_getElem? (i := 58) rfl) rfl), (aw4 (List.mem_of_getElem? (i := 59) rfl) rfl), (aw4 (List.mem_of_getElem? (i := 60) rfl) rfl), ⟨_, _, rfl⟩, by decide +kernel⟩
theorem ro129 : ck_rok (8, 241, 0, 192) := ⟨mk192, (aw4 (List.mem_of_getElem? (i := 89) rfl) rfl), (aw4 (List.mem_of_getElem? (i := 90) rfl) rfl), (aw4 (List.mem_of_getElem? (i := 91) rfl) rfl), ⟨_, _, rfl⟩, by decide +kernel⟩
theorem ro130 : ck_rok (8, 244, 0, 181) := ⟨mk181, (aw4 (List.mem_of_getElem? (i := 101) rfl) rfl), (aw4 (List.mem_of_getElem? (i := 102) rfl) rfl), (aw4 (List.mem_of_getElem? (i := 103) rfl) rfl), ⟨_, _, rfl⟩, by decide +kernel⟩
theorem ro131 : ck_rok (8, 250, 0, 220) := ⟨mk220, (aw4 (List.mem_of_getElem? (i := 113) rfl) rfl), (aw4 (List.mem_of_getElem? (i := 114) rfl) rfl), (aw4 (List.mem_of_getElem? (i := 115) rfl) rfl), ⟨_, _, rfl⟩, by decide +kernel⟩
theorem ro132 : ck_rok (8, 266, 0, 218) := ⟨mk218, (aw4 (List.mem_of_getElem? (i := 154) rfl) rfl), (aw4 (List.mem_of_getElem? (i := 155) rfl) rfl), (aw4 (List.mem_of_getElem? (i := 156) rfl) rfl), ⟨_, _, rfl⟩, by decide +kernel⟩
theorem ro133 : ck_rok (8, 269, 0, 226) := ⟨mk226, (aw4 (List.mem_of_getElem? (i := 162) rfl) rfl), (aw4 (List.mem_of_getElem? (i := 163) rfl) rfl), (aw4 (List.mem_of_getElem? (i := 164) rfl) rfl), ⟨_, _, rfl⟩, by decide +kernel⟩
theorem ro134 : ck_rok (8, 272, 0, 258) := ⟨mk258, (aw4 (List.mem_of_getElem? (i := 173) rfl) rfl), (aw4 (List.mem_of_getElem? (i := 174) rfl) rfl), (aw4 (List.mem_of_getElem? (i := 175) rfl) rfl), ⟨_, _, rfl⟩, by decide +kernel⟩
theorem ro135 : ck_rok (8, 275, 0, 260) := ⟨mk260, (aw4 (List.mem_of_getElem? (i := 186) rfl) rfl), (aw4 (List.mem_of_getElem? (i := 187) rfl) rfl), (aw4 (List.mem_of_getElem? (i := 188) rfl) rfl), ⟨_, _, rfl⟩, by decide +kernel⟩
theorem ro136 : ck_rok (8, 278, 0, 264) := ⟨mk264, (aw4 (List.mem_of_getElem? (i := 206) rfl) rfl), (aw4 (List.mem_of_getElem? (i := 207) rfl) rfl), (aw4 (List.mem_of_getElem? (i := 208) rfl) rfl), ⟨_, _, rfl⟩, by decide +kernel⟩
theorem ro137 : ck_rok (8, 281, 1, 279) := ⟨mk279, (aw4 (List.mem_of_getElem? (i := 221) rfl) rfl), (aw4 (List.mem_of_getElem? (i := 222) rfl) rfl), by decide +kernel⟩
theorem ro138 : ck_rok (8, 286, 1, 44) := ⟨mk44, (aw4 (List.mem_of_getElem? (i := 231) rfl) rfl), (aw4 (List.mem_of_getElem? (i := 232) rfl) rfl), by decide +kernel⟩
theorem ro139 : ck_rok (8, 290, 0, 271) := ⟨mk271, (aw4 (List.mem_of_getElem? (i := 234) rfl) rfl), (aw4 (List.mem_of_getElem? (i := 235) rfl) rfl), (aw4 (List.mem_of_getElem? (i := 236) rfl) rfl), ⟨_, _, rfl⟩, by decide +kernel⟩
theorem ro140 : ck_rok (8, 294, 0, 277) := ⟨mk277, (aw5 (List.mem_of_getElem? (i := 24) rfl) rfl), (aw5 (List.mem_of_getElem? (i := 25) rfl) rfl), (aw5 (List.mem_of_getElem? (i := 26) rfl) rfl), ⟨_, _, rfl⟩, by decide +kernel⟩
theorem ro141 : ck_rok (8, 297, 0, 47) := ⟨mk47, (aw5 (List.mem_of_getElem? (i := 36) rfl) rfl), (aw5 (List.mem_of_getElem? (i := 38) rfl) rfl), (aw0 (List.mem_of_getElem? (i := 45) rfl) rfl), ⟨_, _, rfl⟩, by decide +kernel⟩
theorem ro142 : ck_rok (8, 300, 0, 267) := ⟨mk267, (aw5 (List.mem_of_getElem? (i := 41) rfl) rfl), (aw5 (List.mem_of_getElem? (i := 42) rfl) rfl), (aw5 (List.mem_of_getElem? (i := 43) rfl) rfl), ⟨_, _, rfl⟩, by decide +kernel⟩
theorem ro143 : ck_rok (8, 314, 0, 50) := ⟨mk50, (aw5 (List.mem_of_getElem? (i := 71) rfl) rfl), (aw5 (List.mem_of_getElem? (i := 73) rfl) rfl), (aw0 (List.mem_of_getElem? (i := 49) rfl) rfl), ⟨_, _, rfl⟩, by decide +kernel⟩
theorem ro144 : ck_rok (8, 317, 0, 249) := ⟨mk249, (aw5 (List.mem_of_getElem? (i := 75) rfl) rfl), (aw5 (List.mem_of_getElem? (i := 76) rfl) rfl), (aw5 (List.mem_of_getElem? (i := 77) rfl) rfl), ⟨_, _, rfl⟩, by decide +kernel⟩
theorem ro145 : ck_rok (8, 320, 0, 250) := ⟨mk250, (aw5 (List.mem_of_getElem? (i := 79) rfl) rfl), (aw5 (List.mem_of_getElem? (i := 80) rfl) rfl), (aw5 (List.mem_of_getElem? (i := 81) rfl) rfl), ⟨_, _, rfl⟩, by decide +kernel⟩
theorem ro146 : ck_rok (8, 326, 0, 256) := ⟨mk256, (aw5 (List.mem_of_getElem? (i := 84) rfl) rfl), (aw5 (List.mem_of_getElem? (i := 85) rfl) rfl), (aw5 (List.mem_of_getElem? (i := 86) rfl) rfl), ⟨_, _, rfl⟩, by decide +kernel⟩
theorem ro147 : ck_rok (8, 330, 0, 51) := ⟨mk51, (aw5 (List.mem_of_getElem? (i := 94) rfl) rfl), (aw5 (List.mem_of_getElem? (i := 96) rfl) rfl), (aw0 (List.mem_of_getElem? (i := 50) rfl) rfl), ⟨_, _, rfl⟩, by decide +kernel⟩
theorem ro148 : ck_rok (8, 341, 0, 190) := ⟨mk190, (aw5 (List.mem_of_getElem? (i := 108) rfl) rfl), (aw5 (List.mem_of_getElem? (i := 109) rfl) rfl), (aw5 (List.mem_of_getElem? (i := 110) rfl) rfl), ⟨_, _, rfl⟩, by decide +kernel⟩
theorem ro149 : ck_rok (8, 351, 0, 191) := ⟨mk191, (aw5 (List.mem_of_getElem? (i := 113) rfl) rfl), (aw5 (List.mem_of_getElem? (i := 114) rfl) rfl), (aw5 (List.mem_of_getElem? (i := 115) rfl) rfl), ⟨_, _, rfl⟩, by decide +kernel⟩
theorem ro150 : ck_rok (8, 354, 0, 251) := ⟨mk251, (aw5 (List.mem_of_getElem? (i := 117) rfl) rfl), (aw5 (List.mem_of_getElem? (i := 118) rfl) rfl), (aw5 (List.mem_of_getElem? (i := 119) rfl) rfl), ⟨_, _, rfl⟩, by decide +kernel⟩
theorem ro151 : ck_rok (8, 357, 0, 55) := ⟨mk55, (aw5 (List.mem_of_getElem? (i := 125) rfl) rfl), (aw5 (List.mem_of_getElem? (i := 127) rfl) rfl), (aw0 (List.mem_of_getElem? (i := 51) rfl) rfl), ⟨_, _, rfl⟩, by decide +kernel⟩
theorem ro152 : ck_rok (8, 361, 0, 252) := ⟨mk252, (aw5 (List.mem_of_getElem? (i := 137) rfl) rfl), (aw5 (List.mem_of_getElem? (i := 138) rfl) rfl), (aw5 (List.mem_of_getElem? (i := 139) rfl) rfl), ⟨_, _, rfl⟩, by decide +kernel⟩
theorem ro153 : ck_rok (8, 365, 0, 254) := ⟨mk254, (aw5 (List.mem_of_getElem? (i := 145) rfl) rfl), (aw5 (List.mem_of_getElem? (i := 146) rfl) rfl), (aw5 (List.mem_of_getElem? (i := 147) rfl) rfl), ⟨_, _, rfl⟩, by decide +kernel⟩
theorem ro154 : ck_rok (8, 372, 0, 253) := ⟨mk253, (aw5 (List.mem_of_getElem? (i := 156) rfl) rfl), (aw5 (List.mem_of_getElem? (i := 89) rfl) rfl), (aw5 (List.mem_of_getElem? (i := 90) rfl) rfl), ⟨_, _, rfl⟩, by decide +kernel⟩
theorem ro155 : ck_rok (8, 375, 0, 257) := ⟨mk257, (aw5 (List.mem_of_getElem? (i := 157) rfl) rfl), (aw5 (List.mem_of_getElem? (i := 158) rfl) rfl), (aw5 (List.mem_of_getElem? (i := 159) rfl) rfl), ⟨_, _, rfl⟩, by decide +kernel⟩
theorem ro156 : ck_rok (9, 97, 1, 62) := ⟨mk62, (aw6 (List.mem_of_getElem? (i := 75) rfl) rfl), (aw6 (List.mem_of_getElem? (i := 76) rfl) rfl), by decide +kernel⟩
theorem ro157 : ck_rok (9, 101, 1, 63) := ⟨mk63, (aw6 (List.mem_of_getElem? (i := 71) rfl) rfl), (aw6 (List.mem_of_getElem? (i := 72) rfl) rfl), by decide +kernel⟩
theorem ro158 : ck_rok (9, 105, 1, 65) := ⟨mk65, (aw6 (List.mem_of_getElem? (i := 82) rfl) rfl), (aw6 (List.mem_of_getElem? (i := 83) rfl) rfl), by decide +kernel⟩
theorem ro159 : ck_rok (9, 112, 0, 69) := ⟨mk69, (aw6 (List.mem_of_getElem? (i := 93) rfl) rfl), (aw6 (List.mem_of_getElem? (i := 95) rfl) rfl), (aw0 (List.mem_of_getElem? (i := 52) rfl) rfl), ⟨_, _, rfl⟩, by decide +kernel⟩
theorem ro160 : ck_rok (9, 119, 0, 71) := ⟨mk71, (aw6 (List.mem_of_getElem? (i := 121) rfl) rfl), (aw6 (List.mem_of_getElem? (i := 123) rfl) rfl), (aw0 (List.mem_of_getElem? (i := 56) rfl) rfl), ⟨_, _, rfl⟩, by decide +kernel⟩
theorem ro161 : ck_rok (9, 150, 0, 75) := ⟨mk75, (aw6 (List.mem_of_getElem? (i := 143) rfl) rfl), (aw6 (List.mem_of_getElem? (i := 145) rfl) rfl), (aw0 (List.mem_of_getElem? (i := 60) rfl) rfl), ⟨_, _, rfl⟩, by decide +kernel⟩
theorem ro162 : ck_rok (9, 154, 0, 72) := ⟨mk72, (aw6 (List.mem_of_getElem? (i := 117) rfl) rfl), (aw6 (List.mem_of_getElem? (i := 119) rfl) rfl), (aw0 (List.mem_of_getElem? (i := 55) rfl) rfl), ⟨_, _, rfl⟩, by decide +kernel⟩
theorem ro163 : ck_rok (9, 157, 0, 76) := ⟨mk76, (aw6 (List.mem_of_getElem? (i := 139) rfl) rfl), (aw6 (List.mem_of_getElem? (i := 141) rfl) rfl), (aw0 (List.mem_of_getElem? (i := 59) rfl) rfl), ⟨_, _, rfl⟩, by decide +kernel⟩
theorem ro164 : ck_rok (9, 160, 0, 74) := ⟨mk74, (aw6 (List.mem_of_getElem? (i := 147) rfl) rfl), (aw6 (List.mem_of_getElem? (i := 149) rfl) rfl), (aw0 (List.mem_of_getElem? (i := 61) rfl) rfl), ⟨_, _, rfl⟩, by decide +kernel⟩
theorem ro165 : ck_rok (9, 163, 0, 77) := ⟨mk77, (aw6 (List.mem_of_getElem? (i := 135) rfl) rfl), (aw6 (List.mem_of_getElem? (i := 137) rfl) rfl), (aw0 (List.mem_of_getElem? (i := 58) rfl) rfl), ⟨_, _, rfl⟩, by decide +kernel⟩
theorem ro166 : ck_rok (9, 167, 0, 78) := ⟨mk78, (aw6 (List.mem_of_getElem? (i := 151) rfl) rfl), (aw6 (List.mem_of_getElem? (i := 153) rfl) rfl), (aw0 (List.mem_of_getElem? (i := 62) rfl) rfl), ⟨_, _, rfl⟩, by decide +kernel⟩
theorem ro167 : ck_rok (9, 174, 0, 84) := ⟨mk84, (aw6 (List.mem_of_getElem? (i := 168) rfl) rfl), (aw6 (List.mem_of_getElem? (i := 170) rfl) rfl), (aw0 (List.mem_of_getElem? (i := 65) rfl) rfl), ⟨_, _, rfl⟩, by decide +kernel⟩
theorem ro168 : ck_rok (9, 178, 0, 73) := ⟨mk73, (aw6 (List.mem_of_getElem? (i := 130) rfl) rfl), (aw6 (List.mem_of_getElem? (i := 132) rfl) rfl), (aw0 (List.mem_of_getElem? (i := 57) rfl) rfl), ⟨_, _, rfl⟩, by decide +kernel⟩
theorem ro169 : ck_rok (9, 194, 0, 79) := ⟨mk79, (aw6 (List.mem_of_getElem? (i := 161) rfl) rfl), (aw6 (List.mem_of_getElem? (i := 163) rfl) rfl), (aw0 (List.mem_of_getElem? (i := 64) rfl) rfl), ⟨_, _, rfl⟩, by decide +kernel⟩
theorem ro170 : ck_rok (9, 203, 0, 85) := ⟨mk85, (aw6 (List.mem_of_getElem? (i := 172) rfl) rfl), (aw6 (List.mem_of_getElem? (i := 174) rfl) rfl), (aw0 (List.mem_of_getElem? (i := 66) rfl) rfl), ⟨_, _, rfl⟩, by decide +kernel⟩
theorem ro171 : ck_rok (9, 223, 0, 86) := ⟨mk86, (aw6 (List.mem_of_getElem? (i := 185) rfl) rfl), (aw6 (List.mem_of_getElem? (i := 187) rfl) rfl), (aw0 (List.mem_of_getElem? (i := 67) rfl) rfl), ⟨_, _, rfl⟩, by decide +kernel⟩
theorem ro172 : ck_rok (9, 226, 0, 88) := ⟨mk88, (aw6 (List.mem_of_getElem? (i := 109) rfl) rfl), (aw6 (List.mem_of_getElem? (i := 111) rfl) rfl), (aw0 (List.mem_of_getElem? (i := 53) rfl) rfl), ⟨_, _, rfl⟩, by decide +kernel⟩
theorem ro173 : ck_rok (9, 229, 0, 81) := ⟨mk81, (aw6 (List.mem_of_getElem? (i := 113) rfl) rfl), (aw6 (List.mem_of_getElem? (i := 115) rfl) rfl), (aw0 (List.mem_of_getElem? (i := 54) rfl) rfl), ⟨_, _, rfl⟩, by decide +kernel⟩
theorem ro174 : ck_rok (9, 234, 0, 87) := ⟨mk87, (aw6 (List.mem_of_getElem? (i := 155) rfl) rfl), (aw6 (List.mem_of_getElem? (i := 157) rfl) rfl), (aw0 (List.mem_of_getElem? (i := 63) rfl) rfl), ⟨_, _, rfl⟩, by decide +kernel⟩
theorem ro175 : ck_rok (9, 237, 0, 80) := ⟨mk80, (aw6 (List.mem_of_getElem? (i := 190) rfl) rfl), (aw6 (List.mem_of_getElem? (i := 192) rfl) rfl), (aw0 (List.mem_of_getElem? (i := 68) rfl) rfl), ⟨_, _, rfl⟩, by decide +kernel⟩
theorem ro176 : ck_rok (9, 240, 0, 82) := ⟨mk82, (aw6 (List.mem_of_getElem? (i := 194) rfl) rfl), (aw6 (List.mem_of_getElem? (i := 196) rfl) rfl), (aw0 (List.mem_of_getElem? (i := 69) rfl) rfl), ⟨_, _, rfl⟩, by decide +kernel⟩
theorem ro177 : ck_rok (9, 243, 0, 91) := ⟨mk91, (aw6 (List.mem_of_getElem? (i := 198) rfl) rfl), (aw6 (List.mem_of_getElem? (i := 200) rfl) rfl), (aw0 (List.mem_of_getElem? (i := 70) rfl) rfl), ⟨_, _, rfl⟩, by decide +kernel⟩
theorem ro178 : ck_rok (9, 247, 1, 90) := ⟨mk90, (aw6 (List.mem_of_getElem? (i := 202) rfl) rfl), (aw6 (List.mem_of_getElem? (i := 203) rfl) rfl), by decide +kernel⟩
theorem ro179 : ck_rok (9, 253, 0, 95) := ⟨mk95, (aw6 (List.mem_of_getElem? (i := 222) rfl) rfl), (aw6 (List.mem_of_getElem? (i := 224) rfl) rfl), (aw0 (List.mem_of_getElem? (i := 73) rfl) rfl), ⟨_, _, rfl⟩, by decide +kernel⟩
theorem ro180 : ck_rok (9, 256, 0, 93) := ⟨mk93, (aw6 (List.mem_of_getElem? (i := 209) rfl) rfl), (aw6 (List.mem_of_getElem? (i := 211) rfl) rfl), (aw0 (List.mem_of_getElem? (i := 71) rfl) rfl), ⟨_, _, rfl⟩, by decide +kernel⟩
theorem ro181 : ck_rok (9, 259, 1, 94) := ⟨mk94, (aw6 (List.mem_of_getElem? (i := 213) rfl) rfl), (aw6 (List.mem_of_getElem? (i := 214) rfl) rfl), by decide +kernel⟩
theorem ro182 : ck_rok (9, 264, 0, 96) := ⟨mk96, (aw6 (List.mem_of_getElem? (i := 218) rfl) rfl), (aw6 (List.mem_of_getElem? (i := 220) rfl) rfl), (aw0 (List.mem_of_getElem? (i := 72) rfl) rfl), ⟨_, _, rfl⟩, by decide +kernel⟩
theorem ro183 : ck_rok (9, 267, 0, 97) := ⟨mk97, (aw6 (List.mem_of_getElem? (i := 226) rfl) rfl), (aw6 (List.mem_of_getElem? (i := 228) rfl) rfl), (aw0 (List.mem_of_getElem? (i := 74) rfl) rfl), ⟨_, _, rfl⟩, by decide +kernel⟩
theorem ro184 : ck_rok (9, 270, 0, 92) := ⟨mk92, (aw6 (List.mem_of_getElem? (i := 238) rfl) rfl), (aw7 (List.mem_of_getElem? (i := 0) rfl) rfl), (aw0 (List.mem_of_getElem? (i := 75) rfl) rfl), ⟨_, _, rfl⟩, by decide +kernel⟩
theorem ro185 : ck_rok (9, 273, 0, 100) := ⟨mk100, (aw7 (List.mem_of_getElem? (i := 2) rfl) rfl), (aw7 (List.mem_of_getElem? (i := 4) rfl) rfl), (aw0 (List.mem_of_getElem? (i := 76) rfl) rfl), ⟨_, _, rfl⟩, by decide +kernel⟩
theorem ro186 : ck_rok (9, 276, 0, 102) := ⟨mk102, (aw7 (List.mem_of_getElem? (i := 10) rfl) rfl), (aw7 (List.mem_of_getElem? (i := 12) rfl) rfl), (aw0 (List.mem_of_getElem? (i := 77) rfl) rfl), ⟨_, _, rfl⟩, by decide +kernel⟩
theorem ro187 : ck_rok (9, 280, 0, 106) := ⟨mk106, (aw7 (List.mem_of_getElem? (i := 34) rfl) rfl), (aw7 (List.mem_of_getElem? (i := 36) rfl) rfl), (aw0 (List.mem_of_getElem? (i := 80) rfl) rfl), ⟨_, _, rfl⟩, by decide +kernel⟩
theorem ro188 : ck_rok (9, 283, 0, 107) := ⟨mk107, (aw7 (List.mem_of_getElem? (i := 30) rfl) rfl), (aw7 (List.mem_of_getElem? (i := 32) rfl) rfl), (aw0 (List.mem_of_getElem? (i := 79) rfl) rfl), ⟨_, _, rfl⟩, by decide +kernel⟩
theorem ro189 : ck_rok (9, 286, 0, 108) := ⟨mk108, (aw7 (List.mem_of_getElem? (i := 26) rfl) rfl), (aw7 (List.mem_of_getElem? (i := 28) rfl) rfl), (aw0 (List.mem_of_getElem? (i := 78) rfl) rfl), ⟨_, _, rfl⟩, by decide +kernel⟩
theorem ro190 : ck_rok (9, 289, 0, 111) := ⟨mk111, (aw7 (List.mem_of_getElem? (i := 46) rfl) rfl), (aw7 (List.mem_of_getElem? (i := 48) rfl) rfl), (aw0 (List.mem_of_getElem? (i := 81) rfl) rfl), ⟨_, _, rfl⟩, by decide +kernel⟩
theorem ro191 : ck_rok (9, 298, 0, 117) := ⟨mk117, (aw7 (List.mem_of_getElem? (i := 62) rfl) rfl), (aw7 (List.mem_of_getElem? (i := 64) rfl) rfl), (aw0 (List.mem_of_getElem? (i := 82) rfl) rfl), ⟨_, _, rfl⟩, by decide +kernel⟩
theorem ro192 : ck_rok (9, 303, 0, 116) := ⟨mk116, (aw7 (List.mem_of_getElem? (i := 67) rfl) rfl), (aw7 (List.mem_of_getElem? (i := 69) rfl) rfl), (aw0 (List.mem_of_getElem? (i := 83) rfl) rfl), ⟨_, _, rfl⟩, by decide +kernel⟩
theorem ro193 : ck_rok (9, 306, 0, 115) := ⟨mk115, (aw7 (List.mem_of_getElem? (i := 71) rfl) rfl), (aw7 (List.mem_of_getElem? (i := 73) rfl) rfl), (aw0 (List.mem_of_getElem? (i := 84) rfl) rfl), ⟨_, _, rfl⟩, by decide +kernel⟩
theorem ro194 : ck_rok (9, 309, 0, 122) := ⟨mk122, (aw7 (List.mem_of_getElem? (i := 91) rfl) rfl), (aw7 (List.mem_of_getElem? (i := 93) rfl) rfl), (aw0 (List.mem_of_getElem? (i := 85) rfl) rfl), ⟨_, _, rfl⟩, by decide +kernel⟩
theorem ro195 : ck_rok (9, 312, 0, 124) := ⟨mk124, (aw7 (List.mem_of_getElem? (i := 107) rfl) rfl), (aw7 (List.mem_of_getElem? (i := 109) rfl) rfl), (aw0 (List.mem_of_getElem? (i := 88) rfl) rfl), ⟨_, _, rfl⟩, by decide +kernel⟩
theorem ro196 : ck_rok (9, 315, 0, 125) := ⟨mk125, (aw7 (List.mem_of_getElem? (i := 103) rfl) rfl), (aw7 (List.mem_of_getElem? (i := 105) rfl) rfl), (aw0 (List.mem_of_getElem? (i := 87) rfl) rfl), ⟨_, _, rfl⟩, by decide +kernel⟩
theorem ro197 : ck_rok (9, 318, 0, 126) := ⟨mk126, (aw7 (List.mem_of_getElem? (i := 99) rfl) rfl), (aw7 (List.mem_of_getElem? (i := 101) rfl) rfl), (aw0 (List.mem_of_getElem? (i := 86) rfl) rfl), ⟨_, _, rfl⟩, by decide +kernel⟩
theorem ro198 : ck_rok (9, 325, 0, 131) := ⟨mk131, (aw7 (List.mem_of_getElem? (i := 129) rfl) rfl), (aw7 (List.mem_of_getElem? (i := 131) rfl) rfl), (aw0 (List.mem_of_getElem? (i := 89) rfl) rfl), ⟨_, _, rfl⟩, by decide +kernel⟩
theorem ro199 : ck_rok (9, 328, 0, 134) := ⟨mk134, (aw7 (List.mem_of_getElem? (i := 145) rfl) rfl), (aw7 (List.mem_of_getElem? (i := 147) rfl) rfl), (aw0 (List.mem_of_getElem? (i := 91) rfl) rfl), ⟨_, _, rfl⟩, by decide +kernel⟩
theorem ro200 : ck_rok (9, 340, 0, 135) := ⟨mk135, (aw7 (List.mem_of_getElem? (i := 141) rfl) rfl), (aw7 (List.mem_of_getElem? (i := 143) rfl) rfl), (aw0 (List.mem_of_getElem? (i := 90) rfl) rfl), ⟨_, _, rfl⟩, by decide +kernel⟩
theorem ro201 : ck_rok (9, 343, 0, 141) := ⟨mk141, (aw7 (List.mem_of_getElem? (i := 169) rfl) rfl), (aw7 (List.mem_of_getElem? (i := 171) rfl) rfl), (aw0 (List.mem_of_getElem? (i := 92) rfl) rfl), ⟨_, _, rfl⟩, by decide +kernel⟩
theorem ro202 : ck_rok (9, 346, 0, 142) := ⟨mk142, (aw7 (List.mem_of_getElem? (i := 173) rfl) rfl), (aw7 (List.mem_of_getElem? (i := 175) rfl) rfl), (aw0 (List.mem_of_getElem? (i := 93) rfl) rfl), ⟨_, _, rfl⟩, by decide +kernel⟩
theorem ro203 : ck_rok (9, 349, 1, 144) := ⟨mk144, (aw7 (List.mem_of_getElem? (i := 193) rfl) rfl), (aw7 (List.mem_of_getElem? (i := 194) rfl) rfl), by decide +kernel⟩
theorem ro204 : ck_rok (9, 352, 0, 145) := ⟨mk145, (aw7 (List.mem_of_getElem? (i := 189) rfl) rfl), (aw7 (List.mem_of_getElem? (i := 191) rfl) rfl), (aw0 (List.mem_of_getElem? (i := 96) rfl) rfl), ⟨_, _, rfl⟩, by decide +kernel⟩
theorem ro205 : ck_rok (9, 355, 0, 146) := ⟨mk146, (aw7 (List.mem_of_getElem? (i := 181) rfl) rfl), (aw7 (List.mem_of_getElem? (i := 183) rfl) rfl), (aw0 (List.mem_of_getElem? (i := 94) rfl) rfl), ⟨_, _, rfl⟩, by decide +kernel⟩
theorem ro206 : ck_rok (9, 359, 0, 147) := ⟨mk147, (aw7 (List.mem_of_getElem? (i := 185) rfl) rfl), (aw7 (List.mem_of_getElem? (i := 187) rfl) rfl), (aw0 (List.mem_of_getElem? (i := 95) rfl) rfl), ⟨_, _, rfl⟩, by decide +kernel⟩
theorem ro207 : ck_rok (9, 362, 1, 152) := ⟨mk152, (aw7 (List.mem_of_getElem? (i := 212) rfl) rfl), (aw7 (List.mem_of_getElem? (i := 213) rfl) rfl), by decide +kernel⟩
theorem ro208 : ck_rok (9, 365, 1, 150) := ⟨mk150, (aw7 (List.mem_of_getElem? (i := 215) rfl) rfl), (aw7 (List.mem_of_getElem? (i := 216) rfl) rfl), by decide +kernel⟩
theorem ro209 : ck_rok (9, 369, 1, 153) := ⟨mk153, (aw7 (List.mem_of_getElem? (i := 204) rfl) rfl), (aw7 (List.mem_of_getElem? (i := 205) rfl) rfl), by decide +kernel⟩
theorem ro210 : ck_rok (9, 372, 0, 151) := ⟨mk151, (aw7 (List.mem_of_getElem? (i := 208) rfl) rfl), (aw7 (List.mem_of_getElem? (i := 210) rfl) rfl), (aw0 (List.mem_of_getElem? (i := 97) rfl) rfl), ⟨_, _, rfl⟩, by decide +kernel⟩
theorem ro211 : ck_rok (9, 376, 0, 160) := ⟨mk160, (aw8 (List.mem_of_getElem? (i := 2) rfl) rfl), (aw8 (List.mem_of_getElem? (i := 4) rfl) rfl), (aw0 (List.mem_of_getElem? (i := 98) rfl) rfl), ⟨_, _, rfl⟩, by decide +kernel⟩
theorem ro212 : ck_rok (9, 391, 0, 164) := ⟨mk164, (aw8 (List.mem_of_getElem? (i := 24) rfl) rfl), (aw8 (List.mem_of_getElem? (i := 26) rfl) rfl), (aw0 (List.mem_of_getElem? (i := 101) rfl) rfl), ⟨_, _, rfl⟩, by decide +kernel⟩
theorem ro213 : ck_rok (9, 408, 0, 165) := ⟨mk165, (aw8 (List.mem_of_getElem? (i := 14) rfl) rfl), (aw8 (List.mem_of_getElem? (i := 16) rfl) rfl), (aw0 (List.mem_of_getElem? (i := 99) rfl) rfl), ⟨_, _, rfl⟩, by decide +kernel⟩
theorem ro214 : ck_rok (9, 411, 0, 163) := ⟨mk163, (aw8 (List.mem_of_getElem? (i := 20) rfl) rfl), (aw8 (List.mem_of_getElem? (i := 22) rfl) rfl), (aw0 (List.mem_of_getElem? (i := 100) rfl) rfl), ⟨_, _, rfl⟩, by decide +kernel⟩
theorem ro215 : ck_rok (9, 421, 0, 168) := ⟨mk168, (aw8 (List.mem_of_getElem? (i := 42) rfl) rfl), (aw8 (List.mem_of_getElem? (i := 44) rfl) rfl), (aw0 (List.mem_of_getElem? (i := 102) rfl) rfl), ⟨_, _, rfl⟩, by decide +kernel⟩
theorem ro216 : ck_rok (9, 424, 0, 169) := ⟨mk169, (aw8 (List.mem_of_getElem? (i := 48) rfl) rfl), (aw8 (List.mem_of_getElem? (i := 50) rfl) rfl), (aw0 (List.mem_of_getElem? (i := 103) rfl) rfl), ⟨_, _, rfl⟩, by decide +kernel⟩
theorem ro217 : ck_rok (13, 335, 4, 285) := ⟨mk285, (aw2 (List.mem_of_getElem? (i := 170) rfl) rfl), (aw2 (List.mem_of_getElem? (i := 171) rfl) rfl), (aw2 (List.mem_of_getElem? (i := 172) rfl) rfl), rfl, by decide +kernel⟩
theorem ro218 : ck_rok (13, 492, 4, 286) := ⟨mk286, (aw2 (List.mem_of_getElem? (i := 180) rfl) rfl), (aw2 (List.mem_of_getElem? (i := 181) rfl) rfl), (aw2 (List.mem_of_getElem? (i := 182) rfl) rfl), rfl, by decide +kernel⟩
theorem ro219 : ck_rok (13, 495, 1, 288) := ⟨mk288, (aw2 (List.mem_of_getElem? (i := 184) rfl) rfl), (aw2 (List.mem_of_getElem? (i := 185) rfl) rfl), by decide +kernel⟩
theorem ro220 : ck_rok (13, 1059, 1, 290) := ⟨mk290, (aw2 (List.mem_of_getElem? (i := 192) rfl) rfl), (aw2 (List.mem_of_getElem? (i := 193) rfl) rfl), by decide +kernel⟩
theorem ro221 : ck_rok (14, 9, 1, 284) := ⟨mk284, (aw2 (List.mem_of_getElem? (i := 187) rfl) rfl), (aw2 (List.mem_of_getElem? (i := 188) rfl) rfl), by decide +kernel⟩
def ck_RT_0 : List (Nat × Nat × Nat × Nat) := [(0, 50, 1, 282), (0, 56, 0, 185), (0, 60, 3, 0), (0, 66, 0, 179), (0, 70, 0, 184), (0, 73, 1, 280), (0, 76, 0, 180), (0, 80, 2, 59), (0, 83, 1, 279), (0, 89, 0, 182), (0, 92, 0, 183), (0, 95, 0, 195), (0, 98, 0, 196), (1, 18, 0, 199), (1, 35, 1, 200), (1, 39, 1, 289), (1, 45, 0, 201), (1, 49, 0, 202), (1, 58, 1, 282), (1, 64, 1, 280), (1, 67, 0, 182), (1, 70, 0, 183), (1, 79, 0, 204), (1, 89, 0, 207), (1, 93, 0, 208)]
theorem ck_RT_0_ok : ∀ q ∈ ck_RT_0, ck_rok q := (List.forall_mem_cons.mpr ⟨ro0, (List.forall_mem_cons.mpr ⟨ro1, (List.forall_mem_cons.mpr ⟨ro2, (List.forall_mem_cons.mpr ⟨ro3, (List.forall_mem_cons.mpr ⟨ro4, (List.forall_mem_cons.mpr ⟨ro5, (List.forall_mem_cons.mpr ⟨ro6, (List.forall_mem_cons.mpr ⟨ro7, (List.forall_mem_cons.mpr ⟨ro8, (List.forall_mem_cons.mpr ⟨ro9, (List.forall_mem_cons.mpr ⟨ro10, (List.forall_mem_cons.mpr ⟨ro11, (List.forall_mem_cons.mpr ⟨ro12, (List.forall_mem_cons.mpr ⟨ro13, (List.forall_mem_cons.mpr ⟨ro14, (List.forall_mem_cons.mpr ⟨ro15, (List.forall_mem_cons.mpr ⟨ro16, (List.forall_mem_cons.mpr ⟨ro17, (List.forall_mem_cons.mpr ⟨ro18, (List.forall_mem_cons.mpr ⟨ro19, (List.forall_mem_cons.mpr ⟨ro20, (List.forall_mem_cons.mpr ⟨ro21, (List.forall_mem_cons.mpr ⟨ro22, (List.forall_mem_cons.mpr ⟨ro23, (List.forall_mem_cons.mpr ⟨ro24, (fun _ h => absurd h List.not_mem_nil)⟩)⟩)⟩)⟩)⟩)⟩)⟩)⟩)⟩)⟩)⟩)⟩)⟩)⟩)⟩)⟩)⟩)⟩)⟩)⟩)⟩)⟩)⟩)⟩)⟩)
def ck_RT_1 : List (Nat × Nat × Nat × Nat) := [(1, 102, 0, 209), (1, 112, 0, 214), (1, 116, 0, 213), (1, 120, 0, 211), (2, 36, 0, 219), (2, 46, 0, 221), (2, 53, 0, 222), (2, 57, 0, 225), (2, 61, 1, 289), (2, 70, 0, 182), (2, 74, 0, 183), (2, 77, 1, 282), (2, 82, 0, 223), (2, 85, 0, 224), (2, 89, 1, 281), (3, 26, 0, 227), (3, 30, 0, 175), (3, 48, 0, 245), (3, 54, 0, 230), (3, 61, 0, 231), (3, 66, 0, 244), (3, 70, 0, 232), (3, 75, 0, 234), (3, 80, 0, 236), (3, 85, 0, 237)]
theorem ck_RT_1_ok : ∀ q ∈ ck_RT_1, ck_rok q := (List.forall_mem_cons.mpr ⟨ro25, (List.forall_mem_cons.mpr ⟨ro26, (List.forall_mem_cons.mpr ⟨ro27, (List.forall_mem_cons.mpr ⟨ro28, (List.forall_mem_cons.mpr ⟨ro29, (List.forall_mem_cons.mpr ⟨ro30, (List.forall_mem_cons.mpr ⟨ro31, (List.forall_mem_cons.mpr ⟨ro32, (List.forall_mem_cons.mpr ⟨ro33, (List.forall_mem_cons.mpr ⟨ro34, (List.forall_mem_cons.mpr ⟨ro35, (List.forall_mem_cons.mpr ⟨ro36, (List.forall_mem_cons.mpr ⟨ro37, (List.forall_mem_cons.mpr ⟨ro38, (List.forall_mem_cons.mpr ⟨ro39, (List.forall_mem_cons.mpr ⟨ro40, (List.forall_mem_cons.mpr ⟨ro41, (List.forall_mem_cons.mpr ⟨ro42, (List.forall_mem_cons.mpr ⟨ro43, (List.forall_mem_cons.mpr ⟨ro44, (List.forall_mem_cons.mpr ⟨ro45, (List.forall_mem_cons.mpr ⟨ro46, (List.forall_mem_cons.mpr ⟨ro47, (List.forall_mem_cons.mpr ⟨ro48, (List.forall_mem_cons.mpr ⟨ro49, (fun _ h => absurd h List.not_mem_nil)⟩)⟩)⟩)⟩)⟩)⟩)⟩)⟩)⟩)⟩)⟩)⟩)⟩)⟩)⟩)⟩)⟩)⟩)⟩)⟩)⟩)⟩)⟩)⟩)⟩)
def ck_RT_2 : List (Nat × Nat × Nat × Nat) := [(3, 90, 0, 238), (3, 93, 0, 243), (3, 96, 0, 239), (3, 101, 0, 240), (3, 104, 0, 241), (3, 111, 0, 176), (3, 115, 0, 242), (3, 118, 0, 233), (3, 122, 0, 187), (3, 139, 0, 235), (3, 147, 0, 186), (3, 150, 0, 185), (3, 154, 0, 188), (3, 162, 0, 189), (3, 178, 4, 287), (3, 182, 0, 246), (3, 186, 4, 283), (3, 190, 1, 247), (3, 193, 1, 248), (3, 197, 1, 282), (4, 22, 1, 289), (4, 28, 0, 249), (4, 32, 0, 250), (4, 35, 0, 253), (4, 39, 1, 255)]
theorem ck_RT_2_ok : ∀ q ∈ ck_RT_2, ck_rok q := (List.forall_mem_cons.mpr ⟨ro50, (List.forall_mem_cons.mpr ⟨ro51, (List.forall_mem_cons.mpr ⟨ro52, (List.forall_mem_cons.mpr ⟨ro53, (List.forall_mem_cons.mpr ⟨ro54, (List.forall_mem_cons.mpr ⟨ro55, (List.forall_mem_cons.mpr ⟨ro56, (List.forall_mem_cons.mpr ⟨ro57, (List.forall_mem_cons.mpr ⟨ro58, (List.forall_mem_cons.mpr ⟨ro59, (List.forall_mem_cons.mpr ⟨ro60, (List.forall_mem_cons.mpr ⟨ro61, (List.forall_mem_cons.mpr ⟨ro62, (List.forall_mem_cons.mpr ⟨ro63, (List.forall_mem_cons.mpr ⟨ro64, (List.forall_mem_cons.mpr ⟨ro65, (List.forall_mem_cons.mpr ⟨ro66, (List.forall_mem_cons.mpr ⟨ro67, (List.forall_mem_cons.mpr ⟨ro68, (List.forall_mem_cons.mpr ⟨ro69, (List.forall_mem_cons.mpr ⟨ro70, (List.forall_mem_cons.mpr ⟨ro71, (List.forall_mem_cons.mpr ⟨ro72, (List.forall_mem_cons.mpr ⟨ro73, (List.forall_mem_cons.mpr ⟨ro74, (fun _ h => absurd h List.not_mem_nil)⟩)⟩)⟩)⟩)⟩)⟩)⟩)⟩)⟩)⟩)⟩)⟩)⟩)⟩)⟩)⟩)⟩)⟩)⟩)⟩)⟩)⟩)⟩)⟩)⟩)
def ck_RT_3 : List (Nat × Nat × Nat × Nat) := [(4, 45, 3, 0), (5, 18, 1, 259), (5, 22, 0, 182), (5, 31, 0, 183), (5, 34, 1, 261), (5, 38, 0, 262), (5, 42, 1, 289), (5, 48, 0, 263), (5, 52, 0, 265), (5, 56, 1, 266), (6, 33, 0, 268), (6, 40, 0, 269), (6, 44, 1, 289), (6, 50, 0, 182), (6, 54, 0, 183), (6, 60, 0, 270), (7, 15, 0, 272), (7, 19, 0, 276), (7, 30, 1, 289), (7, 35, 0, 273), (7, 38, 1, 279), (7, 44, 0, 274), (7, 47, 0, 275), (7, 50, 0, 278), (8, 78, 0, 227)]
theorem ck_RT_3_ok : ∀ q ∈ ck_RT_3, ck_rok q := (List.forall_mem_cons.mpr ⟨ro75, (List.forall_mem_cons.mpr ⟨ro76, (List.forall_mem_cons.mpr ⟨ro77, (List.forall_mem_cons.mpr ⟨ro78, (List.forall_mem_cons.mpr ⟨ro79, (List.forall_mem_cons.mpr ⟨ro80, (List.forall_mem_cons.mpr ⟨ro81, (List.forall_mem_cons.mpr ⟨ro82, (List.forall_mem_cons.mpr ⟨ro83, (List.forall_mem_cons.mpr ⟨ro84, (List.forall_mem_cons.mpr ⟨ro85, (List.forall_mem_cons.mpr ⟨ro86, (List.forall_mem_cons.mpr ⟨ro87, (List.forall_mem_cons.mpr ⟨ro88, (List.forall_mem_cons.mpr ⟨ro89, (List.forall_mem_cons.mpr ⟨ro90, (List.forall_mem_cons.mpr ⟨ro91, (List.forall_mem_cons.mpr ⟨ro92, (List.forall_mem_cons.mpr ⟨ro93, (List.forall_mem_cons.mpr ⟨ro94, (List.forall_mem_cons.mpr ⟨ro95, (List.forall_mem_cons.mpr ⟨ro96, (List.forall_mem_cons.mpr ⟨ro97, (List.forall_mem_cons.mpr ⟨ro98, (List.forall_mem_cons.mpr ⟨ro99, (fun _ h => absurd h List.not_mem_nil)⟩)⟩)⟩)⟩)⟩)⟩)⟩)⟩)⟩)⟩)⟩)⟩)⟩)⟩)⟩)⟩)⟩)⟩)⟩)⟩)⟩)⟩)⟩)⟩)⟩)
def ck_RT_4 : List (Nat × Nat × Nat × Nat) := [(8, 82, 0, 228), (8, 90, 0, 229), (8, 94, 0, 177), (8, 106, 0, 179), (8, 109, 1, 60), (8, 112, 1, 59), (8, 116, 0, 182), (8, 120, 0, 183), (8, 130, 0, 178), (8, 133, 0, 197), (8, 137, 0, 180), (8, 140, 0, 185), (8, 144, 0, 10), (8, 148, 1, 61), (8, 151, 0, 198), (8, 158, 0, 186), (8, 162, 0, 205), (8, 175, 0, 203), (8, 178, 0, 204), (8, 182, 0, 206), (8, 186, 0, 210), (8, 196, 0, 211), (8, 212, 0, 212), (8, 215, 0, 215), (8, 219, 0, 216)]
theorem ck_RT_4_ok : ∀ q ∈ ck_RT_4, ck_rok q := (List.forall_mem_cons.mpr ⟨ro100, (List.forall_mem_cons.mpr ⟨ro101, (List.forall_mem_cons.mpr ⟨ro102, (List.forall_mem_cons.mpr ⟨ro103, (List.forall_mem_cons.mpr ⟨ro104, (List.forall_mem_cons.mpr ⟨ro105, (List.forall_mem_cons.mpr ⟨ro106, (List.forall_mem_cons.mpr ⟨ro107, (List.forall_mem_cons.mpr ⟨ro108, (List.forall_mem_cons.mpr ⟨ro109, (List.forall_mem_cons.mpr ⟨ro110, (List.forall_mem_cons.mpr ⟨ro111, (List.forall_mem_cons.mpr ⟨ro112, (List.forall_mem_cons.mpr ⟨ro113, (List.forall_mem_cons.mpr ⟨ro114, (List.forall_mem_cons.mpr ⟨ro115, (List.forall_mem_cons.mpr ⟨ro116, (List.forall_mem_cons.mpr ⟨ro117, (List.forall_mem_cons.mpr ⟨ro118, (List.forall_mem_cons.mpr ⟨ro119, (List.forall_mem_cons.mpr ⟨ro120, (List.forall_mem_cons.mpr ⟨ro121, (List.forall_mem_cons.mpr ⟨ro122, (List.forall_mem_cons.mpr ⟨ro123, (List.forall_mem_cons.mpr ⟨ro124, (fun _ h => absurd h List.not_mem_nil)⟩)⟩)⟩)⟩)⟩)⟩)⟩)⟩)⟩)⟩)⟩)⟩)⟩)⟩)⟩)⟩)⟩)⟩)⟩)⟩)⟩)⟩)⟩)⟩)⟩)
def ck_RT_5 : List (Nat × Nat × Nat × Nat) := [(8, 223, 0, 217), (8, 227, 0, 193), (8, 230, 0, 27), (8, 234, 0, 194), (8, 241, 0, 192), (8, 244, 0, 181), (8, 250, 0, 220), (8, 266, 0, 218), (8, 269, 0, 226), (8, 272, 0, 258), (8, 275, 0, 260), (8, 278, 0, 264), (8, 281, 1, 279), (8, 286, 1, 44), (8, 290, 0, 271), (8, 294, 0, 277), (8, 297, 0, 47), (8, 300, 0, 267), (8, 314, 0, 50), (8, 317, 0, 249), (8, 320, 0, 250), (8, 326, 0, 256), (8, 330, 0, 51), (8, 341, 0, 190), (8, 351, 0, 191)]
theorem ck_RT_5_ok : ∀ q ∈ ck_RT_5, ck_rok q := (List.forall_mem_cons.mpr ⟨ro125, (List.forall_mem_cons.mpr ⟨ro126, (List.forall_mem_cons.mpr ⟨ro127, (List.forall_mem_cons.mpr ⟨ro128, (List.forall_mem_cons.mpr ⟨ro129, (List.forall_mem_cons.mpr ⟨ro130, (List.forall_mem_cons.mpr ⟨ro131, (List.forall_mem_cons.mpr ⟨ro132, (List.forall_mem_cons.mpr ⟨ro133, (List.forall_mem_cons.mpr ⟨ro134, (List.forall_mem_cons.mpr ⟨ro135, (List.forall_mem_cons.mpr ⟨ro136, (List.forall_mem_cons.mpr ⟨ro137, (List.forall_mem_cons.mpr ⟨ro138, (List.forall_mem_cons.mpr ⟨ro139, (List.forall_mem_cons.mpr ⟨ro140, (List.forall_mem_cons.mpr ⟨ro141, (List.forall_mem_cons.mpr ⟨ro142, (List.forall_mem_cons.mpr ⟨ro143, (List.forall_mem_cons.mpr ⟨ro144, (List.forall_mem_cons.mpr ⟨ro145, (List.forall_mem_cons.mpr ⟨ro146, (List.forall_mem_cons.mpr ⟨ro147, (List.forall_mem_cons.mpr ⟨ro148, (List.forall_mem_cons.mpr ⟨ro149, (fun _ h => absurd h List.not_mem_nil)⟩)⟩)⟩)⟩)⟩)⟩)⟩)⟩)⟩)⟩)⟩)⟩)⟩)⟩)⟩)⟩)⟩)⟩)⟩)⟩)⟩)⟩)⟩)⟩)⟩)
def ck_RT_6 : List (Nat × Nat × Nat × Nat) := [(8, 354, 0, 251), (8, 357, 0, 55), (8, 361, 0, 252), (8, 365, 0, 254), (8, 372, 0, 253), (8, 375, 0, 257), (9, 97, 1, 62), (9, 101, 1, 63), (9, 105, 1, 65), (9, 112, 0, 69), (9, 119, 0, 71), (9, 150, 0, 75), (9, 154, 0, 72), (9, 157, 0, 76), (9, 160, 0, 74), (9, 163, 0, 77), (9, 167, 0, 78), (9, 174, 0, 84), (9, 178, 0, 73), (9, 194, 0, 79), (9, 203, 0, 85), (9, 223, 0, 86), (9, 226, 0, 88), (9, 229, 0, 81), (9, 234, 0, 87)]
theorem ck_RT_6_ok : ∀ q ∈ ck_RT_6, ck_rok q := (List.forall_mem_cons.mpr ⟨ro150, (List.forall_mem_cons.mpr ⟨ro151, (List.forall_mem_cons.mpr ⟨ro152, (List.forall_mem_cons.mpr ⟨ro153, (List.forall_mem_cons.mpr ⟨ro154, (List.forall_mem_cons.mpr ⟨ro155, (List.forall_mem_cons.mpr ⟨ro156, (List.forall_mem_cons.mpr ⟨ro157, (List.forall_mem_cons.mpr ⟨ro158, (List.forall_mem_cons.mpr ⟨ro159, (List.forall_mem_cons.mpr ⟨ro160, (List.forall_mem_cons.mpr ⟨ro161, (List.forall_mem_cons.mpr ⟨ro162, (List.forall_mem_cons.mpr ⟨ro163, (List.forall_mem_cons.mpr ⟨ro164, (List.forall_mem_cons.mpr ⟨ro165, (List.forall_mem_cons.mpr ⟨ro166, (List.forall_mem_cons.mpr ⟨ro167, (List.forall_mem_cons.mpr ⟨ro168, (List.forall_mem_cons.mpr ⟨ro169, (List.forall_mem_cons.mpr ⟨ro170, (List.forall_mem_cons.mpr ⟨ro171, (List.forall_mem_cons.mpr ⟨ro172, (List.forall_mem_cons.mpr ⟨ro173, (List.forall_mem_cons.mpr ⟨ro174, (fun _ h => absurd h List.not_mem_nil)⟩)⟩)⟩)⟩)⟩)⟩)⟩)⟩)⟩)⟩)⟩)⟩)⟩)⟩)⟩)⟩)⟩)⟩)⟩)⟩)⟩)⟩)⟩)⟩)⟩)
def ck_RT_7 : List (Nat × Nat × Nat × Nat) := [(9, 237, 0, 80), (9, 240, 0, 82), (9, 243, 0, 91), (9, 247, 1, 90), (9, 253, 0, 95), (9, 256, 0, 93), (9, 259, 1, 94), (9, 264, 0, 96), (9, 267, 0, 97), (9, 270, 0, 92), (9, 273, 0, 100), (9, 276, 0, 102), (9, 280, 0, 106), (9, 283, 0, 107), (9, 286, 0, 108), (9, 289, 0, 111), (9, 298, 0, 117), (9, 303, 0, 116), (9, 306, 0, 115), (9, 309, 0, 122), (9, 312, 0, 124), (9, 315, 0, 125), (9, 318, 0, 126), (9, 325, 0, 131), (9, 328, 0, 134)]
theorem ck_RT_7_ok : ∀ q ∈ ck_RT_7, ck_rok q := (List.forall_mem_cons.mpr ⟨ro175, (List.forall_mem_cons.mpr ⟨ro176, (List.forall_mem_cons.mpr ⟨ro177, (List.forall_mem_cons.mpr ⟨ro178, (List.forall_mem_cons.mpr ⟨ro179, (List.forall_mem_cons.mpr ⟨ro180, (List.forall_mem_cons.mpr ⟨ro181, (List.forall_mem_cons.mpr ⟨ro182, (List.forall_mem_cons.mpr ⟨ro183, (List.forall_mem_cons.mpr ⟨ro184, (List.forall_mem_cons.mpr ⟨ro185, (List.forall_mem_cons.mpr ⟨ro186, (List.forall_mem_cons.mpr ⟨ro187, (List.forall_mem_cons.mpr ⟨ro188, (List.forall_mem_cons.mpr ⟨ro189, (List.forall_mem_cons.mpr ⟨ro190, (List.forall_mem_cons.mpr ⟨ro191, (List.forall_mem_cons.mpr ⟨ro192, (List.forall_mem_cons.mpr ⟨ro193, (List.forall_mem_cons.mpr ⟨ro194, (List.forall_mem_cons.mpr ⟨ro195, (List.forall_mem_cons.mpr ⟨ro196, (List.forall_mem_cons.mpr ⟨ro197, (List.forall_mem_cons.mpr ⟨ro198, (List.forall_mem_cons.mpr ⟨ro199, (fun _ h => absurd h List.not_mem_nil)⟩)⟩)⟩)⟩)⟩)⟩)⟩)⟩)⟩)⟩)⟩)⟩)⟩)⟩)⟩)⟩)⟩)⟩)⟩)⟩)⟩)⟩)⟩)⟩)⟩)
def ck_RT_8 : List (Nat × Nat × Nat × Nat) := [(9, 340, 0, 135), (9, 343, 0, 141), (9, 346, 0, 142), (9, 349, 1, 144), (9, 352, 0, 145), (9, 355, 0, 146), (9, 359, 0, 147), (9, 362, 1, 152), (9, 365, 1, 150), (9, 369, 1, 153), (9, 372, 0, 151), (9, 376, 0, 160), (9, 391, 0, 164), (9, 408, 0, 165), (9, 411, 0, 163), (9, 421, 0, 168), (9, 424, 0, 169), (13, 335, 4, 285), (13, 492, 4, 286), (13, 495, 1, 288), (13, 1059, 1, 290), (14, 9, 1, 284)]
theorem ck_RT_8_ok : ∀ q ∈ ck_RT_8, ck_rok q := (List.forall_mem_cons.mpr ⟨ro200, (List.forall_mem_cons.mpr ⟨ro201, (List.forall_mem_cons.mpr ⟨ro202, (List.forall_mem_cons.mpr ⟨ro203, (List.forall_mem_cons.mpr ⟨ro204, (List.forall_mem_cons.mpr ⟨ro205, (List.forall_mem_cons.mpr ⟨ro206, (List.forall_mem_cons.mpr ⟨ro207, (List.forall_mem_cons.mpr ⟨ro208, (List.forall_mem_cons.mpr ⟨ro209, (List.forall_mem_cons.mpr ⟨ro210, (List.forall_mem_cons.mpr ⟨ro211, (List.forall_mem_cons.mpr ⟨ro212, (List.forall_mem_cons.mpr ⟨ro213, (List.forall_mem_cons.mpr ⟨ro214, (List.forall_mem_cons.mpr ⟨ro215, (List.forall_mem_cons.mpr ⟨ro216, (List.forall_mem_cons.mpr ⟨ro217, (List.forall_mem_cons.mpr ⟨ro218, (List.forall_mem_cons.mpr ⟨ro219, (List.forall_mem_cons.mpr ⟨ro220, (List.forall_mem_cons.mpr ⟨ro221, (fun _ h => absurd h List.not_mem_nil)⟩)⟩)⟩)⟩)⟩)⟩)⟩)⟩)⟩)⟩)⟩)⟩)⟩)⟩)⟩)⟩)⟩)⟩)⟩)⟩)⟩)⟩)
def ck_RT : List (Nat × Nat × Nat × Nat) := ck_RT_0 ++ (ck_RT_1 ++ (ck_RT_2 ++ (ck_RT_3 ++ (ck_RT_4 ++ (ck_RT_5 ++ (ck_RT_6 ++ (ck_RT_7 ++ (ck_RT_8))))))))
theorem ck_RT_ok : ∀ q ∈ ck_RT, ck_rok q := (List.forall_mem_append.mpr ⟨ck_RT_0_ok, (List.forall_mem_append.mpr ⟨ck_RT_1_ok, (List.forall_mem_append.mpr ⟨ck_RT_2_ok, (List.forall_mem_append.mpr ⟨ck_RT_3_ok, (List.forall_mem_append.mpr ⟨ck_RT_4_ok, (List.forall_mem_append.mpr ⟨ck_RT_5_ok, (List.forall_mem_append.mpr ⟨ck_RT_6_ok, (List.forall_mem_append.mpr ⟨ck_RT_7_ok, ck_RT_8_ok⟩)⟩)⟩)⟩)⟩)⟩)⟩)⟩)
