abbrev jx_im : Nat → Option Nat := va_up (va_up (va_up (fun _ => none) (0 : Int32).toNatClampNeg (some 37)) (1 : Int32).toNatClampNeg (some 44)) (2 : Int32).toNatClampNeg (some 51)
abbrev jx_w : Nat → Int32 := upd (upd (upd (upd (fun _ => 0) (0 : Int32).toNatClampNeg (-1)) (1 : Int32).toNatClampNeg (-1)) (2 : Int32).toNatClampNeg (-1)) (3 : Int32).toNatClampNeg (-1)
abbrev cx0 : jv_E := .inr (8, [.ref 1, .ref 8, .ref 15, .ref 16, .ref 17, .ref 19, .ref 22, .ref 26, .ref 29, .ref 31, .ref 33])
abbrev cx1 : jv_E := .inr (0, [.int 0, .int 0, .int 0, .int 0, .int 0, .ref 2, .ref 3, .ref 4, .ref 5, .ref 6, .ref 7, .int 0, .int 0, .int 0, .int 0, .int 0])
abbrev cx2 : jv_E := .inl (0, 48, .inl (fun _ => 0))
abbrev cx3 : jv_E := .inl (0, 48, .inl (fun _ => 0))
abbrev cx4 : jv_E := .inl (0, 6, .inl (fun _ => 0))
abbrev cx5 : jv_E := .inl (0, 6, .inl (fun _ => 0))
abbrev cx6 : jv_E := .inl (0, 6, .inl (fun _ => 0))
abbrev cx7 : jv_E := .inl (0, 24, .inl (fun _ => 0))
abbrev cx8 : jv_E := .inr (0, [.int 0, .int 0, .int 0, .int 0, .int 0, .ref 9, .ref 10, .ref 11, .ref 12, .ref 13, .ref 14, .int 0, .int 0, .int 0, .int 0, .int 0])
abbrev cx9 : jv_E := .inl (0, 48, .inl (fun _ => 0))
abbrev cx10 : jv_E := .inl (0, 48, .inl (fun _ => 0))
abbrev cx11 : jv_E := .inl (0, 6, .inl (fun _ => 0))
abbrev cx12 : jv_E := .inl (0, 6, .inl (fun _ => 0))
abbrev cx13 : jv_E := .inl (0, 6, .inl (fun _ => 0))
abbrev cx14 : jv_E := .inl (0, 24, .inl (fun _ => 0))
abbrev cx15 : jv_E := .inl (4, 3, .inr (.inr (.inr (.inr jx_im))))
abbrev cx16 : jv_E := .inl (2, 3, .inl (fun _ => 0))
abbrev cx17 : jv_E := .inr (3, [.ref 18, .int 0, .int 0, .int (-1), .ref 8, .int 0, .int 0, .int 0, .int 0, .int 0, .int 0, .int 0])
abbrev cx18 : jv_E := .inl (1, 1600, .inl (fun _ => 0))
abbrev cx19 : jv_E := .inr (1, [.int 0, .int 0, .int 0, .int 0, .int 0, .int 0, .ref 20, .ref 21])
abbrev cx20 : jv_E := .inl (0, 60, .inl (fun _ => 0))
abbrev cx21 : jv_E := .inl (0, 158, .inl (fun _ => 0))
abbrev cx22 : jv_E := .inr (2, [.int 0, .int 0, .int 0, .ref 23, .int 0, .int 0, .int 0, .ref 24, .ref 25])
abbrev cx23 : jv_E := .inl (0, 6, .inl (fun _ => 0))
abbrev cx24 : jv_E := .inl (0, 6, .inl (fun _ => 0))
abbrev cx25 : jv_E := .inl (0, 576, .inl (fun _ => 0))
abbrev cx26 : jv_E := .inr (5, [.ref 27, .ref 28])
abbrev cx27 : jv_E := .inl (0, 512, .inl (fun _ => 0))
abbrev cx28 : jv_E := .inl (0, 512, .inl (fun _ => 0))
abbrev cx29 : jv_E := .inr (7, [.int 0, .int 0, .ref 30])
abbrev cx30 : jv_E := .inl (0, 2560, .inl (fun _ => 0))
abbrev cx31 : jv_E := .inr (6, [.int 0, .int 0, .int 0, .int 0, .ref 32])
abbrev cx32 : jv_E := .inl (0, 6, .inl (fun _ => 0))
abbrev cx33 : jv_E := .inr (4, [.ref 34, .ref 35, .ref 36])
abbrev cx34 : jv_E := .inl (0, 4, .inl (fun _ => 0))
abbrev cx35 : jv_E := .inl (0, 4, .inl jx_w)
abbrev cx36 : jv_E := .inl (3, 240, .inr (.inl (fun _ => 0)))
abbrev cx37 : jv_E := .inr (0, [.int 0, .int 0, .int 0, .int 0, .int 0, .ref 38, .ref 39, .ref 40, .ref 41, .ref 42, .ref 43, .int 0, .int 0, .int 0, .int 0, .int 0])
abbrev cx38 : jv_E := .inl (0, 48, .inl (fun _ => 0))
abbrev cx39 : jv_E := .inl (0, 48, .inl (fun _ => 0))
abbrev cx40 : jv_E := .inl (0, 6, .inl (fun _ => 0))
abbrev cx41 : jv_E := .inl (0, 6, .inl (fun _ => 0))
abbrev cx42 : jv_E := .inl (0, 6, .inl (fun _ => 0))
abbrev cx43 : jv_E := .inl (0, 24, .inl (fun _ => 0))
abbrev cx44 : jv_E := .inr (0, [.int 0, .int 0, .int 0, .int 0, .int 0, .ref 45, .ref 46, .ref 47, .ref 48, .ref 49, .ref 50, .int 0, .int 0, .int 0, .int 0, .int 0])
abbrev cx45 : jv_E := .inl (0, 48, .inl (fun _ => 0))
abbrev cx46 : jv_E := .inl (0, 48, .inl (fun _ => 0))
abbrev cx47 : jv_E := .inl (0, 6, .inl (fun _ => 0))
abbrev cx48 : jv_E := .inl (0, 6, .inl (fun _ => 0))
abbrev cx49 : jv_E := .inl (0, 6, .inl (fun _ => 0))
abbrev cx50 : jv_E := .inl (0, 24, .inl (fun _ => 0))
abbrev cx51 : jv_E := .inr (0, [.int 0, .int 0, .int 0, .int 0, .int 0, .ref 52, .ref 53, .ref 54, .ref 55, .ref 56, .ref 57, .int 0, .int 0, .int 0, .int 0, .int 0])
abbrev cx52 : jv_E := .inl (0, 48, .inl (fun _ => 0))
abbrev cx53 : jv_E := .inl (0, 48, .inl (fun _ => 0))
abbrev cx54 : jv_E := .inl (0, 6, .inl (fun _ => 0))
abbrev cx55 : jv_E := .inl (0, 6, .inl (fun _ => 0))
abbrev cx56 : jv_E := .inl (0, 6, .inl (fun _ => 0))
abbrev cx57 : jv_E := .inl (0, 24, .inl (fun _ => 0))
abbrev cx58 : jv_E := .inr (9, [.int 0, .ref 59, .ref 60, .ref 61, .ref 62, .ref 63, .int 0, .int 0, .int 0, .int 0, .int 0, .long 0, .int 0, .int 0, .int 0, .int (-1), .ref 64, .ref 65, .ref 66, .ref 67, .ref 68, .ref 69, .ref 70, .ref 71, .ref 72, .ref 73, .int 0, .ref 74, .ref 75, .ref 76, .int 0, .int 0, .ref 77, .ref 78, .ref 79, .int 0, .int 0, .int 0, .ref 80, .ref 81, .ref 82, .long 0, .ref 83, .int 0, .int 0, .int 0])
abbrev cx59 : jv_E := .inl (0, 4, .inl jx_w)
abbrev cx60 : jv_E := .inl (0, 4, .inl (fun _ => 0))
abbrev cx61 : jv_E := .inl (3, 240, .inr (.inl (fun _ => 0)))
abbrev cx62 : jv_E := .inl (3, 60, .inr (.inl (fun _ => 0)))
abbrev cx63 : jv_E := .inl (1, 1600, .inl (fun _ => 0))
abbrev cx64 : jv_E := .inl (0, 6, .inl (fun _ => 0))
abbrev cx65 : jv_E := .inl (0, 6, .inl (fun _ => 0))
abbrev cx66 : jv_E := .inl (0, 36, .inl (fun _ => 0))
abbrev cx67 : jv_E := .inl (0, 36, .inl (fun _ => 0))
abbrev cx68 : jv_E := .inl (0, 288, .inl (fun _ => 0))
abbrev cx69 : jv_E := .inl (0, 288, .inl (fun _ => 0))
abbrev cx70 : jv_E := .inl (0, 12, .inl (fun _ => 0))
abbrev cx71 : jv_E := .inl (0, 72, .inl (fun _ => 0))
abbrev cx72 : jv_E := .inl (0, 144, .inl (fun _ => 0))
abbrev cx73 : jv_E := .inl (0, 12, .inl (fun _ => 0))
abbrev cx74 : jv_E := .inl (2, 3, .inl (fun _ => 0))
abbrev cx75 : jv_E := .inl (0, 8, .inl (fun _ => 0))
abbrev cx76 : jv_E := .inl (0, 8, .inl (fun _ => 0))
abbrev cx77 : jv_E := .inl (2, 5040, .inl (fun _ => 0))
abbrev cx78 : jv_E := .inl (2, 32400, .inl (fun _ => 0))
abbrev cx79 : jv_E := .inl (0, 32400, .inl (fun _ => 0))
abbrev cx80 : jv_E := .inl (0, 100, .inl (fun _ => 0))
abbrev cx81 : jv_E := .inl (0, 512, .inl (fun _ => 0))
abbrev cx82 : jv_E := .inl (3, 18688, .inr (.inl (fun _ => 0)))
abbrev cx83 : jv_E := .inl (2, 96, .inl (fun _ => 0))
abbrev jx_F (E : Nat → jv_E) : Prop := E 0 = cx0 ∧ E 1 = cx1 ∧ E 2 = cx2 ∧ E 3 = cx3 ∧ E 4 = cx4 ∧ E 5 = cx5 ∧ E 6 = cx6 ∧ E 7 = cx7 ∧ E 8 = cx8 ∧ E 9 = cx9 ∧ E 10 = cx10 ∧ E 11 = cx11 ∧ E 12 = cx12 ∧ E 13 = cx13 ∧ E 14 = cx14 ∧ E 15 = cx15 ∧ E 16 = cx16 ∧ E 17 = cx17 ∧ E 18 = cx18 ∧ E 19 = cx19 ∧ E 20 = cx20 ∧ E 21 = cx21 ∧ E 22 = cx22 ∧ E 23 = cx23 ∧ E 24 = cx24 ∧ E 25 = cx25 ∧ E 26 = cx26 ∧ E 27 = cx27 ∧ E 28 = cx28 ∧ E 29 = cx29 ∧ E 30 = cx30 ∧ E 31 = cx31 ∧ E 32 = cx32 ∧ E 33 = cx33 ∧ E 34 = cx34 ∧ E 35 = cx35 ∧ E 36 = cx36 ∧ E 37 = cx37 ∧ E 38 = cx38 ∧ E 39 = cx39 ∧ E 40 = cx40 ∧ E 41 = cx41 ∧ E 42 = cx42 ∧ E 43 = cx43 ∧ E 44 = cx44 ∧ E 45 = cx45 ∧ E 46 = cx46 ∧ E 47 = cx47 ∧ E 48 = cx48 ∧ E 49 = cx49 ∧ E 50 = cx50 ∧ E 51 = cx51 ∧ E 52 = cx52 ∧ E 53 = cx53 ∧ E 54 = cx54 ∧ E 55 = cx55 ∧ E 56 = cx56 ∧ E 57 = cx57 ∧ E 58 = cx58 ∧ E 59 = cx59 ∧ E 60 = cx60 ∧ E 61 = cx61 ∧ E 62 = cx62 ∧ E 63 = cx63 ∧ E 64 = cx64 ∧ E 65 = cx65 ∧ E 66 = cx66 ∧ E 67 = cx67 ∧ E 68 = cx68 ∧ E 69 = cx69 ∧ E 70 = cx70 ∧ E 71 = cx71 ∧ E 72 = cx72 ∧ E 73 = cx73 ∧ E 74 = cx74 ∧ E 75 = cx75 ∧ E 76 = cx76 ∧ E 77 = cx77 ∧ E 78 = cx78 ∧ E 79 = cx79 ∧ E 80 = cx80 ∧ E 81 = cx81 ∧ E 82 = cx82 ∧ E 83 = cx83
theorem jv_Ecg {l : Launch} {D : va_G} {cl : List vw_C} {kp : Nat → ClassId} {G : jv_G} {cs ss n : Nat} {E E2 : Nat → jv_E} {pc : Nat} {lv : List (Nat × Value)} {st : List Value} (h : ∀ i, i < n → E i = E2 i) (k : jv_V l D cl kp G cs ss n E2 pc lv st) : jv_V l D cl kp G cs ss n E pc lv st := by
  obtain ⟨p, e, R, s, m, args, below, meth, c, A, nL, n0, f0, Q⟩ := G
  intro f H locs ls hP hD hS hE hL hs hn hf hl
  have e9 : jv_W n f kp E = jv_W n f kp E2 := by
    unfold jv_W
    exact List.map_congr_left (fun i hi => by rw [h i (List.mem_range.mp hi)])
  rw [e9] at hP hD
  exact k f H locs ls hP hD hS (fun i hi => by rw [← h i hi]; exact hE i hi) hL hs hn hf hl
theorem fr_bd {B : List (Int × Int)} (h : B.all (fun b => decide (b.1 ≤ 0) && decide (0 ≤ b.2)) = true) (hb : 0 < B.length) (i : Nat) : (ck_bd B i).1 ≤ 0 ∧ 0 ≤ (ck_bd B i).2 := by
  have hi := Nat.mod_lt i hb
  have e : ck_bd B i = B[i % B.length] := by unfold ck_bd; rw [List.getD_eq_getElem?_getD, List.getElem?_eq_getElem hi]; rfl
  have h1 := List.all_eq_true.mp h _ (List.getElem_mem hi)
  rw [e]
  obtain ⟨a, b⟩ := Bool.and_eq_true_iff.mp h1
  exact ⟨of_decide_eq_true a, of_decide_eq_true b⟩
theorem fr_I {t z : Nat} {B : List (Int × Int)} (ht : ¬ t = 3) (h : B.all (fun b => decide (b.1 ≤ 0) && decide (0 ≤ b.2)) = true) (hb : 0 < B.length) : ck_okc (.inr (.inl (t, z, B))) (.inl (t, z, .inl (fun _ => 0))) := (ck_okI ht).mpr ⟨_, rfl, fun i _ => fr_bd h hb i⟩
theorem fr_J {z : Nat} {B : List (Int × Int)} (h : B.all (fun b => decide (b.1 ≤ 0) && decide (0 ≤ b.2)) = true) (hb : 0 < B.length) : ck_okc (.inr (.inl (3, z, B))) (.inl (3, z, .inr (.inl (fun _ => 0)))) := ck_okJ.mpr ⟨_, rfl, fun i _ => fr_bd h hb i⟩
theorem fr_w : ∀ i, i < 4 → (jx_w i).toInt = -1 := by decide +kernel
theorem fr_0 {c : ck_C} (h : ck_CT[0]? = some c) : ck_okc c cx0 := by
  cases h
  exact ⟨_, rfl, rfl, rfl, rfl, rfl, rfl, rfl, rfl, rfl, rfl, rfl, rfl, trivial⟩
theorem fr_1 {c : ck_C} (h : ck_CT[1]? = some c) : ck_okc c cx1 := by
  cases h
  exact ⟨_, rfl, ⟨_, rfl, by decide, by decide⟩, ⟨_, rfl, by decide, by decide⟩, ⟨_, rfl, by decide, by decide⟩, ⟨_, rfl, by decide, by decide⟩, ⟨_, rfl, by decide, by decide⟩, rfl, rfl, rfl, rfl, rfl, rfl, ⟨_, rfl, by decide, by decide⟩, ⟨_, rfl, by decide, by decide⟩, ⟨_, rfl, by decide, by decide⟩, ⟨_, rfl, by decide, by decide⟩, ⟨_, rfl, by decide, by decide⟩, trivial⟩
theorem fr_2 {c : ck_C} (h : ck_CT[2]? = some c) : ck_okc c cx2 := by
  cases h
  exact fr_I (by decide) (by decide) (by decide)
theorem fr_3 {c : ck_C} (h : ck_CT[3]? = some c) : ck_okc c cx3 := by
  cases h
  exact fr_I (by decide) (by decide) (by decide)
theorem fr_4 {c : ck_C} (h : ck_CT[4]? = some c) : ck_okc c cx4 := by
  cases h
  exact fr_I (by decide) (by decide) (by decide)
theorem fr_5 {c : ck_C} (h : ck_CT[5]? = some c) : ck_okc c cx5 := by
  cases h
  exact fr_I (by decide) (by decide) (by decide)
theorem fr_6 {c : ck_C} (h : ck_CT[6]? = some c) : ck_okc c cx6 := by
  cases h
  exact fr_I (by decide) (by decide) (by decide)
theorem fr_7 {c : ck_C} (h : ck_CT[7]? = some c) : ck_okc c cx7 := by
  cases h
  exact fr_I (by decide) (by decide) (by decide)
theorem fr_8 {c : ck_C} (h : ck_CT[8]? = some c) : ck_okc c cx8 := by
  cases h
  exact ⟨_, rfl, ⟨_, rfl, by decide, by decide⟩, ⟨_, rfl, by decide, by decide⟩, ⟨_, rfl, by decide, by decide⟩, ⟨_, rfl, by decide, by decide⟩, ⟨_, rfl, by decide, by decide⟩, rfl, rfl, rfl, rfl, rfl, rfl, ⟨_, rfl, by decide, by decide⟩, ⟨_, rfl, by decide, by decide⟩, ⟨_, rfl, by decide, by decide⟩, ⟨_, rfl, by decide, by decide⟩, ⟨_, rfl, by decide, by decide⟩, trivial⟩
theorem fr_9 {c : ck_C} (h : ck_CT[9]? = some c) : ck_okc c cx9 := by
  cases h
  exact fr_I (by decide) (by decide) (by decide)
theorem fr_10 {c : ck_C} (h : ck_CT[10]? = some c) : ck_okc c cx10 := by
  cases h
  exact fr_I (by decide) (by decide) (by decide)
theorem fr_11 {c : ck_C} (h : ck_CT[11]? = some c) : ck_okc c cx11 := by
  cases h
  exact fr_I (by decide) (by decide) (by decide)
theorem fr_12 {c : ck_C} (h : ck_CT[12]? = some c) : ck_okc c cx12 := by
  cases h
  exact fr_I (by decide) (by decide) (by decide)
theorem fr_13 {c : ck_C} (h : ck_CT[13]? = some c) : ck_okc c cx13 := by
  cases h
  exact fr_I (by decide) (by decide) (by decide)
theorem fr_14 {c : ck_C} (h : ck_CT[14]? = some c) : ck_okc c cx14 := by
  cases h
  exact fr_I (by decide) (by decide) (by decide)
theorem fr_15 {c : ck_C} (h : ck_CT[15]? = some c) : ck_okc c cx15 := by
  cases h
  exact ⟨_, rfl, fun i k hk => by match i, hk with | 0, hk => cases hk; rfl | 1, hk => cases hk; rfl | 2, hk => cases hk; rfl | i + 3, hk => simp at hk⟩
theorem fr_16 {c : ck_C} (h : ck_CT[16]? = some c) : ck_okc c cx16 := by
  cases h
  exact fr_I (by decide) (by decide) (by decide)
theorem fr_17 {c : ck_C} (h : ck_CT[17]? = some c) : ck_okc c cx17 := by
  cases h
  exact ⟨_, rfl, rfl, ⟨_, rfl, by decide, by decide⟩, ⟨_, rfl, by decide, by decide⟩, ⟨_, rfl, by decide, by decide⟩, rfl, ⟨_, rfl, by decide, by decide⟩, ⟨_, rfl, by decide, by decide⟩, ⟨_, rfl, by decide, by decide⟩, ⟨_, rfl, by decide, by decide⟩, ⟨_, rfl, by decide, by decide⟩, ⟨_, rfl, by decide, by decide⟩, ⟨_, rfl, by decide, by decide⟩, trivial⟩
theorem fr_18 {c : ck_C} (h : ck_CT[18]? = some c) : ck_okc c cx18 := by
  cases h
  exact fr_I (by decide) (by decide) (by decide)
theorem fr_19 {c : ck_C} (h : ck_CT[19]? = some c) : ck_okc c cx19 := by
  cases h
  exact ⟨_, rfl, ⟨_, rfl, by decide, by decide⟩, ⟨_, rfl, by decide, by decide⟩, ⟨_, rfl, by decide, by decide⟩, ⟨_, rfl, by decide, by decide⟩, ⟨_, rfl, by decide, by decide⟩, ⟨_, rfl, by decide, by decide⟩, rfl, rfl, trivial⟩
theorem fr_20 {c : ck_C} (h : ck_CT[20]? = some c) : ck_okc c cx20 := by
  cases h
  exact fr_I (by decide) (by decide) (by decide)
theorem fr_21 {c : ck_C} (h : ck_CT[21]? = some c) : ck_okc c cx21 := by
  cases h
  exact fr_I (by decide) (by decide) (by decide)
theorem fr_22 {c : ck_C} (h : ck_CT[22]? = some c) : ck_okc c cx22 := by
  cases h
  exact ⟨_, rfl, ⟨_, rfl, by decide, by decide⟩, ⟨_, rfl, by decide, by decide⟩, ⟨_, rfl, by decide, by decide⟩, rfl, ⟨_, rfl, by decide, by decide⟩, ⟨_, rfl, by decide, by decide⟩, ⟨_, rfl, by decide, by decide⟩, rfl, rfl, trivial⟩
theorem fr_23 {c : ck_C} (h : ck_CT[23]? = some c) : ck_okc c cx23 := by
  cases h
  exact fr_I (by decide) (by decide) (by decide)
theorem fr_24 {c : ck_C} (h : ck_CT[24]? = some c) : ck_okc c cx24 := by
  cases h
  exact fr_I (by decide) (by decide) (by decide)
theorem fr_25 {c : ck_C} (h : ck_CT[25]? = some c) : ck_okc c cx25 := by
  cases h
  exact fr_I (by decide) (by decide) (by decide)
theorem fr_26 {c : ck_C} (h : ck_CT[26]? = some c) : ck_okc c cx26 := by
  cases h
  exact ⟨_, rfl, rfl, rfl, trivial⟩
theorem fr_27 {c : ck_C} (h : ck_CT[27]? = some c) : ck_okc c cx27 := by
  cases h
  exact fr_I (by decide) (by decide) (by decide)
theorem fr_28 {c : ck_C} (h : ck_CT[28]? = some c) : ck_okc c cx28 := by
  cases h
  exact fr_I (by decide) (by decide) (by decide)
theorem fr_29 {c : ck_C} (h : ck_CT[29]? = some c) : ck_okc c cx29 := by
  cases h
  exact ⟨_, rfl, ⟨_, rfl, by decide, by decide⟩, ⟨_, rfl, by decide, by decide⟩, rfl, trivial⟩
theorem fr_30 {c : ck_C} (h : ck_CT[30]? = some c) : ck_okc c cx30 := by
  cases h
  exact fr_I (by decide) (by decide) (by decide)
theorem fr_31 {c : ck_C} (h : ck_CT[31]? = some c) : ck_okc c cx31 := by
  cases h
  exact ⟨_, rfl, ⟨_, rfl, by decide, by decide⟩, ⟨_, rfl, by decide, by decide⟩, ⟨_, rfl, by decide, by decide⟩, ⟨_, rfl, by decide, by decide⟩, rfl, trivial⟩
theorem fr_32 {c : ck_C} (h : ck_CT[32]? = some c) : ck_okc c cx32 := by
  cases h
  exact fr_I (by decide) (by decide) (by decide)
theorem fr_33 {c : ck_C} (h : ck_CT[33]? = some c) : ck_okc c cx33 := by
  cases h
  exact ⟨_, rfl, rfl, rfl, rfl, trivial⟩
theorem fr_34 {c : ck_C} (h : ck_CT[34]? = some c) : ck_okc c cx34 := by
  cases h
  exact fr_I (by decide) (by decide) (by decide)
theorem fr_35 {c : ck_C} (h : ck_CT[35]? = some c) : ck_okc c cx35 := by
  cases h
  exact (ck_okI (by decide)).mpr ⟨_, rfl, fun i hi => by rw [fr_w i hi, ck_bd1 rfl i 0]; exact ⟨by decide, by decide⟩⟩
theorem fr_36 {c : ck_C} (h : ck_CT[36]? = some c) : ck_okc c cx36 := by
  cases h
  exact fr_J (by decide) (by decide)
theorem fr_37 {c : ck_C} (h : ck_CT[37]? = some c) : ck_okc c cx37 := by
  cases h
  exact ⟨_, rfl, ⟨_, rfl, by decide, by decide⟩, ⟨_, rfl, by decide, by decide⟩, ⟨_, rfl, by decide, by decide⟩, ⟨_, rfl, by decide, by decide⟩, ⟨_, rfl, by decide, by decide⟩, rfl, rfl, rfl, rfl, rfl, rfl, ⟨_, rfl, by decide, by decide⟩, ⟨_, rfl, by decide, by decide⟩, ⟨_, rfl, by decide, by decide⟩, ⟨_, rfl, by decide, by decide⟩, ⟨_, rfl, by decide, by decide⟩, trivial⟩
theorem fr_38 {c : ck_C} (h : ck_CT[38]? = some c) : ck_okc c cx38 := by
  cases h
  exact fr_I (by decide) (by decide) (by decide)
theorem fr_39 {c : ck_C} (h : ck_CT[39]? = some c) : ck_okc c cx39 := by
  cases h
  exact fr_I (by decide) (by decide) (by decide)
theorem fr_40 {c : ck_C} (h : ck_CT[40]? = some c) : ck_okc c cx40 := by
  cases h
  exact fr_I (by decide) (by decide) (by decide)
theorem fr_41 {c : ck_C} (h : ck_CT[41]? = some c) : ck_okc c cx41 := by
  cases h
  exact fr_I (by decide) (by decide) (by decide)
theorem fr_42 {c : ck_C} (h : ck_CT[42]? = some c) : ck_okc c cx42 := by
  cases h
  exact fr_I (by decide) (by decide) (by decide)
theorem fr_43 {c : ck_C} (h : ck_CT[43]? = some c) : ck_okc c cx43 := by
  cases h
  exact fr_I (by decide) (by decide) (by decide)
theorem fr_44 {c : ck_C} (h : ck_CT[44]? = some c) : ck_okc c cx44 := by
  cases h
  exact ⟨_, rfl, ⟨_, rfl, by decide, by decide⟩, ⟨_, rfl, by decide, by decide⟩, ⟨_, rfl, by decide, by decide⟩, ⟨_, rfl, by decide, by decide⟩, ⟨_, rfl, by decide, by decide⟩, rfl, rfl, rfl, rfl, rfl, rfl, ⟨_, rfl, by decide, by decide⟩, ⟨_, rfl, by decide, by decide⟩, ⟨_, rfl, by decide, by decide⟩, ⟨_, rfl, by decide, by decide⟩, ⟨_, rfl, by decide, by decide⟩, trivial⟩
theorem fr_45 {c : ck_C} (h : ck_CT[45]? = some c) : ck_okc c cx45 := by
  cases h
  exact fr_I (by decide) (by decide) (by decide)
theorem fr_46 {c : ck_C} (h : ck_CT[46]? = some c) : ck_okc c cx46 := by
  cases h
  exact fr_I (by decide) (by decide) (by decide)
theorem fr_47 {c : ck_C} (h : ck_CT[47]? = some c) : ck_okc c cx47 := by
  cases h
  exact fr_I (by decide) (by decide) (by decide)
theorem fr_48 {c : ck_C} (h : ck_CT[48]? = some c) : ck_okc c cx48 := by
  cases h
  exact fr_I (by decide) (by decide) (by decide)
theorem fr_49 {c : ck_C} (h : ck_CT[49]? = some c) : ck_okc c cx49 := by
  cases h
  exact fr_I (by decide) (by decide) (by decide)
theorem fr_50 {c : ck_C} (h : ck_CT[50]? = some c) : ck_okc c cx50 := by
  cases h
  exact fr_I (by decide) (by decide) (by decide)
theorem fr_51 {c : ck_C} (h : ck_CT[51]? = some c) : ck_okc c cx51 := by
  cases h
  exact ⟨_, rfl, ⟨_, rfl, by decide, by decide⟩, ⟨_, rfl, by decide, by decide⟩, ⟨_, rfl, by decide, by decide⟩, ⟨_, rfl, by decide, by decide⟩, ⟨_, rfl, by decide, by decide⟩, rfl, rfl, rfl, rfl, rfl, rfl, ⟨_, rfl, by decide, by decide⟩, ⟨_, rfl, by decide, by decide⟩, ⟨_, rfl, by decide, by decide⟩, ⟨_, rfl, by decide, by decide⟩, ⟨_, rfl, by decide, by decide⟩, trivial⟩
theorem fr_52 {c : ck_C} (h : ck_CT[52]? = some c) : ck_okc c cx52 := by
  cases h
  exact fr_I (by decide) (by decide) (by decide)
theorem fr_53 {c : ck_C} (h : ck_CT[53]? = some c) : ck_okc c cx53 := by
  cases h
  exact fr_I (by decide) (by decide) (by decide)
theorem fr_54 {c : ck_C} (h : ck_CT[54]? = some c) : ck_okc c cx54 := by
  cases h
  exact fr_I (by decide) (by decide) (by decide)
theorem fr_55 {c : ck_C} (h : ck_CT[55]? = some c) : ck_okc c cx55 := by
  cases h
  exact fr_I (by decide) (by decide) (by decide)
theorem fr_56 {c : ck_C} (h : ck_CT[56]? = some c) : ck_okc c cx56 := by
  cases h
  exact fr_I (by decide) (by decide) (by decide)
theorem fr_57 {c : ck_C} (h : ck_CT[57]? = some c) : ck_okc c cx57 := by
  cases h
  exact fr_I (by decide) (by decide) (by decide)
theorem fr_58 {c : ck_C} (h : ck_CT[58]? = some c) : ck_okc c cx58 := by
  cases h
  exact ⟨_, rfl, ⟨_, rfl, by decide, by decide⟩, rfl, rfl, rfl, rfl, rfl, ⟨_, rfl, by decide, by decide⟩, ⟨_, rfl, by decide, by decide⟩, ⟨_, rfl, by decide, by decide⟩, ⟨_, rfl, by decide, by decide⟩, ⟨_, rfl, by decide, by decide⟩, ⟨_, rfl, by decide, by decide⟩, ⟨_, rfl, by decide, by decide⟩, ⟨_, rfl, by decide, by decide⟩, ⟨_, rfl, by decide, by decide⟩, ⟨_, rfl, by decide, by decide⟩, rfl, rfl, rfl, rfl, rfl, rfl, rfl, rfl, rfl, rfl, ⟨_, rfl, by decide, by decide⟩, rfl, rfl, rfl, ⟨_, rfl, by decide, by decide⟩, ⟨_, rfl, by decide, by decide⟩, rfl, rfl, rfl, ⟨_, rfl, by decide, by decide⟩, ⟨_, rfl, by decide, by decide⟩, ⟨_, rfl, by decide, by decide⟩, rfl, rfl, rfl, ⟨_, rfl, by decide, by decide⟩, rfl, ⟨_, rfl, by decide, by decide⟩, ⟨_, rfl, by decide, by decide⟩, ⟨_, rfl, by decide, by decide⟩, trivial⟩
theorem fr_59 {c : ck_C} (h : ck_CT[59]? = some c) : ck_okc c cx59 := by
  cases h
  exact (ck_okI (by decide)).mpr ⟨_, rfl, fun i hi => by rw [fr_w i hi, ck_bd1 rfl i 0]; exact ⟨by decide, by decide⟩⟩
theorem fr_60 {c : ck_C} (h : ck_CT[60]? = some c) : ck_okc c cx60 := by
  cases h
  exact fr_I (by decide) (by decide) (by decide)
theorem fr_61 {c : ck_C} (h : ck_CT[61]? = some c) : ck_okc c cx61 := by
  cases h
  exact fr_J (by decide) (by decide)
theorem fr_62 {c : ck_C} (h : ck_CT[62]? = some c) : ck_okc c cx62 := by
  cases h
  exact fr_J (by decide) (by decide)
theorem fr_63 {c : ck_C} (h : ck_CT[63]? = some c) : ck_okc c cx63 := by
  cases h
  exact fr_I (by decide) (by decide) (by decide)
theorem fr_64 {c : ck_C} (h : ck_CT[64]? = some c) : ck_okc c cx64 := by
  cases h
  exact fr_I (by decide) (by decide) (by decide)
theorem fr_65 {c : ck_C} (h : ck_CT[65]? = some c) : ck_okc c cx65 := by
  cases h
  exact fr_I (by decide) (by decide) (by decide)
theorem fr_66 {c : ck_C} (h : ck_CT[66]? = some c) : ck_okc c cx66 := by
  cases h
  exact fr_I (by decide) (by decide) (by decide)
theorem fr_67 {c : ck_C} (h : ck_CT[67]? = some c) : ck_okc c cx67 := by
  cases h
  exact fr_I (by decide) (by decide) (by decide)
theorem fr_68 {c : ck_C} (h : ck_CT[68]? = some c) : ck_okc c cx68 := by
  cases h
  exact fr_I (by decide) (by decide) (by decide)
theorem fr_69 {c : ck_C} (h : ck_CT[69]? = some c) : ck_okc c cx69 := by
  cases h
  exact fr_I (by decide) (by decide) (by decide)
theorem fr_70 {c : ck_C} (h : ck_CT[70]? = some c) : ck_okc c cx70 := by
  cases h
  exact fr_I (by decide) (by decide) (by decide)
theorem fr_71 {c : ck_C} (h : ck_CT[71]? = some c) : ck_okc c cx71 := by
  cases h
  exact fr_I (by decide) (by decide) (by decide)
theorem fr_72 {c : ck_C} (h : ck_CT[72]? = some c) : ck_okc c cx72 := by
  cases h
  exact fr_I (by decide) (by decide) (by decide)
theorem fr_73 {c : ck_C} (h : ck_CT[73]? = some c) : ck_okc c cx73 := by
  cases h
  exact fr_I (by decide) (by decide) (by decide)
theorem fr_74 {c : ck_C} (h : ck_CT[74]? = some c) : ck_okc c cx74 := by
  cases h
  exact fr_I (by decide) (by decide) (by decide)
theorem fr_75 {c : ck_C} (h : ck_CT[75]? = some c) : ck_okc c cx75 := by
  cases h
  exact fr_I (by decide) (by decide) (by decide)
theorem fr_76 {c : ck_C} (h : ck_CT[76]? = some c) : ck_okc c cx76 := by
  cases h
  exact fr_I (by decide) (by decide) (by decide)
theorem fr_77 {c : ck_C} (h : ck_CT[77]? = some c) : ck_okc c cx77 := by
  cases h
  exact fr_I (by decide) (by decide) (by decide)
theorem fr_78 {c : ck_C} (h : ck_CT[78]? = some c) : ck_okc c cx78 := by
  cases h
  exact fr_I (by decide) (by decide) (by decide)
theorem fr_79 {c : ck_C} (h : ck_CT[79]? = some c) : ck_okc c cx79 := by
  cases h
  exact fr_I (by decide) (by decide) (by decide)
theorem fr_80 {c : ck_C} (h : ck_CT[80]? = some c) : ck_okc c cx80 := by
  cases h
  exact fr_I (by decide) (by decide) (by decide)
theorem fr_81 {c : ck_C} (h : ck_CT[81]? = some c) : ck_okc c cx81 := by
  cases h
  exact fr_I (by decide) (by decide) (by decide)
theorem fr_82 {c : ck_C} (h : ck_CT[82]? = some c) : ck_okc c cx82 := by
  cases h
  exact fr_J (by decide) (by decide)
theorem fr_83 {c : ck_C} (h : ck_CT[83]? = some c) : ck_okc c cx83 := by
  cases h
  exact fr_I (by decide) (by decide) (by decide)
theorem fr_gi {E : Nat → jv_E} (h : jx_F E) : ck_gi E := fun k c hk => by
  match k, hk with
  | 0, hk => rw [h.1]; exact fr_0 hk
  | 1, hk => rw [h.2.1]; exact fr_1 hk
  | 2, hk => rw [h.2.2.1]; exact fr_2 hk
  | 3, hk => rw [h.2.2.2.1]; exact fr_3 hk
  | 4, hk => rw [h.2.2.2.2.1]; exact fr_4 hk
  | 5, hk => rw [h.2.2.2.2.2.1]; exact fr_5 hk
  | 6, hk => rw [h.2.2.2.2.2.2.1]; exact fr_6 hk
  | 7, hk => rw [h.2.2.2.2.2.2.2.1]; exact fr_7 hk
  | 8, hk => rw [h.2.2.2.2.2.2.2.2.1]; exact fr_8 hk
  | 9, hk => rw [h.2.2.2.2.2.2.2.2.2.1]; exact fr_9 hk
  | 10, hk => rw [h.2.2.2.2.2.2.2.2.2.2.1]; exact fr_10 hk
  | 11, hk => rw [h.2.2.2.2.2.2.2.2.2.2.2.1]; exact fr_11 hk
  | 12, hk => rw [h.2.2.2.2.2.2.2.2.2.2.2.2.1]; exact fr_12 hk
  | 13, hk => rw [h.2.2.2.2.2.2.2.2.2.2.2.2.2.1]; exact fr_13 hk
  | 14, hk => rw [h.2.2.2.2.2.2.2.2.2.2.2.2.2.2.1]; exact fr_14 hk
  | 15, hk => rw [h.2.2.2.2.2.2.2.2.2.2.2.2.2.2.2.1]; exact fr_15 hk
  | 16, hk => rw [h.2.2.2.2.2.2.2.2.2.2.2.2.2.2.2.2.1]; exact fr_16 hk
  | 17, hk => rw [h.2.2.2.2.2.2.2.2.2.2.2.2.2.2.2.2.2.1]; exact fr_17 hk
  | 18, hk => rw [h.2.2.2.2.2.2.2.2.2.2.2.2.2.2.2.2.2.2.1]; exact fr_18 hk
  | 19, hk => rw [h.2.2.2.2.2.2.2.2.2.2.2.2.2.2.2.2.2.2.2.1]; exact fr_19 hk
  | 20, hk => rw [h.2.2.2.2.2.2.2.2.2.2.2.2.2.2.2.2.2.2.2.2.1]; exact fr_20 hk
  | 21, hk => rw [h.2.2.2.2.2.2.2.2.2.2.2.2.2.2.2.2.2.2.2.2.2.1]; exact fr_21 hk
  | 22, hk => rw [h.2.2.2.2.2.2.2.2.2.2.2.2.2.2.2.2.2.2.2.2.2.2.1]; exact fr_22 hk
  | 23, hk => rw [h.2.2.2.2.2.2.2.2.2.2.2.2.2.2.2.2.2.2.2.2.2.2.2.1]; exact fr_23 hk
  | 24, hk => rw [h.2.2.2.2.2.2.2.2.2.2.2.2.2.2.2.2.2.2.2.2.2.2.2.2.1]; exact fr_24 hk
  | 25, hk => rw [h.2.2.2.2.2.2.2.2.2.2.2.2.2.2.2.2.2.2.2.2.2.2.2.2.2.1]; exact fr_25 hk
  | 26, hk => rw [h.2.2.2.2.2.2.2.2.2.2.2.2.2.2.2.2.2.2.2.2.2.2.2.2.2.2.1]; exact fr_26 hk
  | 27, hk => rw [h.2.2.2.2.2.2.2.2.2.2.2.2.2.2.2.2.2.2.2.2.2.2.2.2.2.2.2.1]; exact fr_27 hk
  | 28, hk => rw [h.2.2.2.2.2.2.2.2.2.2.2.2.2.2.2.2.2.2.2.2.2.2.2.2.2.2.2.2.1]; exact fr_28 hk
  | 29, hk => rw [h.2.2.2.2.2.2.2.2.2.2.2.2.2.2.2.2.2.2.2.2.2.2.2.2.2.2.2.2.2.1]; exact fr_29 hk
  | 30, hk => rw [h.2.2.2.2.2.2.2.2.2.2.2.2.2.2.2.2.2.2.2.2.2.2.2.2.2.2.2.2.2.2.1]; exact fr_30 hk
  | 31, hk => rw [h.2.2.2.2.2.2.2.2.2.2.2.2.2.2.2.2.2.2.2.2.2.2.2.2.2.2.2.2.2.2.2.1]; exact fr_31 hk
  | 32, hk => rw [h.2.2.2.2.2.2.2.2.2.2.2.2.2.2.2.2.2.2.2.2.2.2.2.2.2.2.2.2.2.2.2.2.1]; exact fr_32 hk
  | 33, hk => rw [h.2.2.2.2.2.2.2.2.2.2.2.2.2.2.2.2.2.2.2.2.2.2.2.2.2.2.2.2.2.2.2.2.2.1]; exact fr_33 hk
  | 34, hk => rw [h.2.2.2.2.2.2.2.2.2.2.2.2.2.2.2.2.2.2.2.2.2.2.2.2.2.2.2.2.2.2.2.2.2.2.1]; exact fr_34 hk
  | 35, hk => rw [h.2.2.2.2.2.2.2.2.2.2.2.2.2.2.2.2.2.2.2.2.2.2.2.2.2.2.2.2.2.2.2.2.2.2.2.1]; exact fr_35 hk
  | 36, hk => rw [h.2.2.2.2.2.2.2.2.2.2.2.2.2.2.2.2.2.2.2.2.2.2.2.2.2.2.2.2.2.2.2.2.2.2.2.2.1]; exact fr_36 hk
  | 37, hk => rw [h.2.2.2.2.2.2.2.2.2.2.2.2.2.2.2.2.2.2.2.2.2.2.2.2.2.2.2.2.2.2.2.2.2.2.2.2.2.1]; exact fr_37 hk
  | 38, hk => rw [h.2.2.2.2.2.2.2.2.2.2.2.2.2.2.2.2.2.2.2.2.2.2.2.2.2.2.2.2.2.2.2.2.2.2.2.2.2.2.1]; exact fr_38 hk
  | 39, hk => rw [h.2.2.2.2.2.2.2.2.2.2.2.2.2.2.2.2.2.2.2.2.2.2.2.2.2.2.2.2.2.2.2.2.2.2.2.2.2.2.2.1]; exact fr_39 hk
  | 40, hk => rw [h.2.2.2.2.2.2.2.2.2.2.2.2.2.2.2.2.2.2.2.2.2.2.2.2.2.2.2.2.2.2.2.2.2.2.2.2.2.2.2.2.1]; exact fr_40 hk
  | 41, hk => rw [h.2.2.2.2.2.2.2.2.2.2.2.2.2.2.2.2.2.2.2.2.2.2.2.2.2.2.2.2.2.2.2.2.2.2.2.2.2.2.2.2.2.1]; exact fr_41 hk
  | 42, hk => rw [h.2.2.2.2.2.2.2.2.2.2.2.2.2.2.2.2.2.2.2.2.2.2.2.2.2.2.2.2.2.2.2.2.2.2.2.2.2.2.2.2.2.2.1]; exact fr_42 hk
  | 43, hk => rw [h.2.2.2.2.2.2.2.2.2.2.2.2.2.2.2.2.2.2.2.2.2.2.2.2.2.2.2.2.2.2.2.2.2.2.2.2.2.2.2.2.2.2.2.1]; exact fr_43 hk
  | 44, hk => rw [h.2.2.2.2.2.2.2.2.2.2.2.2.2.2.2.2.2.2.2.2.2.2.2.2.2.2.2.2.2.2.2.2.2.2.2.2.2.2.2.2.2.2.2.2.1]; exact fr_44 hk
  | 45, hk => rw [h.2.2.2.2.2.2.2.2.2.2.2.2.2.2.2.2.2.2.2.2.2.2.2.2.2.2.2.2.2.2.2.2.2.2.2.2.2.2.2.2.2.2.2.2.2.1]; exact fr_45 hk
  | 46, hk => rw [h.2.2.2.2.2.2.2.2.2.2.2.2.2.2.2.2.2.2.2.2.2.2.2.2.2.2.2.2.2.2.2.2.2.2.2.2.2.2.2.2.2.2.2.2.2.2.1]; exact fr_46 hk
  | 47, hk => rw [h.2.2.2.2.2.2.2.2.2.2.2.2.2.2.2.2.2.2.2.2.2.2.2.2.2.2.2.2.2.2.2.2.2.2.2.2.2.2.2.2.2.2.2.2.2.2.2.1]; exact fr_47 hk
  | 48, hk => rw [h.2.2.2.2.2.2.2.2.2.2.2.2.2.2.2.2.2.2.2.2.2.2.2.2.2.2.2.2.2.2.2.2.2.2.2.2.2.2.2.2.2.2.2.2.2.2.2.2.1]; exact fr_48 hk
  | 49, hk => rw [h.2.2.2.2.2.2.2.2.2.2.2.2.2.2.2.2.2.2.2.2.2.2.2.2.2.2.2.2.2.2.2.2.2.2.2.2.2.2.2.2.2.2.2.2.2.2.2.2.2.1]; exact fr_49 hk
  | 50, hk => rw [h.2.2.2.2.2.2.2.2.2.2.2.2.2.2.2.2.2.2.2.2.2.2.2.2.2.2.2.2.2.2.2.2.2.2.2.2.2.2.2.2.2.2.2.2.2.2.2.2.2.2.1]; exact fr_50 hk
  | 51, hk => rw [h.2.2.2.2.2.2.2.2.2.2.2.2.2.2.2.2.2.2.2.2.2.2.2.2.2.2.2.2.2.2.2.2.2.2.2.2.2.2.2.2.2.2.2.2.2.2.2.2.2.2.2.1]; exact fr_51 hk
  | 52, hk => rw [h.2.2.2.2.2.2.2.2.2.2.2.2.2.2.2.2.2.2.2.2.2.2.2.2.2.2.2.2.2.2.2.2.2.2.2.2.2.2.2.2.2.2.2.2.2.2.2.2.2.2.2.2.1]; exact fr_52 hk
  | 53, hk => rw [h.2.2.2.2.2.2.2.2.2.2.2.2.2.2.2.2.2.2.2.2.2.2.2.2.2.2.2.2.2.2.2.2.2.2.2.2.2.2.2.2.2.2.2.2.2.2.2.2.2.2.2.2.2.1]; exact fr_53 hk
  | 54, hk => rw [h.2.2.2.2.2.2.2.2.2.2.2.2.2.2.2.2.2.2.2.2.2.2.2.2.2.2.2.2.2.2.2.2.2.2.2.2.2.2.2.2.2.2.2.2.2.2.2.2.2.2.2.2.2.2.1]; exact fr_54 hk
  | 55, hk => rw [h.2.2.2.2.2.2.2.2.2.2.2.2.2.2.2.2.2.2.2.2.2.2.2.2.2.2.2.2.2.2.2.2.2.2.2.2.2.2.2.2.2.2.2.2.2.2.2.2.2.2.2.2.2.2.2.1]; exact fr_55 hk
  | 56, hk => rw [h.2.2.2.2.2.2.2.2.2.2.2.2.2.2.2.2.2.2.2.2.2.2.2.2.2.2.2.2.2.2.2.2.2.2.2.2.2.2.2.2.2.2.2.2.2.2.2.2.2.2.2.2.2.2.2.2.1]; exact fr_56 hk
  | 57, hk => rw [h.2.2.2.2.2.2.2.2.2.2.2.2.2.2.2.2.2.2.2.2.2.2.2.2.2.2.2.2.2.2.2.2.2.2.2.2.2.2.2.2.2.2.2.2.2.2.2.2.2.2.2.2.2.2.2.2.2.1]; exact fr_57 hk
  | 58, hk => rw [h.2.2.2.2.2.2.2.2.2.2.2.2.2.2.2.2.2.2.2.2.2.2.2.2.2.2.2.2.2.2.2.2.2.2.2.2.2.2.2.2.2.2.2.2.2.2.2.2.2.2.2.2.2.2.2.2.2.2.1]; exact fr_58 hk
  | 59, hk => rw [h.2.2.2.2.2.2.2.2.2.2.2.2.2.2.2.2.2.2.2.2.2.2.2.2.2.2.2.2.2.2.2.2.2.2.2.2.2.2.2.2.2.2.2.2.2.2.2.2.2.2.2.2.2.2.2.2.2.2.2.1]; exact fr_59 hk
  | 60, hk => rw [h.2.2.2.2.2.2.2.2.2.2.2.2.2.2.2.2.2.2.2.2.2.2.2.2.2.2.2.2.2.2.2.2.2.2.2.2.2.2.2.2.2.2.2.2.2.2.2.2.2.2.2.2.2.2.2.2.2.2.2.2.1]; exact fr_60 hk
  | 61, hk => rw [h.2.2.2.2.2.2.2.2.2.2.2.2.2.2.2.2.2.2.2.2.2.2.2.2.2.2.2.2.2.2.2.2.2.2.2.2.2.2.2.2.2.2.2.2.2.2.2.2.2.2.2.2.2.2.2.2.2.2.2.2.2.1]; exact fr_61 hk
  | 62, hk => rw [h.2.2.2.2.2.2.2.2.2.2.2.2.2.2.2.2.2.2.2.2.2.2.2.2.2.2.2.2.2.2.2.2.2.2.2.2.2.2.2.2.2.2.2.2.2.2.2.2.2.2.2.2.2.2.2.2.2.2.2.2.2.2.1]; exact fr_62 hk
  | 63, hk => rw [h.2.2.2.2.2.2.2.2.2.2.2.2.2.2.2.2.2.2.2.2.2.2.2.2.2.2.2.2.2.2.2.2.2.2.2.2.2.2.2.2.2.2.2.2.2.2.2.2.2.2.2.2.2.2.2.2.2.2.2.2.2.2.2.1]; exact fr_63 hk
  | 64, hk => rw [h.2.2.2.2.2.2.2.2.2.2.2.2.2.2.2.2.2.2.2.2.2.2.2.2.2.2.2.2.2.2.2.2.2.2.2.2.2.2.2.2.2.2.2.2.2.2.2.2.2.2.2.2.2.2.2.2.2.2.2.2.2.2.2.2.1]; exact fr_64 hk
  | 65, hk => rw [h.2.2.2.2.2.2.2.2.2.2.2.2.2.2.2.2.2.2.2.2.2.2.2.2.2.2.2.2.2.2.2.2.2.2.2.2.2.2.2.2.2.2.2.2.2.2.2.2.2.2.2.2.2.2.2.2.2.2.2.2.2.2.2.2.2.1]; exact fr_65 hk
  | 66, hk => rw [h.2.2.2.2.2.2.2.2.2.2.2.2.2.2.2.2.2.2.2.2.2.2.2.2.2.2.2.2.2.2.2.2.2.2.2.2.2.2.2.2.2.2.2.2.2.2.2.2.2.2.2.2.2.2.2.2.2.2.2.2.2.2.2.2.2.2.1]; exact fr_66 hk
  | 67, hk => rw [h.2.2.2.2.2.2.2.2.2.2.2.2.2.2.2.2.2.2.2.2.2.2.2.2.2.2.2.2.2.2.2.2.2.2.2.2.2.2.2.2.2.2.2.2.2.2.2.2.2.2.2.2.2.2.2.2.2.2.2.2.2.2.2.2.2.2.2.1]; exact fr_67 hk
  | 68, hk => rw [h.2.2.2.2.2.2.2.2.2.2.2.2.2.2.2.2.2.2.2.2.2.2.2.2.2.2.2.2.2.2.2.2.2.2.2.2.2.2.2.2.2.2.2.2.2.2.2.2.2.2.2.2.2.2.2.2.2.2.2.2.2.2.2.2.2.2.2.2.1]; exact fr_68 hk
  | 69, hk => rw [h.2.2.2.2.2.2.2.2.2.2.2.2.2.2.2.2.2.2.2.2.2.2.2.2.2.2.2.2.2.2.2.2.2.2.2.2.2.2.2.2.2.2.2.2.2.2.2.2.2.2.2.2.2.2.2.2.2.2.2.2.2.2.2.2.2.2.2.2.2.1]; exact fr_69 hk
  | 70, hk => rw [h.2.2.2.2.2.2.2.2.2.2.2.2.2.2.2.2.2.2.2.2.2.2.2.2.2.2.2.2.2.2.2.2.2.2.2.2.2.2.2.2.2.2.2.2.2.2.2.2.2.2.2.2.2.2.2.2.2.2.2.2.2.2.2.2.2.2.2.2.2.2.1]; exact fr_70 hk
  | 71, hk => rw [h.2.2.2.2.2.2.2.2.2.2.2.2.2.2.2.2.2.2.2.2.2.2.2.2.2.2.2.2.2.2.2.2.2.2.2.2.2.2.2.2.2.2.2.2.2.2.2.2.2.2.2.2.2.2.2.2.2.2.2.2.2.2.2.2.2.2.2.2.2.2.2.1]; exact fr_71 hk
  | 72, hk => rw [h.2.2.2.2.2.2.2.2.2.2.2.2.2.2.2.2.2.2.2.2.2.2.2.2.2.2.2.2.2.2.2.2.2.2.2.2.2.2.2.2.2.2.2.2.2.2.2.2.2.2.2.2.2.2.2.2.2.2.2.2.2.2.2.2.2.2.2.2.2.2.2.2.1]; exact fr_72 hk
  | 73, hk => rw [h.2.2.2.2.2.2.2.2.2.2.2.2.2.2.2.2.2.2.2.2.2.2.2.2.2.2.2.2.2.2.2.2.2.2.2.2.2.2.2.2.2.2.2.2.2.2.2.2.2.2.2.2.2.2.2.2.2.2.2.2.2.2.2.2.2.2.2.2.2.2.2.2.2.1]; exact fr_73 hk
  | 74, hk => rw [h.2.2.2.2.2.2.2.2.2.2.2.2.2.2.2.2.2.2.2.2.2.2.2.2.2.2.2.2.2.2.2.2.2.2.2.2.2.2.2.2.2.2.2.2.2.2.2.2.2.2.2.2.2.2.2.2.2.2.2.2.2.2.2.2.2.2.2.2.2.2.2.2.2.2.1]; exact fr_74 hk
  | 75, hk => rw [h.2.2.2.2.2.2.2.2.2.2.2.2.2.2.2.2.2.2.2.2.2.2.2.2.2.2.2.2.2.2.2.2.2.2.2.2.2.2.2.2.2.2.2.2.2.2.2.2.2.2.2.2.2.2.2.2.2.2.2.2.2.2.2.2.2.2.2.2.2.2.2.2.2.2.2.1]; exact fr_75 hk
  | 76, hk => rw [h.2.2.2.2.2.2.2.2.2.2.2.2.2.2.2.2.2.2.2.2.2.2.2.2.2.2.2.2.2.2.2.2.2.2.2.2.2.2.2.2.2.2.2.2.2.2.2.2.2.2.2.2.2.2.2.2.2.2.2.2.2.2.2.2.2.2.2.2.2.2.2.2.2.2.2.2.1]; exact fr_76 hk
  | 77, hk => rw [h.2.2.2.2.2.2.2.2.2.2.2.2.2.2.2.2.2.2.2.2.2.2.2.2.2.2.2.2.2.2.2.2.2.2.2.2.2.2.2.2.2.2.2.2.2.2.2.2.2.2.2.2.2.2.2.2.2.2.2.2.2.2.2.2.2.2.2.2.2.2.2.2.2.2.2.2.2.1]; exact fr_77 hk
  | 78, hk => rw [h.2.2.2.2.2.2.2.2.2.2.2.2.2.2.2.2.2.2.2.2.2.2.2.2.2.2.2.2.2.2.2.2.2.2.2.2.2.2.2.2.2.2.2.2.2.2.2.2.2.2.2.2.2.2.2.2.2.2.2.2.2.2.2.2.2.2.2.2.2.2.2.2.2.2.2.2.2.2.1]; exact fr_78 hk
  | 79, hk => rw [h.2.2.2.2.2.2.2.2.2.2.2.2.2.2.2.2.2.2.2.2.2.2.2.2.2.2.2.2.2.2.2.2.2.2.2.2.2.2.2.2.2.2.2.2.2.2.2.2.2.2.2.2.2.2.2.2.2.2.2.2.2.2.2.2.2.2.2.2.2.2.2.2.2.2.2.2.2.2.2.1]; exact fr_79 hk
  | 80, hk => rw [h.2.2.2.2.2.2.2.2.2.2.2.2.2.2.2.2.2.2.2.2.2.2.2.2.2.2.2.2.2.2.2.2.2.2.2.2.2.2.2.2.2.2.2.2.2.2.2.2.2.2.2.2.2.2.2.2.2.2.2.2.2.2.2.2.2.2.2.2.2.2.2.2.2.2.2.2.2.2.2.2.1]; exact fr_80 hk
  | 81, hk => rw [h.2.2.2.2.2.2.2.2.2.2.2.2.2.2.2.2.2.2.2.2.2.2.2.2.2.2.2.2.2.2.2.2.2.2.2.2.2.2.2.2.2.2.2.2.2.2.2.2.2.2.2.2.2.2.2.2.2.2.2.2.2.2.2.2.2.2.2.2.2.2.2.2.2.2.2.2.2.2.2.2.2.1]; exact fr_81 hk
  | 82, hk => rw [h.2.2.2.2.2.2.2.2.2.2.2.2.2.2.2.2.2.2.2.2.2.2.2.2.2.2.2.2.2.2.2.2.2.2.2.2.2.2.2.2.2.2.2.2.2.2.2.2.2.2.2.2.2.2.2.2.2.2.2.2.2.2.2.2.2.2.2.2.2.2.2.2.2.2.2.2.2.2.2.2.2.2.1]; exact fr_82 hk
  | 83, hk => rw [h.2.2.2.2.2.2.2.2.2.2.2.2.2.2.2.2.2.2.2.2.2.2.2.2.2.2.2.2.2.2.2.2.2.2.2.2.2.2.2.2.2.2.2.2.2.2.2.2.2.2.2.2.2.2.2.2.2.2.2.2.2.2.2.2.2.2.2.2.2.2.2.2.2.2.2.2.2.2.2.2.2.2.2]; exact fr_83 hk
  | k + 84, hk => simp [ck_CT] at hk
theorem fr_z65 {E : Nat → jv_E} (h : jx_F E) (i : Int) : ck_loc (E 65) i = 0 := by rw [h.2.2.2.2.2.2.2.2.2.2.2.2.2.2.2.2.2.2.2.2.2.2.2.2.2.2.2.2.2.2.2.2.2.2.2.2.2.2.2.2.2.2.2.2.2.2.2.2.2.2.2.2.2.2.2.2.2.2.2.2.2.2.2.2.2.1]; rfl
theorem fr_z70 {E : Nat → jv_E} (h : jx_F E) (i : Int) : ck_loc (E 70) i = 0 := by rw [h.2.2.2.2.2.2.2.2.2.2.2.2.2.2.2.2.2.2.2.2.2.2.2.2.2.2.2.2.2.2.2.2.2.2.2.2.2.2.2.2.2.2.2.2.2.2.2.2.2.2.2.2.2.2.2.2.2.2.2.2.2.2.2.2.2.2.2.2.2.2.1]; rfl
theorem fr_gf {E : Nat → jv_E} (h : jx_F E) : ck_gf [0, 1, 2, 3] E := fun f hf => by
  have h4 : f < 10 := by
    simp only [List.mem_cons, List.not_mem_nil, or_false] at hf
    omega
  unfold ck_FL
  rw [if_pos h4]
  exact Or.inl ⟨fr_z65 h _, fr_z70 h _⟩
theorem fr_108 {E : Nat → jv_E} (h : jx_F E) (c : Int) : ck_lk E 108 c = 1 := by
  rw [k108 (c := c) rfl]
  refine cb_t ⟨fun r i r0 r1 => ?_, fun k k0 k1 => ?_⟩
  · rw [fr_z65 h] at r1; omega
  · rw [fr_z70 h] at k1; omega
theorem fr_n34 {E : Nat → jv_E} (h : jx_F E) {i : Int} : ck_lk E 34 i = 0 := by rw [ck_lk_c (by decide), h.2.2.2.2.2.2.2.2.2.2.2.2.2.2.2.2.2.2.2.2.2.2.2.2.2.2.2.2.2.2.2.2.2.2.1]; rfl
theorem fr_n35_0 {E : Nat → jv_E} (h : jx_F E) : ck_lk E 35 0 = -1 := by rw [ck_lk_c (by decide), h.2.2.2.2.2.2.2.2.2.2.2.2.2.2.2.2.2.2.2.2.2.2.2.2.2.2.2.2.2.2.2.2.2.2.2.1]; decide +kernel
theorem fr_n35_1 {E : Nat → jv_E} (h : jx_F E) : ck_lk E 35 1 = -1 := by rw [ck_lk_c (by decide), h.2.2.2.2.2.2.2.2.2.2.2.2.2.2.2.2.2.2.2.2.2.2.2.2.2.2.2.2.2.2.2.2.2.2.2.1]; decide +kernel
theorem fr_n35_2 {E : Nat → jv_E} (h : jx_F E) : ck_lk E 35 2 = -1 := by rw [ck_lk_c (by decide), h.2.2.2.2.2.2.2.2.2.2.2.2.2.2.2.2.2.2.2.2.2.2.2.2.2.2.2.2.2.2.2.2.2.2.2.1]; decide +kernel
theorem fr_n35_3 {E : Nat → jv_E} (h : jx_F E) : ck_lk E 35 3 = -1 := by rw [ck_lk_c (by decide), h.2.2.2.2.2.2.2.2.2.2.2.2.2.2.2.2.2.2.2.2.2.2.2.2.2.2.2.2.2.2.2.2.2.2.2.1]; decide +kernel
theorem fr_n59_0 {E : Nat → jv_E} (h : jx_F E) : ck_lk E 59 0 = -1 := by rw [ck_lk_c (by decide), h.2.2.2.2.2.2.2.2.2.2.2.2.2.2.2.2.2.2.2.2.2.2.2.2.2.2.2.2.2.2.2.2.2.2.2.2.2.2.2.2.2.2.2.2.2.2.2.2.2.2.2.2.2.2.2.2.2.2.2.1]; decide +kernel
theorem fr_n59_1 {E : Nat → jv_E} (h : jx_F E) : ck_lk E 59 1 = -1 := by rw [ck_lk_c (by decide), h.2.2.2.2.2.2.2.2.2.2.2.2.2.2.2.2.2.2.2.2.2.2.2.2.2.2.2.2.2.2.2.2.2.2.2.2.2.2.2.2.2.2.2.2.2.2.2.2.2.2.2.2.2.2.2.2.2.2.2.1]; decide +kernel
theorem fr_n59_2 {E : Nat → jv_E} (h : jx_F E) : ck_lk E 59 2 = -1 := by rw [ck_lk_c (by decide), h.2.2.2.2.2.2.2.2.2.2.2.2.2.2.2.2.2.2.2.2.2.2.2.2.2.2.2.2.2.2.2.2.2.2.2.2.2.2.2.2.2.2.2.2.2.2.2.2.2.2.2.2.2.2.2.2.2.2.2.1]; decide +kernel
theorem fr_n59_3 {E : Nat → jv_E} (h : jx_F E) : ck_lk E 59 3 = -1 := by rw [ck_lk_c (by decide), h.2.2.2.2.2.2.2.2.2.2.2.2.2.2.2.2.2.2.2.2.2.2.2.2.2.2.2.2.2.2.2.2.2.2.2.2.2.2.2.2.2.2.2.2.2.2.2.2.2.2.2.2.2.2.2.2.2.2.2.1]; decide +kernel
theorem fr_n60 {E : Nat → jv_E} (h : jx_F E) {i : Int} : ck_lk E 60 i = 0 := by rw [ck_lk_c (by decide), h.2.2.2.2.2.2.2.2.2.2.2.2.2.2.2.2.2.2.2.2.2.2.2.2.2.2.2.2.2.2.2.2.2.2.2.2.2.2.2.2.2.2.2.2.2.2.2.2.2.2.2.2.2.2.2.2.2.2.2.2.1]; rfl
