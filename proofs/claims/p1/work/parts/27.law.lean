def jv_S (G : jv_G) (L : Nat) (xs : Nat → Int32) : Prop := match G with
  | (_, _, _, s, _, _, _, _, _, A, _, _, f0, _) => va_X (f0 1000000) L xs s s.heap ∧ f0 1000000 < s.heap.size ∧ ¬ A (f0 1000000)
def jv_end (l : Launch) (D : va_G) (cl : List vw_C) (kp : Nat → ClassId) (G : jv_G) : Prop := ∀ (cs ss n : Nat) (E : Nat → jv_E) (pc : Nat) (lv : List (Nat × Value)), cs ≤ 600000 → ss ≤ 7302250 → decode cL_law pc = .ok (.ireturn, 1) → jv_V l D cl kp G cs ss n E pc lv [.int 1]
theorem jv_slen {l : Launch} {D : va_G} {cl : List vw_C} {kp : Nat → ClassId} {G : jv_G} {cc : ByteArray} {own : String} {Ts : List Cond} {rm : Room} {N : jv_N} {cs ss n : Nat} {E : Nat → jv_E} {pc : Nat} {lv : List (Nat × Value)} {st : List Value} {L : Nat} {xs : Nat → Int32} (C : jv_C D cl kp G cc own Ts rm N) (S : jv_S G L xs) (hd : decode cc pc = .ok (.arraylength, 1)) (k : jv_V l D cl kp G cs ss n E (pc + 1) lv (.int (Int32.ofNat L) :: st)) : jv_V l D cl kp G cs ss n E pc lv (.ref 1000000 :: st) := by
  obtain ⟨p, e, R, s, m, args, below, meth, c, A, nL, n0, f0, Q⟩ := G
  intro f H locs ls hP hD hS hE hL hs hn hf hl
  obtain ⟨hx, hb, hml, hown, hts, hK, hA, hlk, hRm, hNw⟩ := C
  obtain ⟨hX, hbl, hbA⟩ := S
  have e1 : f 1000000 = f0 1000000 := hf _ (Or.inr (Nat.le_refl _))
  have e2 : (Value.ref 1000000 :: st).map (jv_v f) = .ref (f0 1000000) :: st.map (jv_v f) := by
    show Value.ref (f 1000000) :: _ = _
    rw [e1]
  rw [e2]
  refine va_slen hx hb hX hbl hbA hS hd ?_
  exact k f H locs ls hP hD hS hE hL (jv_s1 hs jv_ok_i) hn hf hl
theorem jv_sld {l : Launch} {D : va_G} {cl : List vw_C} {kp : Nat → ClassId} {G : jv_G} {cc : ByteArray} {own : String} {Ts : List Cond} {rm : Room} {N : jv_N} {cs ss n : Nat} {E : Nat → jv_E} {pc : Nat} {lv : List (Nat × Value)} {st : List Value} {L : Nat} {xs : Nat → Int32} {i : Int32} (C : jv_C D cl kp G cc own Ts rm N) (S : jv_S G L xs) (hin : vp_in i L) (hd : decode cc pc = .ok (.iaload, 1)) (k : jv_V l D cl kp G cs ss n E (pc + 1) lv (.int (xs i.toNatClampNeg) :: st)) : jv_V l D cl kp G cs ss n E pc lv (.int i :: .ref 1000000 :: st) := by
  obtain ⟨p, e, R, s, m, args, below, meth, c, A, nL, n0, f0, Q⟩ := G
  intro f H locs ls hP hD hS hE hL hs hn hf hl
  obtain ⟨hx, hb, hml, hown, hts, hK, hA, hlk, hRm, hNw⟩ := C
  obtain ⟨hX, hbl, hbA⟩ := S
  have e1 : f 1000000 = f0 1000000 := hf _ (Or.inr (Nat.le_refl _))
  have e2 : (Value.int i :: Value.ref 1000000 :: st).map (jv_v f) = .int i :: .ref (f0 1000000) :: st.map (jv_v f) := by
    show Value.int i :: Value.ref (f 1000000) :: _ = _
    rw [e1]
  rw [e2]
  refine va_sld hx hb hX hbl hbA hS hin hd ?_
  exact k f H locs ls hP hD hS hE hL (jv_s1 (jv_sd hs) jv_ok_i) hn hf hl
abbrev jx_F (E : Nat → jv_E) : Prop := E 0 = cx0 ∧ E 1 = cx1 ∧ E 2 = cx2 ∧ E 3 = cx3 ∧ E 4 = cx4 ∧ E 5 = cx5 ∧ E 6 = cx6 ∧ E 7 = cx7 ∧ E 8 = cx8 ∧ E 9 = cx9 ∧ E 10 = cx10 ∧ E 11 = cx11 ∧ E 12 = cx12 ∧ E 13 = cx13 ∧ E 14 = cx14 ∧ E 15 = cx15 ∧ E 16 = cx16 ∧ E 17 = cx17 ∧ E 18 = cx18 ∧ E 19 = cx19 ∧ E 20 = cx20 ∧ E 21 = cx21 ∧ E 22 = cx22 ∧ E 23 = cx23 ∧ E 24 = cx24 ∧ E 25 = cx25 ∧ E 26 = cx26 ∧ E 27 = cx27 ∧ E 28 = cx28 ∧ E 29 = cx29 ∧ E 30 = cx30 ∧ E 31 = cx31 ∧ E 32 = cx32 ∧ E 33 = cx33 ∧ E 34 = cx34 ∧ E 35 = cx35 ∧ E 36 = cx36 ∧ E 37 = cx37 ∧ E 38 = cx38 ∧ E 39 = cx39 ∧ E 40 = cx40 ∧ E 41 = cx41 ∧ E 42 = cx42 ∧ E 43 = cx43 ∧ E 44 = cx44 ∧ E 45 = cx45 ∧ E 46 = cx46 ∧ E 47 = cx47 ∧ E 48 = cx48 ∧ E 49 = cx49 ∧ E 50 = cx50 ∧ E 51 = cx51 ∧ E 52 = cx52 ∧ E 53 = cx53 ∧ E 54 = cx54 ∧ E 55 = cx55 ∧ E 56 = cx56 ∧ E 57 = cx57 ∧ E 58 = cx58 ∧ E 59 = cx59 ∧ E 60 = cx60 ∧ E 61 = cx61 ∧ E 62 = cx62 ∧ E 63 = cx63 ∧ E 64 = cx64 ∧ E 65 = cx65 ∧ E 66 = cx66 ∧ E 67 = cx67 ∧ E 68 = cx68 ∧ E 69 = cx69 ∧ E 70 = cx70 ∧ E 71 = cx71 ∧ E 72 = cx72 ∧ E 73 = cx73 ∧ E 74 = cx74 ∧ E 75 = cx75 ∧ E 76 = cx76 ∧ E 77 = cx77 ∧ E 78 = cx78 ∧ E 79 = cx79 ∧ E 80 = cx80 ∧ E 81 = cx81 ∧ E 82 = cx82 ∧ E 83 = cx83
theorem xf_0 {E : Nat → jv_E} (h : jx_F E) : E 0 = cx0 := h.1
theorem xf_1 {E : Nat → jv_E} (h : jx_F E) : E 1 = cx1 := h.2.1
theorem xf_2 {E : Nat → jv_E} (h : jx_F E) : E 2 = cx2 := h.2.2.1
theorem xf_3 {E : Nat → jv_E} (h : jx_F E) : E 3 = cx3 := h.2.2.2.1
theorem xf_4 {E : Nat → jv_E} (h : jx_F E) : E 4 = cx4 := h.2.2.2.2.1
theorem xf_5 {E : Nat → jv_E} (h : jx_F E) : E 5 = cx5 := h.2.2.2.2.2.1
theorem xf_6 {E : Nat → jv_E} (h : jx_F E) : E 6 = cx6 := h.2.2.2.2.2.2.1
theorem xf_7 {E : Nat → jv_E} (h : jx_F E) : E 7 = cx7 := h.2.2.2.2.2.2.2.1
theorem xf_8 {E : Nat → jv_E} (h : jx_F E) : E 8 = cx8 := h.2.2.2.2.2.2.2.2.1
theorem xf_9 {E : Nat → jv_E} (h : jx_F E) : E 9 = cx9 := h.2.2.2.2.2.2.2.2.2.1
theorem xf_10 {E : Nat → jv_E} (h : jx_F E) : E 10 = cx10 := h.2.2.2.2.2.2.2.2.2.2.1
theorem xf_11 {E : Nat → jv_E} (h : jx_F E) : E 11 = cx11 := h.2.2.2.2.2.2.2.2.2.2.2.1
theorem xf_12 {E : Nat → jv_E} (h : jx_F E) : E 12 = cx12 := h.2.2.2.2.2.2.2.2.2.2.2.2.1
theorem xf_13 {E : Nat → jv_E} (h : jx_F E) : E 13 = cx13 := h.2.2.2.2.2.2.2.2.2.2.2.2.2.1
theorem xf_14 {E : Nat → jv_E} (h : jx_F E) : E 14 = cx14 := h.2.2.2.2.2.2.2.2.2.2.2.2.2.2.1
theorem xf_15 {E : Nat → jv_E} (h : jx_F E) : E 15 = cx15 := h.2.2.2.2.2.2.2.2.2.2.2.2.2.2.2.1
theorem xf_16 {E : Nat → jv_E} (h : jx_F E) : E 16 = cx16 := h.2.2.2.2.2.2.2.2.2.2.2.2.2.2.2.2.1
theorem xf_17 {E : Nat → jv_E} (h : jx_F E) : E 17 = cx17 := h.2.2.2.2.2.2.2.2.2.2.2.2.2.2.2.2.2.1
theorem xf_18 {E : Nat → jv_E} (h : jx_F E) : E 18 = cx18 := h.2.2.2.2.2.2.2.2.2.2.2.2.2.2.2.2.2.2.1
theorem xf_19 {E : Nat → jv_E} (h : jx_F E) : E 19 = cx19 := h.2.2.2.2.2.2.2.2.2.2.2.2.2.2.2.2.2.2.2.1
theorem xf_20 {E : Nat → jv_E} (h : jx_F E) : E 20 = cx20 := h.2.2.2.2.2.2.2.2.2.2.2.2.2.2.2.2.2.2.2.2.1
theorem xf_21 {E : Nat → jv_E} (h : jx_F E) : E 21 = cx21 := h.2.2.2.2.2.2.2.2.2.2.2.2.2.2.2.2.2.2.2.2.2.1
theorem xf_22 {E : Nat → jv_E} (h : jx_F E) : E 22 = cx22 := h.2.2.2.2.2.2.2.2.2.2.2.2.2.2.2.2.2.2.2.2.2.2.1
theorem xf_23 {E : Nat → jv_E} (h : jx_F E) : E 23 = cx23 := h.2.2.2.2.2.2.2.2.2.2.2.2.2.2.2.2.2.2.2.2.2.2.2.1
theorem xf_24 {E : Nat → jv_E} (h : jx_F E) : E 24 = cx24 := h.2.2.2.2.2.2.2.2.2.2.2.2.2.2.2.2.2.2.2.2.2.2.2.2.1
theorem xf_25 {E : Nat → jv_E} (h : jx_F E) : E 25 = cx25 := h.2.2.2.2.2.2.2.2.2.2.2.2.2.2.2.2.2.2.2.2.2.2.2.2.2.1
theorem xf_26 {E : Nat → jv_E} (h : jx_F E) : E 26 = cx26 := h.2.2.2.2.2.2.2.2.2.2.2.2.2.2.2.2.2.2.2.2.2.2.2.2.2.2.1
theorem xf_27 {E : Nat → jv_E} (h : jx_F E) : E 27 = cx27 := h.2.2.2.2.2.2.2.2.2.2.2.2.2.2.2.2.2.2.2.2.2.2.2.2.2.2.2.1
theorem xf_28 {E : Nat → jv_E} (h : jx_F E) : E 28 = cx28 := h.2.2.2.2.2.2.2.2.2.2.2.2.2.2.2.2.2.2.2.2.2.2.2.2.2.2.2.2.1
theorem xf_29 {E : Nat → jv_E} (h : jx_F E) : E 29 = cx29 := h.2.2.2.2.2.2.2.2.2.2.2.2.2.2.2.2.2.2.2.2.2.2.2.2.2.2.2.2.2.1
theorem xf_30 {E : Nat → jv_E} (h : jx_F E) : E 30 = cx30 := h.2.2.2.2.2.2.2.2.2.2.2.2.2.2.2.2.2.2.2.2.2.2.2.2.2.2.2.2.2.2.1
theorem xf_31 {E : Nat → jv_E} (h : jx_F E) : E 31 = cx31 := h.2.2.2.2.2.2.2.2.2.2.2.2.2.2.2.2.2.2.2.2.2.2.2.2.2.2.2.2.2.2.2.1
theorem xf_32 {E : Nat → jv_E} (h : jx_F E) : E 32 = cx32 := h.2.2.2.2.2.2.2.2.2.2.2.2.2.2.2.2.2.2.2.2.2.2.2.2.2.2.2.2.2.2.2.2.1
theorem xf_33 {E : Nat → jv_E} (h : jx_F E) : E 33 = cx33 := h.2.2.2.2.2.2.2.2.2.2.2.2.2.2.2.2.2.2.2.2.2.2.2.2.2.2.2.2.2.2.2.2.2.1
theorem xf_34 {E : Nat → jv_E} (h : jx_F E) : E 34 = cx34 := h.2.2.2.2.2.2.2.2.2.2.2.2.2.2.2.2.2.2.2.2.2.2.2.2.2.2.2.2.2.2.2.2.2.2.1
theorem xf_35 {E : Nat → jv_E} (h : jx_F E) : E 35 = cx35 := h.2.2.2.2.2.2.2.2.2.2.2.2.2.2.2.2.2.2.2.2.2.2.2.2.2.2.2.2.2.2.2.2.2.2.2.1
theorem xf_36 {E : Nat → jv_E} (h : jx_F E) : E 36 = cx36 := h.2.2.2.2.2.2.2.2.2.2.2.2.2.2.2.2.2.2.2.2.2.2.2.2.2.2.2.2.2.2.2.2.2.2.2.2.1
theorem xf_37 {E : Nat → jv_E} (h : jx_F E) : E 37 = cx37 := h.2.2.2.2.2.2.2.2.2.2.2.2.2.2.2.2.2.2.2.2.2.2.2.2.2.2.2.2.2.2.2.2.2.2.2.2.2.1
theorem xf_38 {E : Nat → jv_E} (h : jx_F E) : E 38 = cx38 := h.2.2.2.2.2.2.2.2.2.2.2.2.2.2.2.2.2.2.2.2.2.2.2.2.2.2.2.2.2.2.2.2.2.2.2.2.2.2.1
theorem xf_39 {E : Nat → jv_E} (h : jx_F E) : E 39 = cx39 := h.2.2.2.2.2.2.2.2.2.2.2.2.2.2.2.2.2.2.2.2.2.2.2.2.2.2.2.2.2.2.2.2.2.2.2.2.2.2.2.1
theorem xf_40 {E : Nat → jv_E} (h : jx_F E) : E 40 = cx40 := h.2.2.2.2.2.2.2.2.2.2.2.2.2.2.2.2.2.2.2.2.2.2.2.2.2.2.2.2.2.2.2.2.2.2.2.2.2.2.2.2.1
theorem xf_41 {E : Nat → jv_E} (h : jx_F E) : E 41 = cx41 := h.2.2.2.2.2.2.2.2.2.2.2.2.2.2.2.2.2.2.2.2.2.2.2.2.2.2.2.2.2.2.2.2.2.2.2.2.2.2.2.2.2.1
theorem xf_42 {E : Nat → jv_E} (h : jx_F E) : E 42 = cx42 := h.2.2.2.2.2.2.2.2.2.2.2.2.2.2.2.2.2.2.2.2.2.2.2.2.2.2.2.2.2.2.2.2.2.2.2.2.2.2.2.2.2.2.1
theorem xf_43 {E : Nat → jv_E} (h : jx_F E) : E 43 = cx43 := h.2.2.2.2.2.2.2.2.2.2.2.2.2.2.2.2.2.2.2.2.2.2.2.2.2.2.2.2.2.2.2.2.2.2.2.2.2.2.2.2.2.2.2.1
theorem xf_44 {E : Nat → jv_E} (h : jx_F E) : E 44 = cx44 := h.2.2.2.2.2.2.2.2.2.2.2.2.2.2.2.2.2.2.2.2.2.2.2.2.2.2.2.2.2.2.2.2.2.2.2.2.2.2.2.2.2.2.2.2.1
theorem xf_45 {E : Nat → jv_E} (h : jx_F E) : E 45 = cx45 := h.2.2.2.2.2.2.2.2.2.2.2.2.2.2.2.2.2.2.2.2.2.2.2.2.2.2.2.2.2.2.2.2.2.2.2.2.2.2.2.2.2.2.2.2.2.1
theorem xf_46 {E : Nat → jv_E} (h : jx_F E) : E 46 = cx46 := h.2.2.2.2.2.2.2.2.2.2.2.2.2.2.2.2.2.2.2.2.2.2.2.2.2.2.2.2.2.2.2.2.2.2.2.2.2.2.2.2.2.2.2.2.2.2.1
theorem xf_47 {E : Nat → jv_E} (h : jx_F E) : E 47 = cx47 := h.2.2.2.2.2.2.2.2.2.2.2.2.2.2.2.2.2.2.2.2.2.2.2.2.2.2.2.2.2.2.2.2.2.2.2.2.2.2.2.2.2.2.2.2.2.2.2.1
theorem xf_48 {E : Nat → jv_E} (h : jx_F E) : E 48 = cx48 := h.2.2.2.2.2.2.2.2.2.2.2.2.2.2.2.2.2.2.2.2.2.2.2.2.2.2.2.2.2.2.2.2.2.2.2.2.2.2.2.2.2.2.2.2.2.2.2.2.1
theorem xf_49 {E : Nat → jv_E} (h : jx_F E) : E 49 = cx49 := h.2.2.2.2.2.2.2.2.2.2.2.2.2.2.2.2.2.2.2.2.2.2.2.2.2.2.2.2.2.2.2.2.2.2.2.2.2.2.2.2.2.2.2.2.2.2.2.2.2.1
theorem xf_50 {E : Nat → jv_E} (h : jx_F E) : E 50 = cx50 := h.2.2.2.2.2.2.2.2.2.2.2.2.2.2.2.2.2.2.2.2.2.2.2.2.2.2.2.2.2.2.2.2.2.2.2.2.2.2.2.2.2.2.2.2.2.2.2.2.2.2.1
theorem xf_51 {E : Nat → jv_E} (h : jx_F E) : E 51 = cx51 := h.2.2.2.2.2.2.2.2.2.2.2.2.2.2.2.2.2.2.2.2.2.2.2.2.2.2.2.2.2.2.2.2.2.2.2.2.2.2.2.2.2.2.2.2.2.2.2.2.2.2.2.1
theorem xf_52 {E : Nat → jv_E} (h : jx_F E) : E 52 = cx52 := h.2.2.2.2.2.2.2.2.2.2.2.2.2.2.2.2.2.2.2.2.2.2.2.2.2.2.2.2.2.2.2.2.2.2.2.2.2.2.2.2.2.2.2.2.2.2.2.2.2.2.2.2.1
theorem xf_53 {E : Nat → jv_E} (h : jx_F E) : E 53 = cx53 := h.2.2.2.2.2.2.2.2.2.2.2.2.2.2.2.2.2.2.2.2.2.2.2.2.2.2.2.2.2.2.2.2.2.2.2.2.2.2.2.2.2.2.2.2.2.2.2.2.2.2.2.2.2.1
theorem xf_54 {E : Nat → jv_E} (h : jx_F E) : E 54 = cx54 := h.2.2.2.2.2.2.2.2.2.2.2.2.2.2.2.2.2.2.2.2.2.2.2.2.2.2.2.2.2.2.2.2.2.2.2.2.2.2.2.2.2.2.2.2.2.2.2.2.2.2.2.2.2.2.1
theorem xf_55 {E : Nat → jv_E} (h : jx_F E) : E 55 = cx55 := h.2.2.2.2.2.2.2.2.2.2.2.2.2.2.2.2.2.2.2.2.2.2.2.2.2.2.2.2.2.2.2.2.2.2.2.2.2.2.2.2.2.2.2.2.2.2.2.2.2.2.2.2.2.2.2.1
theorem xf_56 {E : Nat → jv_E} (h : jx_F E) : E 56 = cx56 := h.2.2.2.2.2.2.2.2.2.2.2.2.2.2.2.2.2.2.2.2.2.2.2.2.2.2.2.2.2.2.2.2.2.2.2.2.2.2.2.2.2.2.2.2.2.2.2.2.2.2.2.2.2.2.2.2.1
theorem xf_57 {E : Nat → jv_E} (h : jx_F E) : E 57 = cx57 := h.2.2.2.2.2.2.2.2.2.2.2.2.2.2.2.2.2.2.2.2.2.2.2.2.2.2.2.2.2.2.2.2.2.2.2.2.2.2.2.2.2.2.2.2.2.2.2.2.2.2.2.2.2.2.2.2.2.1
theorem xf_58 {E : Nat → jv_E} (h : jx_F E) : E 58 = cx58 := h.2.2.2.2.2.2.2.2.2.2.2.2.2.2.2.2.2.2.2.2.2.2.2.2.2.2.2.2.2.2.2.2.2.2.2.2.2.2.2.2.2.2.2.2.2.2.2.2.2.2.2.2.2.2.2.2.2.2.1
theorem xf_59 {E : Nat → jv_E} (h : jx_F E) : E 59 = cx59 := h.2.2.2.2.2.2.2.2.2.2.2.2.2.2.2.2.2.2.2.2.2.2.2.2.2.2.2.2.2.2.2.2.2.2.2.2.2.2.2.2.2.2.2.2.2.2.2.2.2.2.2.2.2.2.2.2.2.2.2.1
theorem xf_60 {E : Nat → jv_E} (h : jx_F E) : E 60 = cx60 := h.2.2.2.2.2.2.2.2.2.2.2.2.2.2.2.2.2.2.2.2.2.2.2.2.2.2.2.2.2.2.2.2.2.2.2.2.2.2.2.2.2.2.2.2.2.2.2.2.2.2.2.2.2.2.2.2.2.2.2.2.1
theorem xf_61 {E : Nat → jv_E} (h : jx_F E) : E 61 = cx61 := h.2.2.2.2.2.2.2.2.2.2.2.2.2.2.2.2.2.2.2.2.2.2.2.2.2.2.2.2.2.2.2.2.2.2.2.2.2.2.2.2.2.2.2.2.2.2.2.2.2.2.2.2.2.2.2.2.2.2.2.2.2.1
theorem xf_62 {E : Nat → jv_E} (h : jx_F E) : E 62 = cx62 := h.2.2.2.2.2.2.2.2.2.2.2.2.2.2.2.2.2.2.2.2.2.2.2.2.2.2.2.2.2.2.2.2.2.2.2.2.2.2.2.2.2.2.2.2.2.2.2.2.2.2.2.2.2.2.2.2.2.2.2.2.2.2.1
theorem xf_63 {E : Nat → jv_E} (h : jx_F E) : E 63 = cx63 := h.2.2.2.2.2.2.2.2.2.2.2.2.2.2.2.2.2.2.2.2.2.2.2.2.2.2.2.2.2.2.2.2.2.2.2.2.2.2.2.2.2.2.2.2.2.2.2.2.2.2.2.2.2.2.2.2.2.2.2.2.2.2.2.1
theorem xf_64 {E : Nat → jv_E} (h : jx_F E) : E 64 = cx64 := h.2.2.2.2.2.2.2.2.2.2.2.2.2.2.2.2.2.2.2.2.2.2.2.2.2.2.2.2.2.2.2.2.2.2.2.2.2.2.2.2.2.2.2.2.2.2.2.2.2.2.2.2.2.2.2.2.2.2.2.2.2.2.2.2.1
theorem xf_65 {E : Nat → jv_E} (h : jx_F E) : E 65 = cx65 := h.2.2.2.2.2.2.2.2.2.2.2.2.2.2.2.2.2.2.2.2.2.2.2.2.2.2.2.2.2.2.2.2.2.2.2.2.2.2.2.2.2.2.2.2.2.2.2.2.2.2.2.2.2.2.2.2.2.2.2.2.2.2.2.2.2.1
theorem xf_66 {E : Nat → jv_E} (h : jx_F E) : E 66 = cx66 := h.2.2.2.2.2.2.2.2.2.2.2.2.2.2.2.2.2.2.2.2.2.2.2.2.2.2.2.2.2.2.2.2.2.2.2.2.2.2.2.2.2.2.2.2.2.2.2.2.2.2.2.2.2.2.2.2.2.2.2.2.2.2.2.2.2.2.1
theorem xf_67 {E : Nat → jv_E} (h : jx_F E) : E 67 = cx67 := h.2.2.2.2.2.2.2.2.2.2.2.2.2.2.2.2.2.2.2.2.2.2.2.2.2.2.2.2.2.2.2.2.2.2.2.2.2.2.2.2.2.2.2.2.2.2.2.2.2.2.2.2.2.2.2.2.2.2.2.2.2.2.2.2.2.2.2.1
theorem xf_68 {E : Nat → jv_E} (h : jx_F E) : E 68 = cx68 := h.2.2.2.2.2.2.2.2.2.2.2.2.2.2.2.2.2.2.2.2.2.2.2.2.2.2.2.2.2.2.2.2.2.2.2.2.2.2.2.2.2.2.2.2.2.2.2.2.2.2.2.2.2.2.2.2.2.2.2.2.2.2.2.2.2.2.2.2.1
theorem xf_69 {E : Nat → jv_E} (h : jx_F E) : E 69 = cx69 := h.2.2.2.2.2.2.2.2.2.2.2.2.2.2.2.2.2.2.2.2.2.2.2.2.2.2.2.2.2.2.2.2.2.2.2.2.2.2.2.2.2.2.2.2.2.2.2.2.2.2.2.2.2.2.2.2.2.2.2.2.2.2.2.2.2.2.2.2.2.1
theorem xf_70 {E : Nat → jv_E} (h : jx_F E) : E 70 = cx70 := h.2.2.2.2.2.2.2.2.2.2.2.2.2.2.2.2.2.2.2.2.2.2.2.2.2.2.2.2.2.2.2.2.2.2.2.2.2.2.2.2.2.2.2.2.2.2.2.2.2.2.2.2.2.2.2.2.2.2.2.2.2.2.2.2.2.2.2.2.2.2.1
theorem xf_71 {E : Nat → jv_E} (h : jx_F E) : E 71 = cx71 := h.2.2.2.2.2.2.2.2.2.2.2.2.2.2.2.2.2.2.2.2.2.2.2.2.2.2.2.2.2.2.2.2.2.2.2.2.2.2.2.2.2.2.2.2.2.2.2.2.2.2.2.2.2.2.2.2.2.2.2.2.2.2.2.2.2.2.2.2.2.2.2.1
theorem xf_72 {E : Nat → jv_E} (h : jx_F E) : E 72 = cx72 := h.2.2.2.2.2.2.2.2.2.2.2.2.2.2.2.2.2.2.2.2.2.2.2.2.2.2.2.2.2.2.2.2.2.2.2.2.2.2.2.2.2.2.2.2.2.2.2.2.2.2.2.2.2.2.2.2.2.2.2.2.2.2.2.2.2.2.2.2.2.2.2.2.1
theorem xf_73 {E : Nat → jv_E} (h : jx_F E) : E 73 = cx73 := h.2.2.2.2.2.2.2.2.2.2.2.2.2.2.2.2.2.2.2.2.2.2.2.2.2.2.2.2.2.2.2.2.2.2.2.2.2.2.2.2.2.2.2.2.2.2.2.2.2.2.2.2.2.2.2.2.2.2.2.2.2.2.2.2.2.2.2.2.2.2.2.2.2.1
theorem xf_74 {E : Nat → jv_E} (h : jx_F E) : E 74 = cx74 := h.2.2.2.2.2.2.2.2.2.2.2.2.2.2.2.2.2.2.2.2.2.2.2.2.2.2.2.2.2.2.2.2.2.2.2.2.2.2.2.2.2.2.2.2.2.2.2.2.2.2.2.2.2.2.2.2.2.2.2.2.2.2.2.2.2.2.2.2.2.2.2.2.2.2.1
theorem xf_75 {E : Nat → jv_E} (h : jx_F E) : E 75 = cx75 := h.2.2.2.2.2.2.2.2.2.2.2.2.2.2.2.2.2.2.2.2.2.2.2.2.2.2.2.2.2.2.2.2.2.2.2.2.2.2.2.2.2.2.2.2.2.2.2.2.2.2.2.2.2.2.2.2.2.2.2.2.2.2.2.2.2.2.2.2.2.2.2.2.2.2.2.1
theorem xf_76 {E : Nat → jv_E} (h : jx_F E) : E 76 = cx76 := h.2.2.2.2.2.2.2.2.2.2.2.2.2.2.2.2.2.2.2.2.2.2.2.2.2.2.2.2.2.2.2.2.2.2.2.2.2.2.2.2.2.2.2.2.2.2.2.2.2.2.2.2.2.2.2.2.2.2.2.2.2.2.2.2.2.2.2.2.2.2.2.2.2.2.2.2.1
theorem xf_77 {E : Nat → jv_E} (h : jx_F E) : E 77 = cx77 := h.2.2.2.2.2.2.2.2.2.2.2.2.2.2.2.2.2.2.2.2.2.2.2.2.2.2.2.2.2.2.2.2.2.2.2.2.2.2.2.2.2.2.2.2.2.2.2.2.2.2.2.2.2.2.2.2.2.2.2.2.2.2.2.2.2.2.2.2.2.2.2.2.2.2.2.2.2.1
theorem xf_78 {E : Nat → jv_E} (h : jx_F E) : E 78 = cx78 := h.2.2.2.2.2.2.2.2.2.2.2.2.2.2.2.2.2.2.2.2.2.2.2.2.2.2.2.2.2.2.2.2.2.2.2.2.2.2.2.2.2.2.2.2.2.2.2.2.2.2.2.2.2.2.2.2.2.2.2.2.2.2.2.2.2.2.2.2.2.2.2.2.2.2.2.2.2.2.1
theorem xf_79 {E : Nat → jv_E} (h : jx_F E) : E 79 = cx79 := h.2.2.2.2.2.2.2.2.2.2.2.2.2.2.2.2.2.2.2.2.2.2.2.2.2.2.2.2.2.2.2.2.2.2.2.2.2.2.2.2.2.2.2.2.2.2.2.2.2.2.2.2.2.2.2.2.2.2.2.2.2.2.2.2.2.2.2.2.2.2.2.2.2.2.2.2.2.2.2.1
theorem xf_80 {E : Nat → jv_E} (h : jx_F E) : E 80 = cx80 := h.2.2.2.2.2.2.2.2.2.2.2.2.2.2.2.2.2.2.2.2.2.2.2.2.2.2.2.2.2.2.2.2.2.2.2.2.2.2.2.2.2.2.2.2.2.2.2.2.2.2.2.2.2.2.2.2.2.2.2.2.2.2.2.2.2.2.2.2.2.2.2.2.2.2.2.2.2.2.2.2.1
theorem xf_81 {E : Nat → jv_E} (h : jx_F E) : E 81 = cx81 := h.2.2.2.2.2.2.2.2.2.2.2.2.2.2.2.2.2.2.2.2.2.2.2.2.2.2.2.2.2.2.2.2.2.2.2.2.2.2.2.2.2.2.2.2.2.2.2.2.2.2.2.2.2.2.2.2.2.2.2.2.2.2.2.2.2.2.2.2.2.2.2.2.2.2.2.2.2.2.2.2.2.1
theorem xf_82 {E : Nat → jv_E} (h : jx_F E) : E 82 = cx82 := h.2.2.2.2.2.2.2.2.2.2.2.2.2.2.2.2.2.2.2.2.2.2.2.2.2.2.2.2.2.2.2.2.2.2.2.2.2.2.2.2.2.2.2.2.2.2.2.2.2.2.2.2.2.2.2.2.2.2.2.2.2.2.2.2.2.2.2.2.2.2.2.2.2.2.2.2.2.2.2.2.2.2.1
theorem xf_83 {E : Nat → jv_E} (h : jx_F E) : E 83 = cx83 := h.2.2.2.2.2.2.2.2.2.2.2.2.2.2.2.2.2.2.2.2.2.2.2.2.2.2.2.2.2.2.2.2.2.2.2.2.2.2.2.2.2.2.2.2.2.2.2.2.2.2.2.2.2.2.2.2.2.2.2.2.2.2.2.2.2.2.2.2.2.2.2.2.2.2.2.2.2.2.2.2.2.2.2
set_option maxRecDepth 100000 in
theorem law_tail {l : Launch} {D : va_G} {kp : Nat → ClassId} {G : jv_G} {xs : Nat → Int32} (C : jv_C D vwCl kp G cL_law RL wsL_law room_1 jx_N) (hnl : jv_nL G = 4) (SS : jv_S G 6 xs) (QQ : jv_end l D vwCl kp G) (cs ss n : Nat) (hc : cs ≤ 600000) (hs : ss ≤ 7302250) (E : Nat → jv_E) : jv_V l D vwCl kp G cs ss n E 2064 [(3, .int 0), (2, .ref 58), (1, .ref 0), (0, .ref 1000000)] [] := by
  refine jv_iinc (lv2 := [(3, .int 6), (2, .ref 58), (1, .ref 0), (0, .ref 1000000)]) C dL_law_2064 hnl 0 rfl (by decide) (by decide) rfl ?_
  refine jv_goto (tgt := 18) C dL_law_2067 (by decide) ?_
  refine jv_iload_n C dL_law_18 0 rfl ?_
  refine jv_aload_n C dL_law_19 3 rfl ?_
  refine jv_slen C SS dL_law_20 ?_
  refine jv_ti (y := 6) (by decide) ?_
  refine jv_bipush (v := 6) C dL_law_21 (by decide) ?_
  refine jv_isub C dL_law_23 ?_
  refine jv_ti (y := 0) (by decide) ?_
  refine jv_icmp_gt (tgt := 2070) C dL_law_24 (by decide) (fun _ => ?_) (fun h => absurd (by decide) h)
  refine jv_iconst (v := 1) C dL_law_2070 (by decide) ?_
  exact QQ cs ss n E 2071 _ hc hs dL_law_2071
theorem q_X8_feed : yX8_feed.cls ≠ "java/lang/invoke/MethodHandle" ∧ yX8_feed.cls ≠ "java/lang/invoke/VarHandle" ∧ (parseMethodDescriptor yX8_feed.desc).map (fun d => d.parameters.length) = some 5 := by decide +kernel
theorem q_X9_feed : yX9_feed.cls ≠ "java/lang/invoke/MethodHandle" ∧ yX9_feed.cls ≠ "java/lang/invoke/VarHandle" ∧ (parseMethodDescriptor yX9_feed.desc).map (fun d => d.parameters.length) = some 5 := by decide +kernel
set_option maxRecDepth 100000 in
set_option maxHeartbeats 8000000 in
theorem law_0 {l : Launch} {D : va_G} {kp : Nat → ClassId} {G : jv_G} {xs : Nat → Int32} (C : jv_C D vwCl kp G cL_law RL wsL_law room_1 jx_N) (hnl : jv_nL G = 4) (SS : jv_S G 6 xs) (QQ : jv_end l D vwCl kp G) {E : Nat → jv_E} (hX : jx_F E) {a1 a2 a3 a4 a5 : Int32} (s1 : xs (1 : Int32).toNatClampNeg = a1) (s2 : xs (2 : Int32).toNatClampNeg = a2) (s3 : xs (3 : Int32).toNatClampNeg = a3) (s4 : xs (4 : Int32).toNatClampNeg = a4) (s5 : xs (5 : Int32).toNatClampNeg = a5) : jv_V l D vwCl kp G 84 99182 84 E 256 [(3, .int 0), (2, .ref 58), (1, .ref 0), (0, .ref 1000000)] [] := by
  refine jv_aload_n C dL_law_256 2 rfl ?_
  refine jv_aload_n C dL_law_257 3 rfl ?_
  refine jv_iload_n C dL_law_258 0 rfl ?_
  refine jv_iconst (v := 1) C dL_law_259 (by decide) ?_
  refine jv_iadd C dL_law_260 ?_
  refine jv_ti (y := 1) (by decide) ?_
  refine jv_sld C SS (jv_vi (by decide)) dL_law_261 ?_
  refine jv_ti (y := a1) s1 ?_
  refine jv_aload_n C dL_law_262 3 rfl ?_
  refine jv_iload_n C dL_law_263 0 rfl ?_
  refine jv_iconst (v := 2) C dL_law_264 (by decide) ?_
  refine jv_iadd C dL_law_265 ?_
  refine jv_ti (y := 2) (by decide) ?_
  refine jv_sld C SS (jv_vi (by decide)) dL_law_266 ?_
  refine jv_ti (y := a2) s2 ?_
  refine jv_aload_n C dL_law_267 3 rfl ?_
  refine jv_iload_n C dL_law_268 0 rfl ?_
  refine jv_iconst (v := 3) C dL_law_269 (by decide) ?_
  refine jv_iadd C dL_law_270 ?_
  refine jv_ti (y := 3) (by decide) ?_
  refine jv_sld C SS (jv_vi (by decide)) dL_law_271 ?_
  refine jv_ti (y := a3) s3 ?_
  refine jv_aload_n C dL_law_272 3 rfl ?_
  refine jv_iload_n C dL_law_273 0 rfl ?_
  refine jv_iconst (v := 4) C dL_law_274 (by decide) ?_
  refine jv_iadd C dL_law_275 ?_
  refine jv_ti (y := 4) (by decide) ?_
  refine jv_sld C SS (jv_vi (by decide)) dL_law_276 ?_
  refine jv_ti (y := a4) s4 ?_
  refine jv_aload_n C dL_law_277 3 rfl ?_
  refine jv_iload_n C dL_law_278 0 rfl ?_
  refine jv_iconst (v := 5) C dL_law_279 (by decide) ?_
  refine jv_iadd C dL_law_280 ?_
  refine jv_ti (y := 5) (by decide) ?_
  refine jv_sld C SS (jv_vi (by decide)) dL_law_281 ?_
  refine jv_ti (y := a5) s5 ?_
  refine jv_callV (na := 5) (As := [.int a1, .int a2, .int a3, .int a4, .int a5]) (st := []) C (c_X8_feed l D kp (xf_0 hX) (xf_17 hX) (xf_18 hX) a1 a2 a3 a4 a5 ) gL_law_X8_feed rfl (by decide) (xf_0 hX) rfl rfl rfl q_X8_feed rfl ⟨by decide, by decide⟩ ⟨by decide, by decide⟩ (fun _ h => absurd h List.not_mem_nil) (Nat.le_of_ble_eq_true rfl) rfl dL_law_282 (fun r n1 E_1 hp _ => ?_)
  obtain ⟨rfl, hf2⟩ := hp
  show jv_V l D vwCl kp G 84 99182 n1 E_1 285 [(3, .int 0), (2, .ref 58), (1, .ref 0), (0, .ref 1000000)] [.int 20]
  refine jv_aload_n C dL_law_285 1 rfl ?_
  refine jv_aload_n C dL_law_286 3 rfl ?_
  refine jv_iload_n C dL_law_287 0 rfl ?_
  refine jv_iconst (v := 1) C dL_law_288 (by decide) ?_
  refine jv_iadd C dL_law_289 ?_
  refine jv_ti (y := 1) (by decide) ?_
  refine jv_sld C SS (jv_vi (by decide)) dL_law_290 ?_
  refine jv_ti (y := a1) s1 ?_
  refine jv_aload_n C dL_law_291 3 rfl ?_
  refine jv_iload_n C dL_law_292 0 rfl ?_
  refine jv_iconst (v := 2) C dL_law_293 (by decide) ?_
  refine jv_iadd C dL_law_294 ?_
  refine jv_ti (y := 2) (by decide) ?_
  refine jv_sld C SS (jv_vi (by decide)) dL_law_295 ?_
  refine jv_ti (y := a2) s2 ?_
  refine jv_aload_n C dL_law_296 3 rfl ?_
  refine jv_iload_n C dL_law_297 0 rfl ?_
  refine jv_iconst (v := 3) C dL_law_298 (by decide) ?_
  refine jv_iadd C dL_law_299 ?_
  refine jv_ti (y := 3) (by decide) ?_
  refine jv_sld C SS (jv_vi (by decide)) dL_law_300 ?_
  refine jv_ti (y := a3) s3 ?_
  refine jv_aload_n C dL_law_301 3 rfl ?_
  refine jv_iload_n C dL_law_302 0 rfl ?_
  refine jv_iconst (v := 4) C dL_law_303 (by decide) ?_
  refine jv_iadd C dL_law_304 ?_
  refine jv_ti (y := 4) (by decide) ?_
  refine jv_sld C SS (jv_vi (by decide)) dL_law_305 ?_
  refine jv_ti (y := a4) s4 ?_
  refine jv_aload_n C dL_law_306 3 rfl ?_
  refine jv_iload_n C dL_law_307 0 rfl ?_
  refine jv_iconst (v := 5) C dL_law_308 (by decide) ?_
  refine jv_iadd C dL_law_309 ?_
  refine jv_ti (y := 5) (by decide) ?_
  refine jv_sld C SS (jv_vi (by decide)) dL_law_310 ?_
  refine jv_ti (y := a5) s5 ?_
  refine jv_callV (na := 5) (As := [.int a1, .int a2, .int a3, .int a4, .int a5]) (st := [.int 20]) C (c_X9_feed l D kp ((hf2 58 (by decide)).trans (xf_58 hX)) ((hf2 63 (by decide)).trans (xf_63 hX)) a1 a2 a3 a4 a5 ) gL_law_X9_feed rfl (by decide) ((hf2 58 (by decide)).trans (xf_58 hX)) rfl rfl rfl q_X9_feed rfl ⟨by decide, by decide⟩ ⟨by decide, by decide⟩ (fun _ h => absurd h List.not_mem_nil) (Nat.le_of_ble_eq_true rfl) rfl dL_law_311 (fun r n1 E_3 hp _ => ?_)
  cases hp
  show jv_V l D vwCl kp G 84 99182 n1 E_3 314 [(3, .int 0), (2, .ref 58), (1, .ref 0), (0, .ref 1000000)] [.int 20, .int 20]
  refine jv_icmp_eq (tgt := 2064) C dL_law_314 (by decide) (fun _ => ?_) (fun h => absurd (by decide) h)
  exact law_tail C hnl SS QQ 84 99182 n1 (by decide) (by decide) E_3
theorem q_X8_end : yX8_end.cls ≠ "java/lang/invoke/MethodHandle" ∧ yX8_end.cls ≠ "java/lang/invoke/VarHandle" ∧ (parseMethodDescriptor yX8_end.desc).map (fun d => d.parameters.length) = some 1 := by decide +kernel
theorem q_X9_end : yX9_end.cls ≠ "java/lang/invoke/MethodHandle" ∧ yX9_end.cls ≠ "java/lang/invoke/VarHandle" ∧ (parseMethodDescriptor yX9_end.desc).map (fun d => d.parameters.length) = some 1 := by decide +kernel
set_option maxRecDepth 100000 in
set_option maxHeartbeats 8000000 in
theorem law_1 {l : Launch} {D : va_G} {kp : Nat → ClassId} {G : jv_G} {xs : Nat → Int32} (C : jv_C D vwCl kp G cL_law RL wsL_law room_1 jx_N) (hnl : jv_nL G = 4) (SS : jv_S G 6 xs) (QQ : jv_end l D vwCl kp G) {E : Nat → jv_E} (hX : jx_F E) {a1 a2 a3 a4 a5 : Int32} (s1 : xs (1 : Int32).toNatClampNeg = a1) (s2 : xs (2 : Int32).toNatClampNeg = a2) (s3 : xs (3 : Int32).toNatClampNeg = a3) (s4 : xs (4 : Int32).toNatClampNeg = a4) (s5 : xs (5 : Int32).toNatClampNeg = a5) : jv_V l D vwCl kp G 84 99182 84 E 319 [(3, .int 0), (2, .ref 58), (1, .ref 0), (0, .ref 1000000)] [] := by
  refine jv_aload_n C dL_law_319 2 rfl ?_
  refine jv_aload_n C dL_law_320 3 rfl ?_
  refine jv_iload_n C dL_law_321 0 rfl ?_
  refine jv_iconst (v := 1) C dL_law_322 (by decide) ?_
  refine jv_iadd C dL_law_323 ?_
  refine jv_ti (y := 1) (by decide) ?_
  refine jv_sld C SS (jv_vi (by decide)) dL_law_324 ?_
  refine jv_ti (y := a1) s1 ?_
  refine jv_callV (na := 1) (As := [.int a1]) (st := []) C (c_X8_end l D kp (xf_0 hX) (xf_17 hX) a1 ) gL_law_X8_end rfl (by decide) (xf_0 hX) rfl rfl rfl q_X8_end rfl ⟨by decide, by decide⟩ ⟨by decide, by decide⟩ (fun _ h => absurd h List.not_mem_nil) (Nat.le_of_ble_eq_true rfl) rfl dL_law_325 (fun r n1 E_1 hp _ => ?_)
  obtain ⟨rfl, hf2⟩ := hp
  show jv_V l D vwCl kp G 84 99182 n1 E_1 328 [(3, .int 0), (2, .ref 58), (1, .ref 0), (0, .ref 1000000)] [.int (jr_end a1)]
  refine jv_aload_n C dL_law_328 1 rfl ?_
  refine jv_aload_n C dL_law_329 3 rfl ?_
  refine jv_iload_n C dL_law_330 0 rfl ?_
  refine jv_iconst (v := 1) C dL_law_331 (by decide) ?_
  refine jv_iadd C dL_law_332 ?_
  refine jv_ti (y := 1) (by decide) ?_
  refine jv_sld C SS (jv_vi (by decide)) dL_law_333 ?_
  refine jv_ti (y := a1) s1 ?_
  refine jv_callV (na := 1) (As := [.int a1]) (st := [.int (jr_end a1)]) C (c_X9_end l D kp ((hf2 58 (by decide)).trans (xf_58 hX)) a1 ) gL_law_X9_end rfl (by decide) ((hf2 58 (by decide)).trans (xf_58 hX)) rfl rfl rfl q_X9_end rfl ⟨by decide, by decide⟩ ⟨by decide, by decide⟩ (fun _ h => absurd h List.not_mem_nil) (Nat.le_of_ble_eq_true rfl) rfl dL_law_334 (fun r n1 E_3 hp _ => ?_)
  cases hp
  show jv_V l D vwCl kp G 84 99182 n1 E_3 337 [(3, .int 0), (2, .ref 58), (1, .ref 0), (0, .ref 1000000)] [.int (jr_end a1), .int (jr_end a1)]
  refine jv_icmp_eq (tgt := 2064) C dL_law_337 (by decide) (fun _ => ?_) (fun h => absurd rfl h)
  exact law_tail C hnl SS QQ 84 99182 n1 (by decide) (by decide) E_3
theorem q_X8_city : yX8_city.cls ≠ "java/lang/invoke/MethodHandle" ∧ yX8_city.cls ≠ "java/lang/invoke/VarHandle" ∧ (parseMethodDescriptor yX8_city.desc).map (fun d => d.parameters.length) = some 0 := by decide +kernel
theorem q_X9_city : yX9_city.cls ≠ "java/lang/invoke/MethodHandle" ∧ yX9_city.cls ≠ "java/lang/invoke/VarHandle" ∧ (parseMethodDescriptor yX9_city.desc).map (fun d => d.parameters.length) = some 0 := by decide +kernel
set_option maxRecDepth 100000 in
set_option maxHeartbeats 8000000 in
theorem law_2 {l : Launch} {D : va_G} {kp : Nat → ClassId} {G : jv_G} {xs : Nat → Int32} (C : jv_C D vwCl kp G cL_law RL wsL_law room_1 jx_N) (hnl : jv_nL G = 4) (SS : jv_S G 6 xs) (QQ : jv_end l D vwCl kp G) {E : Nat → jv_E} (hX : jx_F E) {a1 a2 a3 a4 a5 : Int32} (s1 : xs (1 : Int32).toNatClampNeg = a1) (s2 : xs (2 : Int32).toNatClampNeg = a2) (s3 : xs (3 : Int32).toNatClampNeg = a3) (s4 : xs (4 : Int32).toNatClampNeg = a4) (s5 : xs (5 : Int32).toNatClampNeg = a5) : jv_V l D vwCl kp G 84 99182 84 E 342 [(3, .int 0), (2, .ref 58), (1, .ref 0), (0, .ref 1000000)] [] := by
  refine jv_aload_n C dL_law_342 2 rfl ?_
  refine jv_callV (na := 0) (As := []) (st := []) C (c_X8_city l D kp (xf_0 hX) (xf_17 hX) (xf_1 hX) (xf_2 hX) (xf_3 hX) (xf_4 hX) (xf_5 hX) (xf_6 hX) (xf_7 hX) (xf_8 hX) (xf_9 hX) (xf_10 hX) (xf_11 hX) (xf_12 hX) (xf_13 hX) (xf_14 hX)  ) gL_law_X8_city rfl (by decide) (xf_0 hX) rfl rfl rfl q_X8_city rfl ⟨by decide, by decide⟩ ⟨by decide, by decide⟩ (fun _ h => absurd h List.not_mem_nil) (Nat.le_of_ble_eq_true rfl) rfl dL_law_343 (fun r n1 E_1 hp _ => ?_)
  obtain ⟨rfl, hf2⟩ := hp
  show jv_V l D vwCl kp G 84 99182 n1 E_1 346 [(3, .int 0), (2, .ref 58), (1, .ref 0), (0, .ref 1000000)] [.int 0]
  refine jv_aload_n C dL_law_346 1 rfl ?_
  refine jv_callV (na := 0) (As := []) (st := [.int 0]) C (c_X9_city l D kp ((hf2 58 (by decide)).trans (xf_58 hX)) ((hf2 64 (by decide)).trans (xf_64 hX)) ((hf2 65 (by decide)).trans (xf_65 hX)) ((hf2 66 (by decide)).trans (xf_66 hX)) ((hf2 67 (by decide)).trans (xf_67 hX)) ((hf2 68 (by decide)).trans (xf_68 hX)) ((hf2 69 (by decide)).trans (xf_69 hX)) ((hf2 70 (by decide)).trans (xf_70 hX)) ((hf2 71 (by decide)).trans (xf_71 hX)) ((hf2 72 (by decide)).trans (xf_72 hX)) ((hf2 73 (by decide)).trans (xf_73 hX))  ) gL_law_X9_city rfl (by decide) ((hf2 58 (by decide)).trans (xf_58 hX)) rfl rfl rfl q_X9_city rfl ⟨by decide, by decide⟩ ⟨by decide, by decide⟩ (fun _ h => absurd h List.not_mem_nil) (Nat.le_of_ble_eq_true rfl) rfl dL_law_347 (fun r n1 E_3 hp _ => ?_)
  cases hp
  show jv_V l D vwCl kp G 84 99182 n1 E_3 350 [(3, .int 0), (2, .ref 58), (1, .ref 0), (0, .ref 1000000)] [.int 0, .int 0]
  refine jv_icmp_eq (tgt := 2064) C dL_law_350 (by decide) (fun _ => ?_) (fun h => absurd (by decide) h)
  exact law_tail C hnl SS QQ 84 99182 n1 (by decide) (by decide) E_3
theorem q_X8_fault : yX8_fault.cls ≠ "java/lang/invoke/MethodHandle" ∧ yX8_fault.cls ≠ "java/lang/invoke/VarHandle" ∧ (parseMethodDescriptor yX8_fault.desc).map (fun d => d.parameters.length) = some 1 := by decide +kernel
theorem q_X9_fault : yX9_fault.cls ≠ "java/lang/invoke/MethodHandle" ∧ yX9_fault.cls ≠ "java/lang/invoke/VarHandle" ∧ (parseMethodDescriptor yX9_fault.desc).map (fun d => d.parameters.length) = some 1 := by decide +kernel
set_option maxRecDepth 100000 in
set_option maxHeartbeats 8000000 in
theorem law_3 {l : Launch} {D : va_G} {kp : Nat → ClassId} {G : jv_G} {xs : Nat → Int32} (C : jv_C D vwCl kp G cL_law RL wsL_law room_1 jx_N) (hnl : jv_nL G = 4) (SS : jv_S G 6 xs) (QQ : jv_end l D vwCl kp G) {E : Nat → jv_E} (hX : jx_F E) {a1 a2 a3 a4 a5 : Int32} (s1 : xs (1 : Int32).toNatClampNeg = a1) (s2 : xs (2 : Int32).toNatClampNeg = a2) (s3 : xs (3 : Int32).toNatClampNeg = a3) (s4 : xs (4 : Int32).toNatClampNeg = a4) (s5 : xs (5 : Int32).toNatClampNeg = a5) : jv_V l D vwCl kp G 84 99182 84 E 355 [(3, .int 0), (2, .ref 58), (1, .ref 0), (0, .ref 1000000)] [] := by
  refine jv_aload_n C dL_law_355 2 rfl ?_
  refine jv_aload_n C dL_law_356 3 rfl ?_
  refine jv_iload_n C dL_law_357 0 rfl ?_
  refine jv_iconst (v := 1) C dL_law_358 (by decide) ?_
  refine jv_iadd C dL_law_359 ?_
  refine jv_ti (y := 1) (by decide) ?_
  refine jv_sld C SS (jv_vi (by decide)) dL_law_360 ?_
  refine jv_ti (y := a1) s1 ?_
  refine jv_callV (na := 1) (As := [.int a1]) (st := []) C (c_X8_fault l D kp (xf_0 hX) (xf_17 hX) a1 ) gL_law_X8_fault rfl (by decide) (xf_0 hX) rfl rfl rfl q_X8_fault rfl ⟨by decide, by decide⟩ ⟨by decide, by decide⟩ (fun _ h => absurd h List.not_mem_nil) (Nat.le_of_ble_eq_true rfl) rfl dL_law_361 (fun r n1 E_1 hp _ => ?_)
  obtain ⟨rfl, rfl, rfl⟩ := hp
  show jv_V l D vwCl kp G 84 99182 84 E 364 [(3, .int 0), (2, .ref 58), (1, .ref 0), (0, .ref 1000000)] [.int (jr_end a1)]
  refine jv_aload_n C dL_law_364 1 rfl ?_
  refine jv_aload_n C dL_law_365 3 rfl ?_
  refine jv_iload_n C dL_law_366 0 rfl ?_
  refine jv_iconst (v := 1) C dL_law_367 (by decide) ?_
  refine jv_iadd C dL_law_368 ?_
  refine jv_ti (y := 1) (by decide) ?_
  refine jv_sld C SS (jv_vi (by decide)) dL_law_369 ?_
  refine jv_ti (y := a1) s1 ?_
  refine jv_callV (na := 1) (As := [.int a1]) (st := [.int (jr_end a1)]) C (c_X9_fault l D kp (xf_58 hX) a1 ) gL_law_X9_fault rfl (by decide) (xf_58 hX) rfl rfl rfl q_X9_fault rfl ⟨by decide, by decide⟩ ⟨by decide, by decide⟩ (fun _ h => absurd h List.not_mem_nil) (Nat.le_of_ble_eq_true rfl) rfl dL_law_370 (fun r n1 E_2 hp _ => ?_)
  cases hp
  show jv_V l D vwCl kp G 84 99182 n1 E_2 373 [(3, .int 0), (2, .ref 58), (1, .ref 0), (0, .ref 1000000)] [.int (jr_end a1), .int (jr_end a1)]
  refine jv_icmp_eq (tgt := 2064) C dL_law_373 (by decide) (fun _ => ?_) (fun h => absurd rfl h)
  exact law_tail C hnl SS QQ 84 99182 n1 (by decide) (by decide) E_2
theorem q_X8_tosses : yX8_tosses.cls ≠ "java/lang/invoke/MethodHandle" ∧ yX8_tosses.cls ≠ "java/lang/invoke/VarHandle" ∧ (parseMethodDescriptor yX8_tosses.desc).map (fun d => d.parameters.length) = some 3 := by decide +kernel
theorem q_X9_tosses : yX9_tosses.cls ≠ "java/lang/invoke/MethodHandle" ∧ yX9_tosses.cls ≠ "java/lang/invoke/VarHandle" ∧ (parseMethodDescriptor yX9_tosses.desc).map (fun d => d.parameters.length) = some 3 := by decide +kernel
set_option maxRecDepth 100000 in
set_option maxHeartbeats 8000000 in
theorem law_4 {l : Launch} {D : va_G} {kp : Nat → ClassId} {G : jv_G} {xs : Nat → Int32} (C : jv_C D vwCl kp G cL_law RL wsL_law room_1 jx_N) (hnl : jv_nL G = 4) (SS : jv_S G 6 xs) (QQ : jv_end l D vwCl kp G) {E : Nat → jv_E} (hX : jx_F E) {a1 a2 a3 a4 a5 : Int32} (s1 : xs (1 : Int32).toNatClampNeg = a1) (s2 : xs (2 : Int32).toNatClampNeg = a2) (s3 : xs (3 : Int32).toNatClampNeg = a3) (s4 : xs (4 : Int32).toNatClampNeg = a4) (s5 : xs (5 : Int32).toNatClampNeg = a5) : jv_V l D vwCl kp G 84 99182 84 E 378 [(3, .int 0), (2, .ref 58), (1, .ref 0), (0, .ref 1000000)] [] := by
  refine jv_aload_n C dL_law_378 2 rfl ?_
  refine jv_aload_n C dL_law_379 3 rfl ?_
  refine jv_iload_n C dL_law_380 0 rfl ?_
  refine jv_iconst (v := 1) C dL_law_381 (by decide) ?_
  refine jv_iadd C dL_law_382 ?_
  refine jv_ti (y := 1) (by decide) ?_
  refine jv_sld C SS (jv_vi (by decide)) dL_law_383 ?_
  refine jv_ti (y := a1) s1 ?_
  refine jv_aload_n C dL_law_384 3 rfl ?_
  refine jv_iload_n C dL_law_385 0 rfl ?_
  refine jv_iconst (v := 2) C dL_law_386 (by decide) ?_
  refine jv_iadd C dL_law_387 ?_
  refine jv_ti (y := 2) (by decide) ?_
  refine jv_sld C SS (jv_vi (by decide)) dL_law_388 ?_
  refine jv_ti (y := a2) s2 ?_
  refine jv_aload_n C dL_law_389 3 rfl ?_
  refine jv_iload_n C dL_law_390 0 rfl ?_
  refine jv_iconst (v := 3) C dL_law_391 (by decide) ?_
  refine jv_iadd C dL_law_392 ?_
  refine jv_ti (y := 3) (by decide) ?_
  refine jv_sld C SS (jv_vi (by decide)) dL_law_393 ?_
  refine jv_ti (y := a3) s3 ?_
  refine jv_callV (na := 3) (As := [.int a1, .int a2, .int a3]) (st := []) C (c_X8_tosses l D kp (xf_0 hX) (xf_1 hX) a1 a2 a3 ) gL_law_X8_tosses rfl (by decide) (xf_0 hX) rfl rfl rfl q_X8_tosses rfl ⟨by decide, by decide⟩ ⟨by decide, by decide⟩ (fun _ h => absurd h List.not_mem_nil) (Nat.le_of_ble_eq_true rfl) rfl dL_law_394 (fun r n1 E_1 hp _ => ?_)
  obtain ⟨rfl, rfl, rfl⟩ := hp
  show jv_V l D vwCl kp G 84 99182 84 E 397 [(3, .int 0), (2, .ref 58), (1, .ref 0), (0, .ref 1000000)] [.int (-2)]
  refine jv_aload_n C dL_law_397 1 rfl ?_
  refine jv_aload_n C dL_law_398 3 rfl ?_
  refine jv_iload_n C dL_law_399 0 rfl ?_
  refine jv_iconst (v := 1) C dL_law_400 (by decide) ?_
  refine jv_iadd C dL_law_401 ?_
  refine jv_ti (y := 1) (by decide) ?_
  refine jv_sld C SS (jv_vi (by decide)) dL_law_402 ?_
  refine jv_ti (y := a1) s1 ?_
  refine jv_aload_n C dL_law_403 3 rfl ?_
  refine jv_iload_n C dL_law_404 0 rfl ?_
  refine jv_iconst (v := 2) C dL_law_405 (by decide) ?_
  refine jv_iadd C dL_law_406 ?_
  refine jv_ti (y := 2) (by decide) ?_
  refine jv_sld C SS (jv_vi (by decide)) dL_law_407 ?_
  refine jv_ti (y := a2) s2 ?_
  refine jv_aload_n C dL_law_408 3 rfl ?_
  refine jv_iload_n C dL_law_409 0 rfl ?_
  refine jv_iconst (v := 3) C dL_law_410 (by decide) ?_
  refine jv_iadd C dL_law_411 ?_
  refine jv_ti (y := 3) (by decide) ?_
  refine jv_sld C SS (jv_vi (by decide)) dL_law_412 ?_
  refine jv_ti (y := a3) s3 ?_
  refine jv_callV (na := 3) (As := [.int a1, .int a2, .int a3]) (st := [.int (-2)]) C (c_X9_tosses l D kp (xf_58 hX) (xf_65 hX) a1 a2 a3 ) gL_law_X9_tosses rfl (by decide) (xf_58 hX) rfl rfl rfl q_X9_tosses rfl ⟨by decide, by decide⟩ ⟨by decide, by decide⟩ (fun _ h => absurd h List.not_mem_nil) (Nat.le_of_ble_eq_true rfl) rfl dL_law_413 (fun r n1 E_2 hp _ => ?_)
  cases hp
  show jv_V l D vwCl kp G 84 99182 n1 E_2 416 [(3, .int 0), (2, .ref 58), (1, .ref 0), (0, .ref 1000000)] [.int (-2), .int (-2)]
  refine jv_icmp_eq (tgt := 2064) C dL_law_416 (by decide) (fun _ => ?_) (fun h => absurd (by decide) h)
  exact law_tail C hnl SS QQ 84 99182 n1 (by decide) (by decide) E_2
theorem q_X8_period : yX8_period.cls ≠ "java/lang/invoke/MethodHandle" ∧ yX8_period.cls ≠ "java/lang/invoke/VarHandle" ∧ (parseMethodDescriptor yX8_period.desc).map (fun d => d.parameters.length) = some 1 := by decide +kernel
theorem q_X9_period : yX9_period.cls ≠ "java/lang/invoke/MethodHandle" ∧ yX9_period.cls ≠ "java/lang/invoke/VarHandle" ∧ (parseMethodDescriptor yX9_period.desc).map (fun d => d.parameters.length) = some 1 := by decide +kernel
set_option maxRecDepth 100000 in
set_option maxHeartbeats 8000000 in
theorem law_5 {l : Launch} {D : va_G} {kp : Nat → ClassId} {G : jv_G} {xs : Nat → Int32} (C : jv_C D vwCl kp G cL_law RL wsL_law room_1 jx_N) (hnl : jv_nL G = 4) (SS : jv_S G 6 xs) (QQ : jv_end l D vwCl kp G) {E : Nat → jv_E} (hX : jx_F E) {a1 a2 a3 a4 a5 : Int32} (s1 : xs (1 : Int32).toNatClampNeg = a1) (s2 : xs (2 : Int32).toNatClampNeg = a2) (s3 : xs (3 : Int32).toNatClampNeg = a3) (s4 : xs (4 : Int32).toNatClampNeg = a4) (s5 : xs (5 : Int32).toNatClampNeg = a5) : jv_V l D vwCl kp G 84 99182 84 E 421 [(3, .int 0), (2, .ref 58), (1, .ref 0), (0, .ref 1000000)] [] := by
  refine jv_aload_n C dL_law_421 2 rfl ?_
  refine jv_aload_n C dL_law_422 3 rfl ?_
  refine jv_iload_n C dL_law_423 0 rfl ?_
  refine jv_iconst (v := 1) C dL_law_424 (by decide) ?_
  refine jv_iadd C dL_law_425 ?_
  refine jv_ti (y := 1) (by decide) ?_
  refine jv_sld C SS (jv_vi (by decide)) dL_law_426 ?_
  refine jv_ti (y := a1) s1 ?_
  refine jv_callV (na := 1) (As := [.int a1]) (st := []) C (c_X8_period l D kp (xf_0 hX) (xf_1 hX) a1 ) gL_law_X8_period rfl (by decide) (xf_0 hX) rfl rfl rfl q_X8_period rfl ⟨by decide, by decide⟩ ⟨by decide, by decide⟩ (fun _ h => absurd h List.not_mem_nil) (Nat.le_of_ble_eq_true rfl) rfl dL_law_427 (fun r n1 E_1 hp _ => ?_)
  obtain ⟨rfl, rfl, rfl⟩ := hp
  show jv_V l D vwCl kp G 84 99182 84 E 430 [(3, .int 0), (2, .ref 58), (1, .ref 0), (0, .ref 1000000)] [.int (-2)]
  refine jv_aload_n C dL_law_430 1 rfl ?_
  refine jv_aload_n C dL_law_431 3 rfl ?_
  refine jv_iload_n C dL_law_432 0 rfl ?_
  refine jv_iconst (v := 1) C dL_law_433 (by decide) ?_
  refine jv_iadd C dL_law_434 ?_
  refine jv_ti (y := 1) (by decide) ?_
  refine jv_sld C SS (jv_vi (by decide)) dL_law_435 ?_
  refine jv_ti (y := a1) s1 ?_
  refine jv_callV (na := 1) (As := [.int a1]) (st := [.int (-2)]) C (c_X9_period l D kp (xf_58 hX) (xf_65 hX) a1 ) gL_law_X9_period rfl (by decide) (xf_58 hX) rfl rfl rfl q_X9_period rfl ⟨by decide, by decide⟩ ⟨by decide, by decide⟩ (fun _ h => absurd h List.not_mem_nil) (Nat.le_of_ble_eq_true rfl) rfl dL_law_436 (fun r n1 E_2 hp _ => ?_)
  cases hp
  show jv_V l D vwCl kp G 84 99182 n1 E_2 439 [(3, .int 0), (2, .ref 58), (1, .ref 0), (0, .ref 1000000)] [.int (-2), .int (-2)]
  refine jv_icmp_eq (tgt := 2064) C dL_law_439 (by decide) (fun _ => ?_) (fun h => absurd (by decide) h)
  exact law_tail C hnl SS QQ 84 99182 n1 (by decide) (by decide) E_2
theorem q_X8_turn : yX8_turn.cls ≠ "java/lang/invoke/MethodHandle" ∧ yX8_turn.cls ≠ "java/lang/invoke/VarHandle" ∧ (parseMethodDescriptor yX8_turn.desc).map (fun d => d.parameters.length) = some 0 := by decide +kernel
theorem q_X9_turn : yX9_turn.cls ≠ "java/lang/invoke/MethodHandle" ∧ yX9_turn.cls ≠ "java/lang/invoke/VarHandle" ∧ (parseMethodDescriptor yX9_turn.desc).map (fun d => d.parameters.length) = some 0 := by decide +kernel
set_option maxRecDepth 100000 in
set_option maxHeartbeats 8000000 in
theorem law_6 {l : Launch} {D : va_G} {kp : Nat → ClassId} {G : jv_G} {xs : Nat → Int32} (C : jv_C D vwCl kp G cL_law RL wsL_law room_1 jx_N) (hnl : jv_nL G = 4) (SS : jv_S G 6 xs) (QQ : jv_end l D vwCl kp G) {E : Nat → jv_E} (hX : jx_F E) {a1 a2 a3 a4 a5 : Int32} (s1 : xs (1 : Int32).toNatClampNeg = a1) (s2 : xs (2 : Int32).toNatClampNeg = a2) (s3 : xs (3 : Int32).toNatClampNeg = a3) (s4 : xs (4 : Int32).toNatClampNeg = a4) (s5 : xs (5 : Int32).toNatClampNeg = a5) : jv_V l D vwCl kp G 84 99182 84 E 444 [(3, .int 0), (2, .ref 58), (1, .ref 0), (0, .ref 1000000)] [] := by
  refine jv_aload_n C dL_law_444 2 rfl ?_
  refine jv_callV (na := 0) (As := []) (st := []) C (c_X8_turn l D kp (xf_0 hX) (xf_1 hX)  ) gL_law_X8_turn rfl (by decide) (xf_0 hX) rfl rfl rfl q_X8_turn rfl ⟨by decide, by decide⟩ ⟨by decide, by decide⟩ (fun _ h => absurd h List.not_mem_nil) (Nat.le_of_ble_eq_true rfl) rfl dL_law_445 (fun r n1 E_1 hp _ => ?_)
  obtain ⟨rfl, rfl, rfl⟩ := hp
  show jv_V l D vwCl kp G 84 99182 84 E 448 [(3, .int 0), (2, .ref 58), (1, .ref 0), (0, .ref 1000000)] [.int (-2)]
  refine jv_aload_n C dL_law_448 1 rfl ?_
  refine jv_callV (na := 0) (As := []) (st := [.int (-2)]) C (c_X9_turn l D kp (xf_58 hX) (xf_65 hX)  ) gL_law_X9_turn rfl (by decide) (xf_58 hX) rfl rfl rfl q_X9_turn rfl ⟨by decide, by decide⟩ ⟨by decide, by decide⟩ (fun _ h => absurd h List.not_mem_nil) (Nat.le_of_ble_eq_true rfl) rfl dL_law_449 (fun r n1 E_2 hp _ => ?_)
  cases hp
  show jv_V l D vwCl kp G 84 99182 n1 E_2 452 [(3, .int 0), (2, .ref 58), (1, .ref 0), (0, .ref 1000000)] [.int (-2), .int (-2)]
  refine jv_icmp_eq (tgt := 2064) C dL_law_452 (by decide) (fun _ => ?_) (fun h => absurd (by decide) h)
  exact law_tail C hnl SS QQ 84 99182 n1 (by decide) (by decide) E_2
theorem q_X8_set : yX8_set.cls ≠ "java/lang/invoke/MethodHandle" ∧ yX8_set.cls ≠ "java/lang/invoke/VarHandle" ∧ (parseMethodDescriptor yX8_set.desc).map (fun d => d.parameters.length) = some 4 := by decide +kernel
theorem q_X9_set : yX9_set.cls ≠ "java/lang/invoke/MethodHandle" ∧ yX9_set.cls ≠ "java/lang/invoke/VarHandle" ∧ (parseMethodDescriptor yX9_set.desc).map (fun d => d.parameters.length) = some 4 := by decide +kernel
set_option maxRecDepth 100000 in
set_option maxHeartbeats 8000000 in
theorem law_7 {l : Launch} {D : va_G} {kp : Nat → ClassId} {G : jv_G} {xs : Nat → Int32} (C : jv_C D vwCl kp G cL_law RL wsL_law room_1 jx_N) (hnl : jv_nL G = 4) (SS : jv_S G 6 xs) (QQ : jv_end l D vwCl kp G) {E : Nat → jv_E} (hX : jx_F E) {a1 a2 a3 a4 a5 : Int32} (s1 : xs (1 : Int32).toNatClampNeg = a1) (s2 : xs (2 : Int32).toNatClampNeg = a2) (s3 : xs (3 : Int32).toNatClampNeg = a3) (s4 : xs (4 : Int32).toNatClampNeg = a4) (s5 : xs (5 : Int32).toNatClampNeg = a5) : jv_V l D vwCl kp G 84 99182 84 E 457 [(3, .int 0), (2, .ref 58), (1, .ref 0), (0, .ref 1000000)] [] := by
  refine jv_aload_n C dL_law_457 2 rfl ?_
  refine jv_aload_n C dL_law_458 3 rfl ?_
  refine jv_iload_n C dL_law_459 0 rfl ?_
  refine jv_iconst (v := 1) C dL_law_460 (by decide) ?_
  refine jv_iadd C dL_law_461 ?_
  refine jv_ti (y := 1) (by decide) ?_
  refine jv_sld C SS (jv_vi (by decide)) dL_law_462 ?_
  refine jv_ti (y := a1) s1 ?_
  refine jv_aload_n C dL_law_463 3 rfl ?_
  refine jv_iload_n C dL_law_464 0 rfl ?_
  refine jv_iconst (v := 2) C dL_law_465 (by decide) ?_
  refine jv_iadd C dL_law_466 ?_
  refine jv_ti (y := 2) (by decide) ?_
  refine jv_sld C SS (jv_vi (by decide)) dL_law_467 ?_
  refine jv_ti (y := a2) s2 ?_
  refine jv_aload_n C dL_law_468 3 rfl ?_
  refine jv_iload_n C dL_law_469 0 rfl ?_
  refine jv_iconst (v := 3) C dL_law_470 (by decide) ?_
  refine jv_iadd C dL_law_471 ?_
  refine jv_ti (y := 3) (by decide) ?_
  refine jv_sld C SS (jv_vi (by decide)) dL_law_472 ?_
  refine jv_ti (y := a3) s3 ?_
  refine jv_aload_n C dL_law_473 3 rfl ?_
  refine jv_iload_n C dL_law_474 0 rfl ?_
  refine jv_iconst (v := 4) C dL_law_475 (by decide) ?_
  refine jv_iadd C dL_law_476 ?_
  refine jv_ti (y := 4) (by decide) ?_
  refine jv_sld C SS (jv_vi (by decide)) dL_law_477 ?_
  refine jv_ti (y := a4) s4 ?_
  refine jv_callV (na := 4) (As := [.int a1, .int a2, .int a3, .int a4]) (st := []) C (c_X8_set l D kp (xf_0 hX) (xf_1 hX) a1 a2 a3 a4 ) gL_law_X8_set rfl (by decide) (xf_0 hX) rfl rfl rfl q_X8_set rfl ⟨by decide, by decide⟩ ⟨by decide, by decide⟩ (fun _ h => absurd h List.not_mem_nil) (Nat.le_of_ble_eq_true rfl) rfl dL_law_478 (fun r n1 E_1 hp _ => ?_)
  obtain ⟨rfl, rfl, rfl⟩ := hp
  show jv_V l D vwCl kp G 84 99182 84 E 481 [(3, .int 0), (2, .ref 58), (1, .ref 0), (0, .ref 1000000)] [.int (-2)]
  refine jv_aload_n C dL_law_481 1 rfl ?_
  refine jv_aload_n C dL_law_482 3 rfl ?_
  refine jv_iload_n C dL_law_483 0 rfl ?_
  refine jv_iconst (v := 1) C dL_law_484 (by decide) ?_
  refine jv_iadd C dL_law_485 ?_
  refine jv_ti (y := 1) (by decide) ?_
  refine jv_sld C SS (jv_vi (by decide)) dL_law_486 ?_
  refine jv_ti (y := a1) s1 ?_
  refine jv_aload_n C dL_law_487 3 rfl ?_
  refine jv_iload_n C dL_law_488 0 rfl ?_
  refine jv_iconst (v := 2) C dL_law_489 (by decide) ?_
  refine jv_iadd C dL_law_490 ?_
  refine jv_ti (y := 2) (by decide) ?_
  refine jv_sld C SS (jv_vi (by decide)) dL_law_491 ?_
  refine jv_ti (y := a2) s2 ?_
  refine jv_aload_n C dL_law_492 3 rfl ?_
  refine jv_iload_n C dL_law_493 0 rfl ?_
  refine jv_iconst (v := 3) C dL_law_494 (by decide) ?_
  refine jv_iadd C dL_law_495 ?_
  refine jv_ti (y := 3) (by decide) ?_
  refine jv_sld C SS (jv_vi (by decide)) dL_law_496 ?_
  refine jv_ti (y := a3) s3 ?_
  refine jv_aload_n C dL_law_497 3 rfl ?_
  refine jv_iload_n C dL_law_498 0 rfl ?_
  refine jv_iconst (v := 4) C dL_law_499 (by decide) ?_
  refine jv_iadd C dL_law_500 ?_
  refine jv_ti (y := 4) (by decide) ?_
  refine jv_sld C SS (jv_vi (by decide)) dL_law_501 ?_
  refine jv_ti (y := a4) s4 ?_
  refine jv_callV (na := 4) (As := [.int a1, .int a2, .int a3, .int a4]) (st := [.int (-2)]) C (c_X9_set l D kp (xf_58 hX) (xf_65 hX) a1 a2 a3 a4 ) gL_law_X9_set rfl (by decide) (xf_58 hX) rfl rfl rfl q_X9_set rfl ⟨by decide, by decide⟩ ⟨by decide, by decide⟩ (fun _ h => absurd h List.not_mem_nil) (Nat.le_of_ble_eq_true rfl) rfl dL_law_502 (fun r n1 E_2 hp _ => ?_)
  cases hp
  show jv_V l D vwCl kp G 84 99182 n1 E_2 505 [(3, .int 0), (2, .ref 58), (1, .ref 0), (0, .ref 1000000)] [.int (-2), .int (-2)]
  refine jv_icmp_eq (tgt := 2064) C dL_law_505 (by decide) (fun _ => ?_) (fun h => absurd (by decide) h)
  exact law_tail C hnl SS QQ 84 99182 n1 (by decide) (by decide) E_2
theorem q_X8_swap : yX8_swap.cls ≠ "java/lang/invoke/MethodHandle" ∧ yX8_swap.cls ≠ "java/lang/invoke/VarHandle" ∧ (parseMethodDescriptor yX8_swap.desc).map (fun d => d.parameters.length) = some 3 := by decide +kernel
theorem q_X9_swap : yX9_swap.cls ≠ "java/lang/invoke/MethodHandle" ∧ yX9_swap.cls ≠ "java/lang/invoke/VarHandle" ∧ (parseMethodDescriptor yX9_swap.desc).map (fun d => d.parameters.length) = some 3 := by decide +kernel
set_option maxRecDepth 100000 in
set_option maxHeartbeats 8000000 in
theorem law_8 {l : Launch} {D : va_G} {kp : Nat → ClassId} {G : jv_G} {xs : Nat → Int32} (C : jv_C D vwCl kp G cL_law RL wsL_law room_1 jx_N) (hnl : jv_nL G = 4) (SS : jv_S G 6 xs) (QQ : jv_end l D vwCl kp G) {E : Nat → jv_E} (hX : jx_F E) {a1 a2 a3 a4 a5 : Int32} (s1 : xs (1 : Int32).toNatClampNeg = a1) (s2 : xs (2 : Int32).toNatClampNeg = a2) (s3 : xs (3 : Int32).toNatClampNeg = a3) (s4 : xs (4 : Int32).toNatClampNeg = a4) (s5 : xs (5 : Int32).toNatClampNeg = a5) : jv_V l D vwCl kp G 84 99182 84 E 510 [(3, .int 0), (2, .ref 58), (1, .ref 0), (0, .ref 1000000)] [] := by
  refine jv_aload_n C dL_law_510 2 rfl ?_
  refine jv_aload_n C dL_law_511 3 rfl ?_
  refine jv_iload_n C dL_law_512 0 rfl ?_
  refine jv_iconst (v := 1) C dL_law_513 (by decide) ?_
  refine jv_iadd C dL_law_514 ?_
  refine jv_ti (y := 1) (by decide) ?_
  refine jv_sld C SS (jv_vi (by decide)) dL_law_515 ?_
  refine jv_ti (y := a1) s1 ?_
  refine jv_aload_n C dL_law_516 3 rfl ?_
  refine jv_iload_n C dL_law_517 0 rfl ?_
  refine jv_iconst (v := 2) C dL_law_518 (by decide) ?_
  refine jv_iadd C dL_law_519 ?_
  refine jv_ti (y := 2) (by decide) ?_
  refine jv_sld C SS (jv_vi (by decide)) dL_law_520 ?_
  refine jv_ti (y := a2) s2 ?_
  refine jv_aload_n C dL_law_521 3 rfl ?_
  refine jv_iload_n C dL_law_522 0 rfl ?_
  refine jv_iconst (v := 3) C dL_law_523 (by decide) ?_
  refine jv_iadd C dL_law_524 ?_
  refine jv_ti (y := 3) (by decide) ?_
  refine jv_sld C SS (jv_vi (by decide)) dL_law_525 ?_
  refine jv_ti (y := a3) s3 ?_
  refine jv_callV (na := 3) (As := [.int a1, .int a2, .int a3]) (st := []) C (c_X8_swap l D kp (xf_0 hX) (xf_1 hX) a1 a2 a3 ) gL_law_X8_swap rfl (by decide) (xf_0 hX) rfl rfl rfl q_X8_swap rfl ⟨by decide, by decide⟩ ⟨by decide, by decide⟩ (fun _ h => absurd h List.not_mem_nil) (Nat.le_of_ble_eq_true rfl) rfl dL_law_526 (fun r n1 E_1 hp _ => ?_)
  obtain ⟨rfl, rfl, rfl⟩ := hp
  show jv_V l D vwCl kp G 84 99182 84 E 529 [(3, .int 0), (2, .ref 58), (1, .ref 0), (0, .ref 1000000)] [.int (-2)]
  refine jv_aload_n C dL_law_529 1 rfl ?_
  refine jv_aload_n C dL_law_530 3 rfl ?_
  refine jv_iload_n C dL_law_531 0 rfl ?_
  refine jv_iconst (v := 1) C dL_law_532 (by decide) ?_
  refine jv_iadd C dL_law_533 ?_
  refine jv_ti (y := 1) (by decide) ?_
  refine jv_sld C SS (jv_vi (by decide)) dL_law_534 ?_
  refine jv_ti (y := a1) s1 ?_
  refine jv_aload_n C dL_law_535 3 rfl ?_
  refine jv_iload_n C dL_law_536 0 rfl ?_
  refine jv_iconst (v := 2) C dL_law_537 (by decide) ?_
  refine jv_iadd C dL_law_538 ?_
  refine jv_ti (y := 2) (by decide) ?_
  refine jv_sld C SS (jv_vi (by decide)) dL_law_539 ?_
  refine jv_ti (y := a2) s2 ?_
  refine jv_aload_n C dL_law_540 3 rfl ?_
  refine jv_iload_n C dL_law_541 0 rfl ?_
  refine jv_iconst (v := 3) C dL_law_542 (by decide) ?_
  refine jv_iadd C dL_law_543 ?_
  refine jv_ti (y := 3) (by decide) ?_
  refine jv_sld C SS (jv_vi (by decide)) dL_law_544 ?_
  refine jv_ti (y := a3) s3 ?_
  refine jv_callV (na := 3) (As := [.int a1, .int a2, .int a3]) (st := [.int (-2)]) C (c_X9_swap l D kp (xf_58 hX) (xf_65 hX) a1 a2 a3 ) gL_law_X9_swap rfl (by decide) (xf_58 hX) rfl rfl rfl q_X9_swap rfl ⟨by decide, by decide⟩ ⟨by decide, by decide⟩ (fun _ h => absurd h List.not_mem_nil) (Nat.le_of_ble_eq_true rfl) rfl dL_law_545 (fun r n1 E_2 hp _ => ?_)
  cases hp
  show jv_V l D vwCl kp G 84 99182 n1 E_2 548 [(3, .int 0), (2, .ref 58), (1, .ref 0), (0, .ref 1000000)] [.int (-2), .int (-2)]
  refine jv_icmp_eq (tgt := 2064) C dL_law_548 (by decide) (fun _ => ?_) (fun h => absurd (by decide) h)
  exact law_tail C hnl SS QQ 84 99182 n1 (by decide) (by decide) E_2
theorem q_X8_shift : yX8_shift.cls ≠ "java/lang/invoke/MethodHandle" ∧ yX8_shift.cls ≠ "java/lang/invoke/VarHandle" ∧ (parseMethodDescriptor yX8_shift.desc).map (fun d => d.parameters.length) = some 2 := by decide +kernel
theorem q_X9_shift : yX9_shift.cls ≠ "java/lang/invoke/MethodHandle" ∧ yX9_shift.cls ≠ "java/lang/invoke/VarHandle" ∧ (parseMethodDescriptor yX9_shift.desc).map (fun d => d.parameters.length) = some 2 := by decide +kernel
set_option maxRecDepth 100000 in
set_option maxHeartbeats 8000000 in
theorem law_9 {l : Launch} {D : va_G} {kp : Nat → ClassId} {G : jv_G} {xs : Nat → Int32} (C : jv_C D vwCl kp G cL_law RL wsL_law room_1 jx_N) (hnl : jv_nL G = 4) (SS : jv_S G 6 xs) (QQ : jv_end l D vwCl kp G) {E : Nat → jv_E} (hX : jx_F E) {a1 a2 a3 a4 a5 : Int32} (s1 : xs (1 : Int32).toNatClampNeg = a1) (s2 : xs (2 : Int32).toNatClampNeg = a2) (s3 : xs (3 : Int32).toNatClampNeg = a3) (s4 : xs (4 : Int32).toNatClampNeg = a4) (s5 : xs (5 : Int32).toNatClampNeg = a5) : jv_V l D vwCl kp G 84 99182 84 E 553 [(3, .int 0), (2, .ref 58), (1, .ref 0), (0, .ref 1000000)] [] := by
  refine jv_aload_n C dL_law_553 2 rfl ?_
  refine jv_aload_n C dL_law_554 3 rfl ?_
  refine jv_iload_n C dL_law_555 0 rfl ?_
  refine jv_iconst (v := 1) C dL_law_556 (by decide) ?_
  refine jv_iadd C dL_law_557 ?_
  refine jv_ti (y := 1) (by decide) ?_
  refine jv_sld C SS (jv_vi (by decide)) dL_law_558 ?_
  refine jv_ti (y := a1) s1 ?_
  refine jv_aload_n C dL_law_559 3 rfl ?_
  refine jv_iload_n C dL_law_560 0 rfl ?_
  refine jv_iconst (v := 2) C dL_law_561 (by decide) ?_
  refine jv_iadd C dL_law_562 ?_
  refine jv_ti (y := 2) (by decide) ?_
  refine jv_sld C SS (jv_vi (by decide)) dL_law_563 ?_
  refine jv_ti (y := a2) s2 ?_
  refine jv_callV (na := 2) (As := [.int a1, .int a2]) (st := []) C (c_X8_shift l D kp (xf_0 hX) (xf_1 hX) a1 a2 ) gL_law_X8_shift rfl (by decide) (xf_0 hX) rfl rfl rfl q_X8_shift rfl ⟨by decide, by decide⟩ ⟨by decide, by decide⟩ (fun _ h => absurd h List.not_mem_nil) (Nat.le_of_ble_eq_true rfl) rfl dL_law_564 (fun r n1 E_1 hp _ => ?_)
  obtain ⟨rfl, rfl, rfl⟩ := hp
  show jv_V l D vwCl kp G 84 99182 84 E 567 [(3, .int 0), (2, .ref 58), (1, .ref 0), (0, .ref 1000000)] [.int (-2)]
  refine jv_aload_n C dL_law_567 1 rfl ?_
  refine jv_aload_n C dL_law_568 3 rfl ?_
  refine jv_iload_n C dL_law_569 0 rfl ?_
  refine jv_iconst (v := 1) C dL_law_570 (by decide) ?_
  refine jv_iadd C dL_law_571 ?_
  refine jv_ti (y := 1) (by decide) ?_
  refine jv_sld C SS (jv_vi (by decide)) dL_law_572 ?_
  refine jv_ti (y := a1) s1 ?_
  refine jv_aload_n C dL_law_573 3 rfl ?_
  refine jv_iload_n C dL_law_574 0 rfl ?_
  refine jv_iconst (v := 2) C dL_law_575 (by decide) ?_
  refine jv_iadd C dL_law_576 ?_
  refine jv_ti (y := 2) (by decide) ?_
  refine jv_sld C SS (jv_vi (by decide)) dL_law_577 ?_
  refine jv_ti (y := a2) s2 ?_
  refine jv_callV (na := 2) (As := [.int a1, .int a2]) (st := [.int (-2)]) C (c_X9_shift l D kp (xf_58 hX) (xf_65 hX) a1 a2 ) gL_law_X9_shift rfl (by decide) (xf_58 hX) rfl rfl rfl q_X9_shift rfl ⟨by decide, by decide⟩ ⟨by decide, by decide⟩ (fun _ h => absurd h List.not_mem_nil) (Nat.le_of_ble_eq_true rfl) rfl dL_law_578 (fun r n1 E_2 hp _ => ?_)
  cases hp
  show jv_V l D vwCl kp G 84 99182 n1 E_2 581 [(3, .int 0), (2, .ref 58), (1, .ref 0), (0, .ref 1000000)] [.int (-2), .int (-2)]
  refine jv_icmp_eq (tgt := 2064) C dL_law_581 (by decide) (fun _ => ?_) (fun h => absurd (by decide) h)
  exact law_tail C hnl SS QQ 84 99182 n1 (by decide) (by decide) E_2
theorem q_X8_keeps : yX8_keeps.cls ≠ "java/lang/invoke/MethodHandle" ∧ yX8_keeps.cls ≠ "java/lang/invoke/VarHandle" ∧ (parseMethodDescriptor yX8_keeps.desc).map (fun d => d.parameters.length) = some 0 := by decide +kernel
theorem q_X9_keeps : yX9_keeps.cls ≠ "java/lang/invoke/MethodHandle" ∧ yX9_keeps.cls ≠ "java/lang/invoke/VarHandle" ∧ (parseMethodDescriptor yX9_keeps.desc).map (fun d => d.parameters.length) = some 0 := by decide +kernel
set_option maxRecDepth 100000 in
set_option maxHeartbeats 8000000 in
theorem law_10 {l : Launch} {D : va_G} {kp : Nat → ClassId} {G : jv_G} {xs : Nat → Int32} (C : jv_C D vwCl kp G cL_law RL wsL_law room_1 jx_N) (hnl : jv_nL G = 4) (SS : jv_S G 6 xs) (QQ : jv_end l D vwCl kp G) {E : Nat → jv_E} (hX : jx_F E) {a1 a2 a3 a4 a5 : Int32} (s1 : xs (1 : Int32).toNatClampNeg = a1) (s2 : xs (2 : Int32).toNatClampNeg = a2) (s3 : xs (3 : Int32).toNatClampNeg = a3) (s4 : xs (4 : Int32).toNatClampNeg = a4) (s5 : xs (5 : Int32).toNatClampNeg = a5) : jv_V l D vwCl kp G 84 99182 84 E 586 [(3, .int 0), (2, .ref 58), (1, .ref 0), (0, .ref 1000000)] [] := by
  refine jv_aload_n C dL_law_586 2 rfl ?_
  refine jv_callV (na := 0) (As := []) (st := []) C (c_X8_keeps l D kp (xf_0 hX) (xf_1 hX)  ) gL_law_X8_keeps rfl (by decide) (xf_0 hX) rfl rfl rfl q_X8_keeps rfl ⟨by decide, by decide⟩ ⟨by decide, by decide⟩ (fun _ h => absurd h List.not_mem_nil) (Nat.le_of_ble_eq_true rfl) rfl dL_law_587 (fun r n1 E_1 hp _ => ?_)
  obtain ⟨rfl, rfl, rfl⟩ := hp
  show jv_V l D vwCl kp G 84 99182 84 E 590 [(3, .int 0), (2, .ref 58), (1, .ref 0), (0, .ref 1000000)] [.int (-2)]
  refine jv_aload_n C dL_law_590 1 rfl ?_
  refine jv_callV (na := 0) (As := []) (st := [.int (-2)]) C (c_X9_keeps l D kp (xf_58 hX) (xf_65 hX)  ) gL_law_X9_keeps rfl (by decide) (xf_58 hX) rfl rfl rfl q_X9_keeps rfl ⟨by decide, by decide⟩ ⟨by decide, by decide⟩ (fun _ h => absurd h List.not_mem_nil) (Nat.le_of_ble_eq_true rfl) rfl dL_law_591 (fun r n1 E_2 hp _ => ?_)
  cases hp
  show jv_V l D vwCl kp G 84 99182 n1 E_2 594 [(3, .int 0), (2, .ref 58), (1, .ref 0), (0, .ref 1000000)] [.int (-2), .int (-2)]
  refine jv_icmp_eq (tgt := 2064) C dL_law_594 (by decide) (fun _ => ?_) (fun h => absurd (by decide) h)
  exact law_tail C hnl SS QQ 84 99182 n1 (by decide) (by decide) E_2
theorem q_X8_clash : yX8_clash.cls ≠ "java/lang/invoke/MethodHandle" ∧ yX8_clash.cls ≠ "java/lang/invoke/VarHandle" ∧ (parseMethodDescriptor yX8_clash.desc).map (fun d => d.parameters.length) = some 1 := by decide +kernel
theorem q_X9_clash : yX9_clash.cls ≠ "java/lang/invoke/MethodHandle" ∧ yX9_clash.cls ≠ "java/lang/invoke/VarHandle" ∧ (parseMethodDescriptor yX9_clash.desc).map (fun d => d.parameters.length) = some 1 := by decide +kernel
set_option maxRecDepth 100000 in
set_option maxHeartbeats 8000000 in
theorem law_11 {l : Launch} {D : va_G} {kp : Nat → ClassId} {G : jv_G} {xs : Nat → Int32} (C : jv_C D vwCl kp G cL_law RL wsL_law room_1 jx_N) (hnl : jv_nL G = 4) (SS : jv_S G 6 xs) (QQ : jv_end l D vwCl kp G) {E : Nat → jv_E} (hX : jx_F E) {a1 a2 a3 a4 a5 : Int32} (s1 : xs (1 : Int32).toNatClampNeg = a1) (s2 : xs (2 : Int32).toNatClampNeg = a2) (s3 : xs (3 : Int32).toNatClampNeg = a3) (s4 : xs (4 : Int32).toNatClampNeg = a4) (s5 : xs (5 : Int32).toNatClampNeg = a5) : jv_V l D vwCl kp G 84 99182 84 E 599 [(3, .int 0), (2, .ref 58), (1, .ref 0), (0, .ref 1000000)] [] := by
  refine jv_aload_n C dL_law_599 2 rfl ?_
  refine jv_aload_n C dL_law_600 3 rfl ?_
  refine jv_iload_n C dL_law_601 0 rfl ?_
  refine jv_iconst (v := 1) C dL_law_602 (by decide) ?_
  refine jv_iadd C dL_law_603 ?_
  refine jv_ti (y := 1) (by decide) ?_
  refine jv_sld C SS (jv_vi (by decide)) dL_law_604 ?_
  refine jv_ti (y := a1) s1 ?_
  refine jv_callV (na := 1) (As := [.int a1]) (st := []) C (c_X8_clash l D kp (xf_0 hX) (xf_1 hX) a1 ) gL_law_X8_clash rfl (by decide) (xf_0 hX) rfl rfl rfl q_X8_clash rfl ⟨by decide, by decide⟩ ⟨by decide, by decide⟩ (fun _ h => absurd h List.not_mem_nil) (Nat.le_of_ble_eq_true rfl) rfl dL_law_605 (fun r n1 E_1 hp _ => ?_)
  obtain ⟨rfl, rfl, rfl⟩ := hp
  show jv_V l D vwCl kp G 84 99182 84 E 608 [(3, .int 0), (2, .ref 58), (1, .ref 0), (0, .ref 1000000)] [.int (-2)]
  refine jv_aload_n C dL_law_608 1 rfl ?_
  refine jv_aload_n C dL_law_609 3 rfl ?_
  refine jv_iload_n C dL_law_610 0 rfl ?_
  refine jv_iconst (v := 1) C dL_law_611 (by decide) ?_
  refine jv_iadd C dL_law_612 ?_
  refine jv_ti (y := 1) (by decide) ?_
  refine jv_sld C SS (jv_vi (by decide)) dL_law_613 ?_
  refine jv_ti (y := a1) s1 ?_
  refine jv_callV (na := 1) (As := [.int a1]) (st := [.int (-2)]) C (c_X9_clash l D kp (xf_58 hX) (xf_65 hX) a1 ) gL_law_X9_clash rfl (by decide) (xf_58 hX) rfl rfl rfl q_X9_clash rfl ⟨by decide, by decide⟩ ⟨by decide, by decide⟩ (fun _ h => absurd h List.not_mem_nil) (Nat.le_of_ble_eq_true rfl) rfl dL_law_614 (fun r n1 E_2 hp _ => ?_)
  cases hp
  show jv_V l D vwCl kp G 84 99182 n1 E_2 617 [(3, .int 0), (2, .ref 58), (1, .ref 0), (0, .ref 1000000)] [.int (-2), .int (-2)]
  refine jv_icmp_eq (tgt := 2064) C dL_law_617 (by decide) (fun _ => ?_) (fun h => absurd (by decide) h)
  exact law_tail C hnl SS QQ 84 99182 n1 (by decide) (by decide) E_2
theorem q_X8_balls : yX8_balls.cls ≠ "java/lang/invoke/MethodHandle" ∧ yX8_balls.cls ≠ "java/lang/invoke/VarHandle" ∧ (parseMethodDescriptor yX8_balls.desc).map (fun d => d.parameters.length) = some 0 := by decide +kernel
theorem q_X9_balls : yX9_balls.cls ≠ "java/lang/invoke/MethodHandle" ∧ yX9_balls.cls ≠ "java/lang/invoke/VarHandle" ∧ (parseMethodDescriptor yX9_balls.desc).map (fun d => d.parameters.length) = some 0 := by decide +kernel
set_option maxRecDepth 100000 in
set_option maxHeartbeats 8000000 in
theorem law_12 {l : Launch} {D : va_G} {kp : Nat → ClassId} {G : jv_G} {xs : Nat → Int32} (C : jv_C D vwCl kp G cL_law RL wsL_law room_1 jx_N) (hnl : jv_nL G = 4) (SS : jv_S G 6 xs) (QQ : jv_end l D vwCl kp G) {E : Nat → jv_E} (hX : jx_F E) {a1 a2 a3 a4 a5 : Int32} (s1 : xs (1 : Int32).toNatClampNeg = a1) (s2 : xs (2 : Int32).toNatClampNeg = a2) (s3 : xs (3 : Int32).toNatClampNeg = a3) (s4 : xs (4 : Int32).toNatClampNeg = a4) (s5 : xs (5 : Int32).toNatClampNeg = a5) : jv_V l D vwCl kp G 84 99182 84 E 622 [(3, .int 0), (2, .ref 58), (1, .ref 0), (0, .ref 1000000)] [] := by
  refine jv_aload_n C dL_law_622 2 rfl ?_
  refine jv_callV (na := 0) (As := []) (st := []) C (c_X8_balls l D kp (xf_0 hX) (xf_1 hX)  ) gL_law_X8_balls rfl (by decide) (xf_0 hX) rfl rfl rfl q_X8_balls rfl ⟨by decide, by decide⟩ ⟨by decide, by decide⟩ (fun _ h => absurd h List.not_mem_nil) (Nat.le_of_ble_eq_true rfl) rfl dL_law_623 (fun r n1 E_1 hp _ => ?_)
  obtain ⟨rfl, rfl, rfl⟩ := hp
  show jv_V l D vwCl kp G 84 99182 84 E 626 [(3, .int 0), (2, .ref 58), (1, .ref 0), (0, .ref 1000000)] [.int (-2)]
  refine jv_aload_n C dL_law_626 1 rfl ?_
  refine jv_callV (na := 0) (As := []) (st := [.int (-2)]) C (c_X9_balls l D kp (xf_58 hX) (xf_65 hX)  ) gL_law_X9_balls rfl (by decide) (xf_58 hX) rfl rfl rfl q_X9_balls rfl ⟨by decide, by decide⟩ ⟨by decide, by decide⟩ (fun _ h => absurd h List.not_mem_nil) (Nat.le_of_ble_eq_true rfl) rfl dL_law_627 (fun r n1 E_2 hp _ => ?_)
  cases hp
  show jv_V l D vwCl kp G 84 99182 n1 E_2 630 [(3, .int 0), (2, .ref 58), (1, .ref 0), (0, .ref 1000000)] [.int (-2), .int (-2)]
  refine jv_icmp_eq (tgt := 2064) C dL_law_630 (by decide) (fun _ => ?_) (fun h => absurd (by decide) h)
  exact law_tail C hnl SS QQ 84 99182 n1 (by decide) (by decide) E_2
theorem q_X8_lands : yX8_lands.cls ≠ "java/lang/invoke/MethodHandle" ∧ yX8_lands.cls ≠ "java/lang/invoke/VarHandle" ∧ (parseMethodDescriptor yX8_lands.desc).map (fun d => d.parameters.length) = some 2 := by decide +kernel
theorem q_X9_lands : yX9_lands.cls ≠ "java/lang/invoke/MethodHandle" ∧ yX9_lands.cls ≠ "java/lang/invoke/VarHandle" ∧ (parseMethodDescriptor yX9_lands.desc).map (fun d => d.parameters.length) = some 2 := by decide +kernel
set_option maxRecDepth 100000 in
set_option maxHeartbeats 8000000 in
theorem law_13 {l : Launch} {D : va_G} {kp : Nat → ClassId} {G : jv_G} {xs : Nat → Int32} (C : jv_C D vwCl kp G cL_law RL wsL_law room_1 jx_N) (hnl : jv_nL G = 4) (SS : jv_S G 6 xs) (QQ : jv_end l D vwCl kp G) {E : Nat → jv_E} (hX : jx_F E) {a1 a2 a3 a4 a5 : Int32} (s1 : xs (1 : Int32).toNatClampNeg = a1) (s2 : xs (2 : Int32).toNatClampNeg = a2) (s3 : xs (3 : Int32).toNatClampNeg = a3) (s4 : xs (4 : Int32).toNatClampNeg = a4) (s5 : xs (5 : Int32).toNatClampNeg = a5) : jv_V l D vwCl kp G 84 99182 84 E 635 [(3, .int 0), (2, .ref 58), (1, .ref 0), (0, .ref 1000000)] [] := by
  refine jv_aload_n C dL_law_635 2 rfl ?_
  refine jv_aload_n C dL_law_636 3 rfl ?_
  refine jv_iload_n C dL_law_637 0 rfl ?_
  refine jv_iconst (v := 1) C dL_law_638 (by decide) ?_
  refine jv_iadd C dL_law_639 ?_
  refine jv_ti (y := 1) (by decide) ?_
  refine jv_sld C SS (jv_vi (by decide)) dL_law_640 ?_
  refine jv_ti (y := a1) s1 ?_
  refine jv_aload_n C dL_law_641 3 rfl ?_
  refine jv_iload_n C dL_law_642 0 rfl ?_
  refine jv_iconst (v := 2) C dL_law_643 (by decide) ?_
  refine jv_iadd C dL_law_644 ?_
  refine jv_ti (y := 2) (by decide) ?_
  refine jv_sld C SS (jv_vi (by decide)) dL_law_645 ?_
  refine jv_ti (y := a2) s2 ?_
  refine jv_callV (na := 2) (As := [.int a1, .int a2]) (st := []) C (c_X8_lands l D kp (xf_0 hX) (xf_1 hX) a1 a2 ) gL_law_X8_lands rfl (by decide) (xf_0 hX) rfl rfl rfl q_X8_lands rfl ⟨by decide, by decide⟩ ⟨by decide, by decide⟩ (fun _ h => absurd h List.not_mem_nil) (Nat.le_of_ble_eq_true rfl) rfl dL_law_646 (fun r n1 E_1 hp _ => ?_)
  obtain ⟨rfl, rfl, rfl⟩ := hp
  show jv_V l D vwCl kp G 84 99182 84 E 649 [(3, .int 0), (2, .ref 58), (1, .ref 0), (0, .ref 1000000)] [.int (-2)]
  refine jv_aload_n C dL_law_649 1 rfl ?_
  refine jv_aload_n C dL_law_650 3 rfl ?_
  refine jv_iload_n C dL_law_651 0 rfl ?_
  refine jv_iconst (v := 1) C dL_law_652 (by decide) ?_
  refine jv_iadd C dL_law_653 ?_
  refine jv_ti (y := 1) (by decide) ?_
  refine jv_sld C SS (jv_vi (by decide)) dL_law_654 ?_
  refine jv_ti (y := a1) s1 ?_
  refine jv_aload_n C dL_law_655 3 rfl ?_
  refine jv_iload_n C dL_law_656 0 rfl ?_
  refine jv_iconst (v := 2) C dL_law_657 (by decide) ?_
  refine jv_iadd C dL_law_658 ?_
  refine jv_ti (y := 2) (by decide) ?_
  refine jv_sld C SS (jv_vi (by decide)) dL_law_659 ?_
  refine jv_ti (y := a2) s2 ?_
  refine jv_callV (na := 2) (As := [.int a1, .int a2]) (st := [.int (-2)]) C (c_X9_lands l D kp (xf_58 hX) (xf_65 hX) a1 a2 ) gL_law_X9_lands rfl (by decide) (xf_58 hX) rfl rfl rfl q_X9_lands rfl ⟨by decide, by decide⟩ ⟨by decide, by decide⟩ (fun _ h => absurd h List.not_mem_nil) (Nat.le_of_ble_eq_true rfl) rfl dL_law_660 (fun r n1 E_2 hp _ => ?_)
  cases hp
  show jv_V l D vwCl kp G 84 99182 n1 E_2 663 [(3, .int 0), (2, .ref 58), (1, .ref 0), (0, .ref 1000000)] [.int (-2), .int (-2)]
  refine jv_icmp_eq (tgt := 2064) C dL_law_663 (by decide) (fun _ => ?_) (fun h => absurd (by decide) h)
  exact law_tail C hnl SS QQ 84 99182 n1 (by decide) (by decide) E_2
theorem q_X8_air : yX8_air.cls ≠ "java/lang/invoke/MethodHandle" ∧ yX8_air.cls ≠ "java/lang/invoke/VarHandle" ∧ (parseMethodDescriptor yX8_air.desc).map (fun d => d.parameters.length) = some 1 := by decide +kernel
theorem q_X9_air : yX9_air.cls ≠ "java/lang/invoke/MethodHandle" ∧ yX9_air.cls ≠ "java/lang/invoke/VarHandle" ∧ (parseMethodDescriptor yX9_air.desc).map (fun d => d.parameters.length) = some 1 := by decide +kernel
set_option maxRecDepth 100000 in
set_option maxHeartbeats 8000000 in
theorem law_14 {l : Launch} {D : va_G} {kp : Nat → ClassId} {G : jv_G} {xs : Nat → Int32} (C : jv_C D vwCl kp G cL_law RL wsL_law room_1 jx_N) (hnl : jv_nL G = 4) (SS : jv_S G 6 xs) (QQ : jv_end l D vwCl kp G) {E : Nat → jv_E} (hX : jx_F E) {a1 a2 a3 a4 a5 : Int32} (s1 : xs (1 : Int32).toNatClampNeg = a1) (s2 : xs (2 : Int32).toNatClampNeg = a2) (s3 : xs (3 : Int32).toNatClampNeg = a3) (s4 : xs (4 : Int32).toNatClampNeg = a4) (s5 : xs (5 : Int32).toNatClampNeg = a5) : jv_V l D vwCl kp G 84 99182 84 E 668 [(3, .int 0), (2, .ref 58), (1, .ref 0), (0, .ref 1000000)] [] := by
  refine jv_aload_n C dL_law_668 2 rfl ?_
  refine jv_aload_n C dL_law_669 3 rfl ?_
  refine jv_iload_n C dL_law_670 0 rfl ?_
  refine jv_iconst (v := 1) C dL_law_671 (by decide) ?_
  refine jv_iadd C dL_law_672 ?_
  refine jv_ti (y := 1) (by decide) ?_
  refine jv_sld C SS (jv_vi (by decide)) dL_law_673 ?_
  refine jv_ti (y := a1) s1 ?_
  refine jv_callV (na := 1) (As := [.int a1]) (st := []) C (c_X8_air l D kp (xf_0 hX) (xf_1 hX) a1 ) gL_law_X8_air rfl (by decide) (xf_0 hX) rfl rfl rfl q_X8_air rfl ⟨by decide, by decide⟩ ⟨by decide, by decide⟩ (fun _ h => absurd h List.not_mem_nil) (Nat.le_of_ble_eq_true rfl) rfl dL_law_674 (fun r n1 E_1 hp _ => ?_)
  obtain ⟨rfl, rfl, rfl⟩ := hp
  show jv_V l D vwCl kp G 84 99182 84 E 677 [(3, .int 0), (2, .ref 58), (1, .ref 0), (0, .ref 1000000)] [.int (-2)]
  refine jv_aload_n C dL_law_677 1 rfl ?_
  refine jv_aload_n C dL_law_678 3 rfl ?_
  refine jv_iload_n C dL_law_679 0 rfl ?_
  refine jv_iconst (v := 1) C dL_law_680 (by decide) ?_
  refine jv_iadd C dL_law_681 ?_
  refine jv_ti (y := 1) (by decide) ?_
  refine jv_sld C SS (jv_vi (by decide)) dL_law_682 ?_
  refine jv_ti (y := a1) s1 ?_
  refine jv_callV (na := 1) (As := [.int a1]) (st := [.int (-2)]) C (c_X9_air l D kp (xf_58 hX) (xf_65 hX) a1 ) gL_law_X9_air rfl (by decide) (xf_58 hX) rfl rfl rfl q_X9_air rfl ⟨by decide, by decide⟩ ⟨by decide, by decide⟩ (fun _ h => absurd h List.not_mem_nil) (Nat.le_of_ble_eq_true rfl) rfl dL_law_683 (fun r n1 E_2 hp _ => ?_)
  cases hp
  show jv_V l D vwCl kp G 84 99182 n1 E_2 686 [(3, .int 0), (2, .ref 58), (1, .ref 0), (0, .ref 1000000)] [.int (-2), .int (-2)]
  refine jv_icmp_eq (tgt := 2064) C dL_law_686 (by decide) (fun _ => ?_) (fun h => absurd (by decide) h)
  exact law_tail C hnl SS QQ 84 99182 n1 (by decide) (by decide) E_2
theorem q_X8_ball : yX8_ball.cls ≠ "java/lang/invoke/MethodHandle" ∧ yX8_ball.cls ≠ "java/lang/invoke/VarHandle" ∧ (parseMethodDescriptor yX8_ball.desc).map (fun d => d.parameters.length) = some 4 := by decide +kernel
theorem q_X9_ball : yX9_ball.cls ≠ "java/lang/invoke/MethodHandle" ∧ yX9_ball.cls ≠ "java/lang/invoke/VarHandle" ∧ (parseMethodDescriptor yX9_ball.desc).map (fun d => d.parameters.length) = some 4 := by decide +kernel
set_option maxRecDepth 100000 in
set_option maxHeartbeats 8000000 in
theorem law_15 {l : Launch} {D : va_G} {kp : Nat → ClassId} {G : jv_G} {xs : Nat → Int32} (C : jv_C D vwCl kp G cL_law RL wsL_law room_1 jx_N) (hnl : jv_nL G = 4) (SS : jv_S G 6 xs) (QQ : jv_end l D vwCl kp G) {E : Nat → jv_E} (hX : jx_F E) {a1 a2 a3 a4 a5 : Int32} (s1 : xs (1 : Int32).toNatClampNeg = a1) (s2 : xs (2 : Int32).toNatClampNeg = a2) (s3 : xs (3 : Int32).toNatClampNeg = a3) (s4 : xs (4 : Int32).toNatClampNeg = a4) (s5 : xs (5 : Int32).toNatClampNeg = a5) : jv_V l D vwCl kp G 84 99182 84 E 691 [(3, .int 0), (2, .ref 58), (1, .ref 0), (0, .ref 1000000)] [] := by
  refine jv_aload_n C dL_law_691 2 rfl ?_
  refine jv_aload_n C dL_law_692 3 rfl ?_
  refine jv_iload_n C dL_law_693 0 rfl ?_
  refine jv_iconst (v := 1) C dL_law_694 (by decide) ?_
  refine jv_iadd C dL_law_695 ?_
  refine jv_ti (y := 1) (by decide) ?_
  refine jv_sld C SS (jv_vi (by decide)) dL_law_696 ?_
  refine jv_ti (y := a1) s1 ?_
  refine jv_aload_n C dL_law_697 3 rfl ?_
  refine jv_iload_n C dL_law_698 0 rfl ?_
  refine jv_iconst (v := 2) C dL_law_699 (by decide) ?_
  refine jv_iadd C dL_law_700 ?_
  refine jv_ti (y := 2) (by decide) ?_
  refine jv_sld C SS (jv_vi (by decide)) dL_law_701 ?_
  refine jv_ti (y := a2) s2 ?_
  refine jv_aload_n C dL_law_702 3 rfl ?_
  refine jv_iload_n C dL_law_703 0 rfl ?_
  refine jv_iconst (v := 3) C dL_law_704 (by decide) ?_
  refine jv_iadd C dL_law_705 ?_
  refine jv_ti (y := 3) (by decide) ?_
  refine jv_sld C SS (jv_vi (by decide)) dL_law_706 ?_
  refine jv_ti (y := a3) s3 ?_
  refine jv_aload_n C dL_law_707 3 rfl ?_
  refine jv_iload_n C dL_law_708 0 rfl ?_
  refine jv_iconst (v := 4) C dL_law_709 (by decide) ?_
  refine jv_iadd C dL_law_710 ?_
  refine jv_ti (y := 4) (by decide) ?_
  refine jv_sld C SS (jv_vi (by decide)) dL_law_711 ?_
  refine jv_ti (y := a4) s4 ?_
  refine jv_callV (na := 4) (As := [.int a1, .int a2, .int a3, .int a4]) (st := []) C (c_X8_ball l D kp (xf_0 hX) (xf_1 hX) a1 a2 a3 a4 ) gL_law_X8_ball rfl (by decide) (xf_0 hX) rfl rfl rfl q_X8_ball rfl ⟨by decide, by decide⟩ ⟨by decide, by decide⟩ (fun _ h => absurd h List.not_mem_nil) (Nat.le_of_ble_eq_true rfl) rfl dL_law_712 (fun r n1 E_1 hp _ => ?_)
  obtain ⟨rfl, rfl, rfl⟩ := hp
  show jv_V l D vwCl kp G 84 99182 84 E 715 [(3, .int 0), (2, .ref 58), (1, .ref 0), (0, .ref 1000000)] [.int (-2)]
  refine jv_aload_n C dL_law_715 1 rfl ?_
  refine jv_aload_n C dL_law_716 3 rfl ?_
  refine jv_iload_n C dL_law_717 0 rfl ?_
  refine jv_iconst (v := 1) C dL_law_718 (by decide) ?_
  refine jv_iadd C dL_law_719 ?_
  refine jv_ti (y := 1) (by decide) ?_
  refine jv_sld C SS (jv_vi (by decide)) dL_law_720 ?_
  refine jv_ti (y := a1) s1 ?_
  refine jv_aload_n C dL_law_721 3 rfl ?_
  refine jv_iload_n C dL_law_722 0 rfl ?_
  refine jv_iconst (v := 2) C dL_law_723 (by decide) ?_
  refine jv_iadd C dL_law_724 ?_
  refine jv_ti (y := 2) (by decide) ?_
  refine jv_sld C SS (jv_vi (by decide)) dL_law_725 ?_
  refine jv_ti (y := a2) s2 ?_
  refine jv_aload_n C dL_law_726 3 rfl ?_
  refine jv_iload_n C dL_law_727 0 rfl ?_
  refine jv_iconst (v := 3) C dL_law_728 (by decide) ?_
  refine jv_iadd C dL_law_729 ?_
  refine jv_ti (y := 3) (by decide) ?_
  refine jv_sld C SS (jv_vi (by decide)) dL_law_730 ?_
  refine jv_ti (y := a3) s3 ?_
  refine jv_aload_n C dL_law_731 3 rfl ?_
  refine jv_iload_n C dL_law_732 0 rfl ?_
  refine jv_iconst (v := 4) C dL_law_733 (by decide) ?_
  refine jv_iadd C dL_law_734 ?_
  refine jv_ti (y := 4) (by decide) ?_
  refine jv_sld C SS (jv_vi (by decide)) dL_law_735 ?_
  refine jv_ti (y := a4) s4 ?_
  refine jv_callV (na := 4) (As := [.int a1, .int a2, .int a3, .int a4]) (st := [.int (-2)]) C (c_X9_ball l D kp (xf_58 hX) (xf_65 hX) a1 a2 a3 a4 ) gL_law_X9_ball rfl (by decide) (xf_58 hX) rfl rfl rfl q_X9_ball rfl ⟨by decide, by decide⟩ ⟨by decide, by decide⟩ (fun _ h => absurd h List.not_mem_nil) (Nat.le_of_ble_eq_true rfl) rfl dL_law_736 (fun r n1 E_2 hp _ => ?_)
  cases hp
  show jv_V l D vwCl kp G 84 99182 n1 E_2 739 [(3, .int 0), (2, .ref 58), (1, .ref 0), (0, .ref 1000000)] [.int (-2), .int (-2)]
  refine jv_icmp_eq (tgt := 2064) C dL_law_739 (by decide) (fun _ => ?_) (fun h => absurd (by decide) h)
  exact law_tail C hnl SS QQ 84 99182 n1 (by decide) (by decide) E_2
theorem q_X8_orbit : yX8_orbit.cls ≠ "java/lang/invoke/MethodHandle" ∧ yX8_orbit.cls ≠ "java/lang/invoke/VarHandle" ∧ (parseMethodDescriptor yX8_orbit.desc).map (fun d => d.parameters.length) = some 3 := by decide +kernel
theorem q_X9_orbit : yX9_orbit.cls ≠ "java/lang/invoke/MethodHandle" ∧ yX9_orbit.cls ≠ "java/lang/invoke/VarHandle" ∧ (parseMethodDescriptor yX9_orbit.desc).map (fun d => d.parameters.length) = some 3 := by decide +kernel
set_option maxRecDepth 100000 in
set_option maxHeartbeats 8000000 in
theorem law_16 {l : Launch} {D : va_G} {kp : Nat → ClassId} {G : jv_G} {xs : Nat → Int32} (C : jv_C D vwCl kp G cL_law RL wsL_law room_1 jx_N) (hnl : jv_nL G = 4) (SS : jv_S G 6 xs) (QQ : jv_end l D vwCl kp G) {E : Nat → jv_E} (hX : jx_F E) {a1 a2 a3 a4 a5 : Int32} (s1 : xs (1 : Int32).toNatClampNeg = a1) (s2 : xs (2 : Int32).toNatClampNeg = a2) (s3 : xs (3 : Int32).toNatClampNeg = a3) (s4 : xs (4 : Int32).toNatClampNeg = a4) (s5 : xs (5 : Int32).toNatClampNeg = a5) : jv_V l D vwCl kp G 84 99182 84 E 744 [(3, .int 0), (2, .ref 58), (1, .ref 0), (0, .ref 1000000)] [] := by
  refine jv_aload_n C dL_law_744 2 rfl ?_
  refine jv_aload_n C dL_law_745 3 rfl ?_
  refine jv_iload_n C dL_law_746 0 rfl ?_
  refine jv_iconst (v := 1) C dL_law_747 (by decide) ?_
  refine jv_iadd C dL_law_748 ?_
  refine jv_ti (y := 1) (by decide) ?_
  refine jv_sld C SS (jv_vi (by decide)) dL_law_749 ?_
  refine jv_ti (y := a1) s1 ?_
  refine jv_aload_n C dL_law_750 3 rfl ?_
  refine jv_iload_n C dL_law_751 0 rfl ?_
  refine jv_iconst (v := 2) C dL_law_752 (by decide) ?_
  refine jv_iadd C dL_law_753 ?_
  refine jv_ti (y := 2) (by decide) ?_
  refine jv_sld C SS (jv_vi (by decide)) dL_law_754 ?_
  refine jv_ti (y := a2) s2 ?_
  refine jv_aload_n C dL_law_755 3 rfl ?_
  refine jv_iload_n C dL_law_756 0 rfl ?_
  refine jv_iconst (v := 3) C dL_law_757 (by decide) ?_
  refine jv_iadd C dL_law_758 ?_
  refine jv_ti (y := 3) (by decide) ?_
  refine jv_sld C SS (jv_vi (by decide)) dL_law_759 ?_
  refine jv_ti (y := a3) s3 ?_
  refine jv_callV (na := 3) (As := [.int a1, .int a2, .int a3]) (st := []) C (c_X8_orbit l D kp (xf_0 hX) (xf_1 hX) a1 a2 a3 ) gL_law_X8_orbit rfl (by decide) (xf_0 hX) rfl rfl rfl q_X8_orbit rfl ⟨by decide, by decide⟩ ⟨by decide, by decide⟩ (fun _ h => absurd h List.not_mem_nil) (Nat.le_of_ble_eq_true rfl) rfl dL_law_760 (fun r n1 E_1 hp _ => ?_)
  obtain ⟨rfl, rfl, rfl⟩ := hp
  show jv_V l D vwCl kp G 84 99182 84 E 763 [(3, .int 0), (2, .ref 58), (1, .ref 0), (0, .ref 1000000)] [.int (-2)]
  refine jv_aload_n C dL_law_763 1 rfl ?_
  refine jv_aload_n C dL_law_764 3 rfl ?_
  refine jv_iload_n C dL_law_765 0 rfl ?_
  refine jv_iconst (v := 1) C dL_law_766 (by decide) ?_
  refine jv_iadd C dL_law_767 ?_
  refine jv_ti (y := 1) (by decide) ?_
  refine jv_sld C SS (jv_vi (by decide)) dL_law_768 ?_
  refine jv_ti (y := a1) s1 ?_
  refine jv_aload_n C dL_law_769 3 rfl ?_
  refine jv_iload_n C dL_law_770 0 rfl ?_
  refine jv_iconst (v := 2) C dL_law_771 (by decide) ?_
  refine jv_iadd C dL_law_772 ?_
  refine jv_ti (y := 2) (by decide) ?_
  refine jv_sld C SS (jv_vi (by decide)) dL_law_773 ?_
  refine jv_ti (y := a2) s2 ?_
  refine jv_aload_n C dL_law_774 3 rfl ?_
  refine jv_iload_n C dL_law_775 0 rfl ?_
  refine jv_iconst (v := 3) C dL_law_776 (by decide) ?_
  refine jv_iadd C dL_law_777 ?_
  refine jv_ti (y := 3) (by decide) ?_
  refine jv_sld C SS (jv_vi (by decide)) dL_law_778 ?_
  refine jv_ti (y := a3) s3 ?_
  refine jv_callV (na := 3) (As := [.int a1, .int a2, .int a3]) (st := [.int (-2)]) C (c_X9_orbit l D kp (xf_58 hX) (xf_65 hX) a1 a2 a3 ) gL_law_X9_orbit rfl (by decide) (xf_58 hX) rfl rfl rfl q_X9_orbit rfl ⟨by decide, by decide⟩ ⟨by decide, by decide⟩ (fun _ h => absurd h List.not_mem_nil) (Nat.le_of_ble_eq_true rfl) rfl dL_law_779 (fun r n1 E_2 hp _ => ?_)
  cases hp
  show jv_V l D vwCl kp G 84 99182 n1 E_2 782 [(3, .int 0), (2, .ref 58), (1, .ref 0), (0, .ref 1000000)] [.int (-2), .int (-2)]
  refine jv_icmp_eq (tgt := 2064) C dL_law_782 (by decide) (fun _ => ?_) (fun h => absurd (by decide) h)
  exact law_tail C hnl SS QQ 84 99182 n1 (by decide) (by decide) E_2
theorem q_X8_orbits : yX8_orbits.cls ≠ "java/lang/invoke/MethodHandle" ∧ yX8_orbits.cls ≠ "java/lang/invoke/VarHandle" ∧ (parseMethodDescriptor yX8_orbits.desc).map (fun d => d.parameters.length) = some 0 := by decide +kernel
theorem q_X9_orbits : yX9_orbits.cls ≠ "java/lang/invoke/MethodHandle" ∧ yX9_orbits.cls ≠ "java/lang/invoke/VarHandle" ∧ (parseMethodDescriptor yX9_orbits.desc).map (fun d => d.parameters.length) = some 0 := by decide +kernel
set_option maxRecDepth 100000 in
set_option maxHeartbeats 8000000 in
theorem law_17 {l : Launch} {D : va_G} {kp : Nat → ClassId} {G : jv_G} {xs : Nat → Int32} (C : jv_C D vwCl kp G cL_law RL wsL_law room_1 jx_N) (hnl : jv_nL G = 4) (SS : jv_S G 6 xs) (QQ : jv_end l D vwCl kp G) {E : Nat → jv_E} (hX : jx_F E) {a1 a2 a3 a4 a5 : Int32} (s1 : xs (1 : Int32).toNatClampNeg = a1) (s2 : xs (2 : Int32).toNatClampNeg = a2) (s3 : xs (3 : Int32).toNatClampNeg = a3) (s4 : xs (4 : Int32).toNatClampNeg = a4) (s5 : xs (5 : Int32).toNatClampNeg = a5) : jv_V l D vwCl kp G 84 99182 84 E 787 [(3, .int 0), (2, .ref 58), (1, .ref 0), (0, .ref 1000000)] [] := by
  refine jv_aload_n C dL_law_787 2 rfl ?_
  refine jv_callV (na := 0) (As := []) (st := []) C (c_X8_orbits l D kp (xf_0 hX) (xf_1 hX)  ) gL_law_X8_orbits rfl (by decide) (xf_0 hX) rfl rfl rfl q_X8_orbits rfl ⟨by decide, by decide⟩ ⟨by decide, by decide⟩ (fun _ h => absurd h List.not_mem_nil) (Nat.le_of_ble_eq_true rfl) rfl dL_law_788 (fun r n1 E_1 hp _ => ?_)
  obtain ⟨rfl, rfl, rfl⟩ := hp
  show jv_V l D vwCl kp G 84 99182 84 E 791 [(3, .int 0), (2, .ref 58), (1, .ref 0), (0, .ref 1000000)] [.int (-2)]
  refine jv_aload_n C dL_law_791 1 rfl ?_
  refine jv_callV (na := 0) (As := []) (st := [.int (-2)]) C (c_X9_orbits l D kp (xf_58 hX) (xf_65 hX)  ) gL_law_X9_orbits rfl (by decide) (xf_58 hX) rfl rfl rfl q_X9_orbits rfl ⟨by decide, by decide⟩ ⟨by decide, by decide⟩ (fun _ h => absurd h List.not_mem_nil) (Nat.le_of_ble_eq_true rfl) rfl dL_law_792 (fun r n1 E_2 hp _ => ?_)
  cases hp
  show jv_V l D vwCl kp G 84 99182 n1 E_2 795 [(3, .int 0), (2, .ref 58), (1, .ref 0), (0, .ref 1000000)] [.int (-2), .int (-2)]
  refine jv_icmp_eq (tgt := 2064) C dL_law_795 (by decide) (fun _ => ?_) (fun h => absurd (by decide) h)
  exact law_tail C hnl SS QQ 84 99182 n1 (by decide) (by decide) E_2
theorem q_X8_same : yX8_same.cls ≠ "java/lang/invoke/MethodHandle" ∧ yX8_same.cls ≠ "java/lang/invoke/VarHandle" ∧ (parseMethodDescriptor yX8_same.desc).map (fun d => d.parameters.length) = some 4 := by decide +kernel
theorem q_X9_same : yX9_same.cls ≠ "java/lang/invoke/MethodHandle" ∧ yX9_same.cls ≠ "java/lang/invoke/VarHandle" ∧ (parseMethodDescriptor yX9_same.desc).map (fun d => d.parameters.length) = some 4 := by decide +kernel
set_option maxRecDepth 100000 in
set_option maxHeartbeats 8000000 in
theorem law_18 {l : Launch} {D : va_G} {kp : Nat → ClassId} {G : jv_G} {xs : Nat → Int32} (C : jv_C D vwCl kp G cL_law RL wsL_law room_1 jx_N) (hnl : jv_nL G = 4) (SS : jv_S G 6 xs) (QQ : jv_end l D vwCl kp G) {E : Nat → jv_E} (hX : jx_F E) {a1 a2 a3 a4 a5 : Int32} (s1 : xs (1 : Int32).toNatClampNeg = a1) (s2 : xs (2 : Int32).toNatClampNeg = a2) (s3 : xs (3 : Int32).toNatClampNeg = a3) (s4 : xs (4 : Int32).toNatClampNeg = a4) (s5 : xs (5 : Int32).toNatClampNeg = a5) : jv_V l D vwCl kp G 84 99182 84 E 800 [(3, .int 0), (2, .ref 58), (1, .ref 0), (0, .ref 1000000)] [] := by
  refine jv_aload_n C dL_law_800 2 rfl ?_
  refine jv_aload_n C dL_law_801 3 rfl ?_
  refine jv_iload_n C dL_law_802 0 rfl ?_
  refine jv_iconst (v := 1) C dL_law_803 (by decide) ?_
  refine jv_iadd C dL_law_804 ?_
  refine jv_ti (y := 1) (by decide) ?_
  refine jv_sld C SS (jv_vi (by decide)) dL_law_805 ?_
  refine jv_ti (y := a1) s1 ?_
  refine jv_aload_n C dL_law_806 3 rfl ?_
  refine jv_iload_n C dL_law_807 0 rfl ?_
  refine jv_iconst (v := 2) C dL_law_808 (by decide) ?_
  refine jv_iadd C dL_law_809 ?_
  refine jv_ti (y := 2) (by decide) ?_
  refine jv_sld C SS (jv_vi (by decide)) dL_law_810 ?_
  refine jv_ti (y := a2) s2 ?_
  refine jv_aload_n C dL_law_811 3 rfl ?_
  refine jv_iload_n C dL_law_812 0 rfl ?_
  refine jv_iconst (v := 3) C dL_law_813 (by decide) ?_
  refine jv_iadd C dL_law_814 ?_
  refine jv_ti (y := 3) (by decide) ?_
  refine jv_sld C SS (jv_vi (by decide)) dL_law_815 ?_
  refine jv_ti (y := a3) s3 ?_
  refine jv_aload_n C dL_law_816 3 rfl ?_
  refine jv_iload_n C dL_law_817 0 rfl ?_
  refine jv_iconst (v := 4) C dL_law_818 (by decide) ?_
  refine jv_iadd C dL_law_819 ?_
  refine jv_ti (y := 4) (by decide) ?_
  refine jv_sld C SS (jv_vi (by decide)) dL_law_820 ?_
  refine jv_ti (y := a4) s4 ?_
  refine jv_callV (na := 4) (As := [.int a1, .int a2, .int a3, .int a4]) (st := []) C (c_X8_same l D kp (xf_0 hX) (xf_1 hX) a1 a2 a3 a4 ) gL_law_X8_same rfl (by decide) (xf_0 hX) rfl rfl rfl q_X8_same rfl ⟨by decide, by decide⟩ ⟨by decide, by decide⟩ (fun _ h => absurd h List.not_mem_nil) (Nat.le_of_ble_eq_true rfl) rfl dL_law_821 (fun r n1 E_1 hp _ => ?_)
  obtain ⟨rfl, rfl, rfl⟩ := hp
  show jv_V l D vwCl kp G 84 99182 84 E 824 [(3, .int 0), (2, .ref 58), (1, .ref 0), (0, .ref 1000000)] [.int (-2)]
  refine jv_aload_n C dL_law_824 1 rfl ?_
  refine jv_aload_n C dL_law_825 3 rfl ?_
  refine jv_iload_n C dL_law_826 0 rfl ?_
  refine jv_iconst (v := 1) C dL_law_827 (by decide) ?_
  refine jv_iadd C dL_law_828 ?_
  refine jv_ti (y := 1) (by decide) ?_
  refine jv_sld C SS (jv_vi (by decide)) dL_law_829 ?_
  refine jv_ti (y := a1) s1 ?_
  refine jv_aload_n C dL_law_830 3 rfl ?_
  refine jv_iload_n C dL_law_831 0 rfl ?_
  refine jv_iconst (v := 2) C dL_law_832 (by decide) ?_
  refine jv_iadd C dL_law_833 ?_
  refine jv_ti (y := 2) (by decide) ?_
  refine jv_sld C SS (jv_vi (by decide)) dL_law_834 ?_
  refine jv_ti (y := a2) s2 ?_
  refine jv_aload_n C dL_law_835 3 rfl ?_
  refine jv_iload_n C dL_law_836 0 rfl ?_
  refine jv_iconst (v := 3) C dL_law_837 (by decide) ?_
  refine jv_iadd C dL_law_838 ?_
  refine jv_ti (y := 3) (by decide) ?_
  refine jv_sld C SS (jv_vi (by decide)) dL_law_839 ?_
  refine jv_ti (y := a3) s3 ?_
  refine jv_aload_n C dL_law_840 3 rfl ?_
  refine jv_iload_n C dL_law_841 0 rfl ?_
  refine jv_iconst (v := 4) C dL_law_842 (by decide) ?_
  refine jv_iadd C dL_law_843 ?_
  refine jv_ti (y := 4) (by decide) ?_
  refine jv_sld C SS (jv_vi (by decide)) dL_law_844 ?_
  refine jv_ti (y := a4) s4 ?_
  refine jv_callV (na := 4) (As := [.int a1, .int a2, .int a3, .int a4]) (st := [.int (-2)]) C (c_X9_same l D kp (xf_58 hX) (xf_65 hX) a1 a2 a3 a4 ) gL_law_X9_same rfl (by decide) (xf_58 hX) rfl rfl rfl q_X9_same rfl ⟨by decide, by decide⟩ ⟨by decide, by decide⟩ (fun _ h => absurd h List.not_mem_nil) (Nat.le_of_ble_eq_true rfl) rfl dL_law_845 (fun r n1 E_2 hp _ => ?_)
  cases hp
  show jv_V l D vwCl kp G 84 99182 n1 E_2 848 [(3, .int 0), (2, .ref 58), (1, .ref 0), (0, .ref 1000000)] [.int (-2), .int (-2)]
  refine jv_icmp_eq (tgt := 2064) C dL_law_848 (by decide) (fun _ => ?_) (fun h => absurd (by decide) h)
  exact law_tail C hnl SS QQ 84 99182 n1 (by decide) (by decide) E_2
theorem q_X8_crossings : yX8_crossings.cls ≠ "java/lang/invoke/MethodHandle" ∧ yX8_crossings.cls ≠ "java/lang/invoke/VarHandle" ∧ (parseMethodDescriptor yX8_crossings.desc).map (fun d => d.parameters.length) = some 1 := by decide +kernel
theorem q_X9_crossings : yX9_crossings.cls ≠ "java/lang/invoke/MethodHandle" ∧ yX9_crossings.cls ≠ "java/lang/invoke/VarHandle" ∧ (parseMethodDescriptor yX9_crossings.desc).map (fun d => d.parameters.length) = some 1 := by decide +kernel
set_option maxRecDepth 100000 in
set_option maxHeartbeats 8000000 in
theorem law_19 {l : Launch} {D : va_G} {kp : Nat → ClassId} {G : jv_G} {xs : Nat → Int32} (C : jv_C D vwCl kp G cL_law RL wsL_law room_1 jx_N) (hnl : jv_nL G = 4) (SS : jv_S G 6 xs) (QQ : jv_end l D vwCl kp G) {E : Nat → jv_E} (hX : jx_F E) {a1 a2 a3 a4 a5 : Int32} (s1 : xs (1 : Int32).toNatClampNeg = a1) (s2 : xs (2 : Int32).toNatClampNeg = a2) (s3 : xs (3 : Int32).toNatClampNeg = a3) (s4 : xs (4 : Int32).toNatClampNeg = a4) (s5 : xs (5 : Int32).toNatClampNeg = a5) : jv_V l D vwCl kp G 84 99182 84 E 853 [(3, .int 0), (2, .ref 58), (1, .ref 0), (0, .ref 1000000)] [] := by
  refine jv_aload_n C dL_law_853 2 rfl ?_
  refine jv_aload_n C dL_law_854 3 rfl ?_
  refine jv_iload_n C dL_law_855 0 rfl ?_
  refine jv_iconst (v := 1) C dL_law_856 (by decide) ?_
  refine jv_iadd C dL_law_857 ?_
  refine jv_ti (y := 1) (by decide) ?_
  refine jv_sld C SS (jv_vi (by decide)) dL_law_858 ?_
  refine jv_ti (y := a1) s1 ?_
  refine jv_callV (na := 1) (As := [.int a1]) (st := []) C (c_X8_crossings l D kp (xf_0 hX) (xf_1 hX) a1 ) gL_law_X8_crossings rfl (by decide) (xf_0 hX) rfl rfl rfl q_X8_crossings rfl ⟨by decide, by decide⟩ ⟨by decide, by decide⟩ (fun _ h => absurd h List.not_mem_nil) (Nat.le_of_ble_eq_true rfl) rfl dL_law_859 (fun r n1 E_1 hp _ => ?_)
  obtain ⟨rfl, rfl, rfl⟩ := hp
  show jv_V l D vwCl kp G 84 99182 84 E 862 [(3, .int 0), (2, .ref 58), (1, .ref 0), (0, .ref 1000000)] [.int (-2)]
  refine jv_aload_n C dL_law_862 1 rfl ?_
  refine jv_aload_n C dL_law_863 3 rfl ?_
  refine jv_iload_n C dL_law_864 0 rfl ?_
  refine jv_iconst (v := 1) C dL_law_865 (by decide) ?_
  refine jv_iadd C dL_law_866 ?_
  refine jv_ti (y := 1) (by decide) ?_
  refine jv_sld C SS (jv_vi (by decide)) dL_law_867 ?_
  refine jv_ti (y := a1) s1 ?_
  refine jv_callV (na := 1) (As := [.int a1]) (st := [.int (-2)]) C (c_X9_crossings l D kp (xf_58 hX) (xf_65 hX) a1 ) gL_law_X9_crossings rfl (by decide) (xf_58 hX) rfl rfl rfl q_X9_crossings rfl ⟨by decide, by decide⟩ ⟨by decide, by decide⟩ (fun _ h => absurd h List.not_mem_nil) (Nat.le_of_ble_eq_true rfl) rfl dL_law_868 (fun r n1 E_2 hp _ => ?_)
  cases hp
  show jv_V l D vwCl kp G 84 99182 n1 E_2 871 [(3, .int 0), (2, .ref 58), (1, .ref 0), (0, .ref 1000000)] [.int (-2), .int (-2)]
  refine jv_icmp_eq (tgt := 2064) C dL_law_871 (by decide) (fun _ => ?_) (fun h => absurd (by decide) h)
  exact law_tail C hnl SS QQ 84 99182 n1 (by decide) (by decide) E_2
theorem q_X8_suits : yX8_suits.cls ≠ "java/lang/invoke/MethodHandle" ∧ yX8_suits.cls ≠ "java/lang/invoke/VarHandle" ∧ (parseMethodDescriptor yX8_suits.desc).map (fun d => d.parameters.length) = some 1 := by decide +kernel
theorem q_X9_suits : yX9_suits.cls ≠ "java/lang/invoke/MethodHandle" ∧ yX9_suits.cls ≠ "java/lang/invoke/VarHandle" ∧ (parseMethodDescriptor yX9_suits.desc).map (fun d => d.parameters.length) = some 1 := by decide +kernel
set_option maxRecDepth 100000 in
set_option maxHeartbeats 8000000 in
theorem law_20 {l : Launch} {D : va_G} {kp : Nat → ClassId} {G : jv_G} {xs : Nat → Int32} (C : jv_C D vwCl kp G cL_law RL wsL_law room_1 jx_N) (hnl : jv_nL G = 4) (SS : jv_S G 6 xs) (QQ : jv_end l D vwCl kp G) {E : Nat → jv_E} (hX : jx_F E) {a1 a2 a3 a4 a5 : Int32} (s1 : xs (1 : Int32).toNatClampNeg = a1) (s2 : xs (2 : Int32).toNatClampNeg = a2) (s3 : xs (3 : Int32).toNatClampNeg = a3) (s4 : xs (4 : Int32).toNatClampNeg = a4) (s5 : xs (5 : Int32).toNatClampNeg = a5) : jv_V l D vwCl kp G 84 99182 84 E 876 [(3, .int 0), (2, .ref 58), (1, .ref 0), (0, .ref 1000000)] [] := by
  refine jv_aload_n C dL_law_876 2 rfl ?_
  refine jv_aload_n C dL_law_877 3 rfl ?_
  refine jv_iload_n C dL_law_878 0 rfl ?_
  refine jv_iconst (v := 1) C dL_law_879 (by decide) ?_
  refine jv_iadd C dL_law_880 ?_
  refine jv_ti (y := 1) (by decide) ?_
  refine jv_sld C SS (jv_vi (by decide)) dL_law_881 ?_
  refine jv_ti (y := a1) s1 ?_
  refine jv_callV (na := 1) (As := [.int a1]) (st := []) C (c_X8_suits l D kp (xf_0 hX) (xf_1 hX) a1 ) gL_law_X8_suits rfl (by decide) (xf_0 hX) rfl rfl rfl q_X8_suits rfl ⟨by decide, by decide⟩ ⟨by decide, by decide⟩ (fun _ h => absurd h List.not_mem_nil) (Nat.le_of_ble_eq_true rfl) rfl dL_law_882 (fun r n1 E_1 hp _ => ?_)
  obtain ⟨rfl, rfl, rfl⟩ := hp
  show jv_V l D vwCl kp G 84 99182 84 E 885 [(3, .int 0), (2, .ref 58), (1, .ref 0), (0, .ref 1000000)] [.int (-2)]
  refine jv_aload_n C dL_law_885 1 rfl ?_
  refine jv_aload_n C dL_law_886 3 rfl ?_
  refine jv_iload_n C dL_law_887 0 rfl ?_
  refine jv_iconst (v := 1) C dL_law_888 (by decide) ?_
  refine jv_iadd C dL_law_889 ?_
  refine jv_ti (y := 1) (by decide) ?_
  refine jv_sld C SS (jv_vi (by decide)) dL_law_890 ?_
  refine jv_ti (y := a1) s1 ?_
  refine jv_callV (na := 1) (As := [.int a1]) (st := [.int (-2)]) C (c_X9_suits l D kp (xf_58 hX) (xf_65 hX) a1 ) gL_law_X9_suits rfl (by decide) (xf_58 hX) rfl rfl rfl q_X9_suits rfl ⟨by decide, by decide⟩ ⟨by decide, by decide⟩ (fun _ h => absurd h List.not_mem_nil) (Nat.le_of_ble_eq_true rfl) rfl dL_law_891 (fun r n1 E_2 hp _ => ?_)
  cases hp
  show jv_V l D vwCl kp G 84 99182 n1 E_2 894 [(3, .int 0), (2, .ref 58), (1, .ref 0), (0, .ref 1000000)] [.int (-2), .int (-2)]
  refine jv_icmp_eq (tgt := 2064) C dL_law_894 (by decide) (fun _ => ?_) (fun h => absurd (by decide) h)
  exact law_tail C hnl SS QQ 84 99182 n1 (by decide) (by decide) E_2
theorem q_X8_unsuited : yX8_unsuited.cls ≠ "java/lang/invoke/MethodHandle" ∧ yX8_unsuited.cls ≠ "java/lang/invoke/VarHandle" ∧ (parseMethodDescriptor yX8_unsuited.desc).map (fun d => d.parameters.length) = some 1 := by decide +kernel
theorem q_X9_unsuited : yX9_unsuited.cls ≠ "java/lang/invoke/MethodHandle" ∧ yX9_unsuited.cls ≠ "java/lang/invoke/VarHandle" ∧ (parseMethodDescriptor yX9_unsuited.desc).map (fun d => d.parameters.length) = some 1 := by decide +kernel
set_option maxRecDepth 100000 in
set_option maxHeartbeats 8000000 in
theorem law_21 {l : Launch} {D : va_G} {kp : Nat → ClassId} {G : jv_G} {xs : Nat → Int32} (C : jv_C D vwCl kp G cL_law RL wsL_law room_1 jx_N) (hnl : jv_nL G = 4) (SS : jv_S G 6 xs) (QQ : jv_end l D vwCl kp G) {E : Nat → jv_E} (hX : jx_F E) {a1 a2 a3 a4 a5 : Int32} (s1 : xs (1 : Int32).toNatClampNeg = a1) (s2 : xs (2 : Int32).toNatClampNeg = a2) (s3 : xs (3 : Int32).toNatClampNeg = a3) (s4 : xs (4 : Int32).toNatClampNeg = a4) (s5 : xs (5 : Int32).toNatClampNeg = a5) : jv_V l D vwCl kp G 84 99182 84 E 899 [(3, .int 0), (2, .ref 58), (1, .ref 0), (0, .ref 1000000)] [] := by
  refine jv_aload_n C dL_law_899 2 rfl ?_
  refine jv_aload_n C dL_law_900 3 rfl ?_
  refine jv_iload_n C dL_law_901 0 rfl ?_
  refine jv_iconst (v := 1) C dL_law_902 (by decide) ?_
  refine jv_iadd C dL_law_903 ?_
  refine jv_ti (y := 1) (by decide) ?_
  refine jv_sld C SS (jv_vi (by decide)) dL_law_904 ?_
  refine jv_ti (y := a1) s1 ?_
  refine jv_callV (na := 1) (As := [.int a1]) (st := []) C (c_X8_unsuited l D kp (xf_0 hX) (xf_1 hX) a1 ) gL_law_X8_unsuited rfl (by decide) (xf_0 hX) rfl rfl rfl q_X8_unsuited rfl ⟨by decide, by decide⟩ ⟨by decide, by decide⟩ (fun _ h => absurd h List.not_mem_nil) (Nat.le_of_ble_eq_true rfl) rfl dL_law_905 (fun r n1 E_1 hp _ => ?_)
  obtain ⟨rfl, rfl, rfl⟩ := hp
  show jv_V l D vwCl kp G 84 99182 84 E 908 [(3, .int 0), (2, .ref 58), (1, .ref 0), (0, .ref 1000000)] [.int (-2)]
  refine jv_aload_n C dL_law_908 1 rfl ?_
  refine jv_aload_n C dL_law_909 3 rfl ?_
  refine jv_iload_n C dL_law_910 0 rfl ?_
  refine jv_iconst (v := 1) C dL_law_911 (by decide) ?_
  refine jv_iadd C dL_law_912 ?_
  refine jv_ti (y := 1) (by decide) ?_
  refine jv_sld C SS (jv_vi (by decide)) dL_law_913 ?_
  refine jv_ti (y := a1) s1 ?_
  refine jv_callV (na := 1) (As := [.int a1]) (st := [.int (-2)]) C (c_X9_unsuited l D kp (xf_58 hX) (xf_65 hX) a1 ) gL_law_X9_unsuited rfl (by decide) (xf_58 hX) rfl rfl rfl q_X9_unsuited rfl ⟨by decide, by decide⟩ ⟨by decide, by decide⟩ (fun _ h => absurd h List.not_mem_nil) (Nat.le_of_ble_eq_true rfl) rfl dL_law_914 (fun r n1 E_2 hp _ => ?_)
  cases hp
  show jv_V l D vwCl kp G 84 99182 n1 E_2 917 [(3, .int 0), (2, .ref 58), (1, .ref 0), (0, .ref 1000000)] [.int (-2), .int (-2)]
  refine jv_icmp_eq (tgt := 2064) C dL_law_917 (by decide) (fun _ => ?_) (fun h => absurd (by decide) h)
  exact law_tail C hnl SS QQ 84 99182 n1 (by decide) (by decide) E_2
theorem q_X8_wages : yX8_wages.cls ≠ "java/lang/invoke/MethodHandle" ∧ yX8_wages.cls ≠ "java/lang/invoke/VarHandle" ∧ (parseMethodDescriptor yX8_wages.desc).map (fun d => d.parameters.length) = some 2 := by decide +kernel
theorem q_X9_wages : yX9_wages.cls ≠ "java/lang/invoke/MethodHandle" ∧ yX9_wages.cls ≠ "java/lang/invoke/VarHandle" ∧ (parseMethodDescriptor yX9_wages.desc).map (fun d => d.parameters.length) = some 2 := by decide +kernel
set_option maxRecDepth 100000 in
set_option maxHeartbeats 8000000 in
theorem law_22 {l : Launch} {D : va_G} {kp : Nat → ClassId} {G : jv_G} {xs : Nat → Int32} (C : jv_C D vwCl kp G cL_law RL wsL_law room_1 jx_N) (hnl : jv_nL G = 4) (SS : jv_S G 6 xs) (QQ : jv_end l D vwCl kp G) {E : Nat → jv_E} (hX : jx_F E) {a1 a2 a3 a4 a5 : Int32} (s1 : xs (1 : Int32).toNatClampNeg = a1) (s2 : xs (2 : Int32).toNatClampNeg = a2) (s3 : xs (3 : Int32).toNatClampNeg = a3) (s4 : xs (4 : Int32).toNatClampNeg = a4) (s5 : xs (5 : Int32).toNatClampNeg = a5) : jv_V l D vwCl kp G 84 99182 84 E 922 [(3, .int 0), (2, .ref 58), (1, .ref 0), (0, .ref 1000000)] [] := by
  refine jv_aload_n C dL_law_922 2 rfl ?_
  refine jv_aload_n C dL_law_923 3 rfl ?_
  refine jv_iload_n C dL_law_924 0 rfl ?_
  refine jv_iconst (v := 1) C dL_law_925 (by decide) ?_
  refine jv_iadd C dL_law_926 ?_
  refine jv_ti (y := 1) (by decide) ?_
  refine jv_sld C SS (jv_vi (by decide)) dL_law_927 ?_
  refine jv_ti (y := a1) s1 ?_
  refine jv_aload_n C dL_law_928 3 rfl ?_
  refine jv_iload_n C dL_law_929 0 rfl ?_
  refine jv_iconst (v := 2) C dL_law_930 (by decide) ?_
  refine jv_iadd C dL_law_931 ?_
  refine jv_ti (y := 2) (by decide) ?_
  refine jv_sld C SS (jv_vi (by decide)) dL_law_932 ?_
  refine jv_ti (y := a2) s2 ?_
  refine jv_callV (na := 2) (As := [.int a1, .int a2]) (st := []) C (c_X8_wages l D kp (xf_0 hX) (xf_1 hX) a1 a2 ) gL_law_X8_wages rfl (by decide) (xf_0 hX) rfl rfl rfl q_X8_wages rfl ⟨by decide, by decide⟩ ⟨by decide, by decide⟩ (fun _ h => absurd h List.not_mem_nil) (Nat.le_of_ble_eq_true rfl) rfl dL_law_933 (fun r n1 E_1 hp _ => ?_)
  obtain ⟨rfl, rfl, rfl⟩ := hp
  show jv_V l D vwCl kp G 84 99182 84 E 936 [(3, .int 0), (2, .ref 58), (1, .ref 0), (0, .ref 1000000)] [.long (-2)]
  refine jv_aload_n C dL_law_936 1 rfl ?_
  refine jv_aload_n C dL_law_937 3 rfl ?_
  refine jv_iload_n C dL_law_938 0 rfl ?_
  refine jv_iconst (v := 1) C dL_law_939 (by decide) ?_
  refine jv_iadd C dL_law_940 ?_
  refine jv_ti (y := 1) (by decide) ?_
  refine jv_sld C SS (jv_vi (by decide)) dL_law_941 ?_
  refine jv_ti (y := a1) s1 ?_
  refine jv_aload_n C dL_law_942 3 rfl ?_
  refine jv_iload_n C dL_law_943 0 rfl ?_
  refine jv_iconst (v := 2) C dL_law_944 (by decide) ?_
  refine jv_iadd C dL_law_945 ?_
  refine jv_ti (y := 2) (by decide) ?_
  refine jv_sld C SS (jv_vi (by decide)) dL_law_946 ?_
  refine jv_ti (y := a2) s2 ?_
  refine jv_callV (na := 2) (As := [.int a1, .int a2]) (st := [.long (-2)]) C (c_X9_wages l D kp (xf_58 hX) (xf_65 hX) a1 a2 ) gL_law_X9_wages rfl (by decide) (xf_58 hX) rfl rfl rfl q_X9_wages rfl ⟨by decide, by decide⟩ ⟨by decide, by decide⟩ (fun _ h => absurd h List.not_mem_nil) (Nat.le_of_ble_eq_true rfl) rfl dL_law_947 (fun r n1 E_2 hp _ => ?_)
  cases hp
  show jv_V l D vwCl kp G 84 99182 n1 E_2 950 [(3, .int 0), (2, .ref 58), (1, .ref 0), (0, .ref 1000000)] [.long (-2), .long (-2)]
  refine jv_lcmp C dL_law_950 ?_
  refine jv_ti (y := 0) (by decide) ?_
  refine jv_if_eq (tgt := 2064) C dL_law_951 (by decide) (fun _ => ?_) (fun h => absurd (by decide) h)
  exact law_tail C hnl SS QQ 84 99182 n1 (by decide) (by decide) E_2
theorem q_X8_carries : yX8_carries.cls ≠ "java/lang/invoke/MethodHandle" ∧ yX8_carries.cls ≠ "java/lang/invoke/VarHandle" ∧ (parseMethodDescriptor yX8_carries.desc).map (fun d => d.parameters.length) = some 2 := by decide +kernel
theorem q_X9_carries : yX9_carries.cls ≠ "java/lang/invoke/MethodHandle" ∧ yX9_carries.cls ≠ "java/lang/invoke/VarHandle" ∧ (parseMethodDescriptor yX9_carries.desc).map (fun d => d.parameters.length) = some 2 := by decide +kernel
set_option maxRecDepth 100000 in
set_option maxHeartbeats 8000000 in
theorem law_23 {l : Launch} {D : va_G} {kp : Nat → ClassId} {G : jv_G} {xs : Nat → Int32} (C : jv_C D vwCl kp G cL_law RL wsL_law room_1 jx_N) (hnl : jv_nL G = 4) (SS : jv_S G 6 xs) (QQ : jv_end l D vwCl kp G) {E : Nat → jv_E} (hX : jx_F E) {a1 a2 a3 a4 a5 : Int32} (s1 : xs (1 : Int32).toNatClampNeg = a1) (s2 : xs (2 : Int32).toNatClampNeg = a2) (s3 : xs (3 : Int32).toNatClampNeg = a3) (s4 : xs (4 : Int32).toNatClampNeg = a4) (s5 : xs (5 : Int32).toNatClampNeg = a5) : jv_V l D vwCl kp G 84 99182 84 E 956 [(3, .int 0), (2, .ref 58), (1, .ref 0), (0, .ref 1000000)] [] := by
  refine jv_aload_n C dL_law_956 2 rfl ?_
  refine jv_aload_n C dL_law_957 3 rfl ?_
  refine jv_iload_n C dL_law_958 0 rfl ?_
  refine jv_iconst (v := 1) C dL_law_959 (by decide) ?_
  refine jv_iadd C dL_law_960 ?_
  refine jv_ti (y := 1) (by decide) ?_
  refine jv_sld C SS (jv_vi (by decide)) dL_law_961 ?_
  refine jv_ti (y := a1) s1 ?_
  refine jv_aload_n C dL_law_962 3 rfl ?_
  refine jv_iload_n C dL_law_963 0 rfl ?_
  refine jv_iconst (v := 2) C dL_law_964 (by decide) ?_
  refine jv_iadd C dL_law_965 ?_
  refine jv_ti (y := 2) (by decide) ?_
  refine jv_sld C SS (jv_vi (by decide)) dL_law_966 ?_
  refine jv_ti (y := a2) s2 ?_
  refine jv_callV (na := 2) (As := [.int a1, .int a2]) (st := []) C (c_X8_carries l D kp (xf_0 hX) (xf_1 hX) a1 a2 ) gL_law_X8_carries rfl (by decide) (xf_0 hX) rfl rfl rfl q_X8_carries rfl ⟨by decide, by decide⟩ ⟨by decide, by decide⟩ (fun _ h => absurd h List.not_mem_nil) (Nat.le_of_ble_eq_true rfl) rfl dL_law_967 (fun r n1 E_1 hp _ => ?_)
  obtain ⟨rfl, rfl, rfl⟩ := hp
  show jv_V l D vwCl kp G 84 99182 84 E 970 [(3, .int 0), (2, .ref 58), (1, .ref 0), (0, .ref 1000000)] [.int (-2)]
  refine jv_aload_n C dL_law_970 1 rfl ?_
  refine jv_aload_n C dL_law_971 3 rfl ?_
  refine jv_iload_n C dL_law_972 0 rfl ?_
  refine jv_iconst (v := 1) C dL_law_973 (by decide) ?_
  refine jv_iadd C dL_law_974 ?_
  refine jv_ti (y := 1) (by decide) ?_
  refine jv_sld C SS (jv_vi (by decide)) dL_law_975 ?_
  refine jv_ti (y := a1) s1 ?_
  refine jv_aload_n C dL_law_976 3 rfl ?_
  refine jv_iload_n C dL_law_977 0 rfl ?_
  refine jv_iconst (v := 2) C dL_law_978 (by decide) ?_
  refine jv_iadd C dL_law_979 ?_
  refine jv_ti (y := 2) (by decide) ?_
  refine jv_sld C SS (jv_vi (by decide)) dL_law_980 ?_
  refine jv_ti (y := a2) s2 ?_
  refine jv_callV (na := 2) (As := [.int a1, .int a2]) (st := [.int (-2)]) C (c_X9_carries l D kp (xf_58 hX) (xf_65 hX) a1 a2 ) gL_law_X9_carries rfl (by decide) (xf_58 hX) rfl rfl rfl q_X9_carries rfl ⟨by decide, by decide⟩ ⟨by decide, by decide⟩ (fun _ h => absurd h List.not_mem_nil) (Nat.le_of_ble_eq_true rfl) rfl dL_law_981 (fun r n1 E_2 hp _ => ?_)
  cases hp
  show jv_V l D vwCl kp G 84 99182 n1 E_2 984 [(3, .int 0), (2, .ref 58), (1, .ref 0), (0, .ref 1000000)] [.int (-2), .int (-2)]
  refine jv_icmp_eq (tgt := 2064) C dL_law_984 (by decide) (fun _ => ?_) (fun h => absurd (by decide) h)
  exact law_tail C hnl SS QQ 84 99182 n1 (by decide) (by decide) E_2
theorem q_X8_letter : yX8_letter.cls ≠ "java/lang/invoke/MethodHandle" ∧ yX8_letter.cls ≠ "java/lang/invoke/VarHandle" ∧ (parseMethodDescriptor yX8_letter.desc).map (fun d => d.parameters.length) = some 2 := by decide +kernel
theorem q_X9_letter : yX9_letter.cls ≠ "java/lang/invoke/MethodHandle" ∧ yX9_letter.cls ≠ "java/lang/invoke/VarHandle" ∧ (parseMethodDescriptor yX9_letter.desc).map (fun d => d.parameters.length) = some 2 := by decide +kernel
set_option maxRecDepth 100000 in
set_option maxHeartbeats 8000000 in
theorem law_24 {l : Launch} {D : va_G} {kp : Nat → ClassId} {G : jv_G} {xs : Nat → Int32} (C : jv_C D vwCl kp G cL_law RL wsL_law room_1 jx_N) (hnl : jv_nL G = 4) (SS : jv_S G 6 xs) (QQ : jv_end l D vwCl kp G) {E : Nat → jv_E} (hX : jx_F E) {a1 a2 a3 a4 a5 : Int32} (s1 : xs (1 : Int32).toNatClampNeg = a1) (s2 : xs (2 : Int32).toNatClampNeg = a2) (s3 : xs (3 : Int32).toNatClampNeg = a3) (s4 : xs (4 : Int32).toNatClampNeg = a4) (s5 : xs (5 : Int32).toNatClampNeg = a5) : jv_V l D vwCl kp G 84 99182 84 E 989 [(3, .int 0), (2, .ref 58), (1, .ref 0), (0, .ref 1000000)] [] := by
  refine jv_aload_n C dL_law_989 2 rfl ?_
  refine jv_aload_n C dL_law_990 3 rfl ?_
  refine jv_iload_n C dL_law_991 0 rfl ?_
  refine jv_iconst (v := 1) C dL_law_992 (by decide) ?_
  refine jv_iadd C dL_law_993 ?_
  refine jv_ti (y := 1) (by decide) ?_
  refine jv_sld C SS (jv_vi (by decide)) dL_law_994 ?_
  refine jv_ti (y := a1) s1 ?_
  refine jv_aload_n C dL_law_995 3 rfl ?_
  refine jv_iload_n C dL_law_996 0 rfl ?_
  refine jv_iconst (v := 2) C dL_law_997 (by decide) ?_
  refine jv_iadd C dL_law_998 ?_
  refine jv_ti (y := 2) (by decide) ?_
  refine jv_sld C SS (jv_vi (by decide)) dL_law_999 ?_
  refine jv_ti (y := a2) s2 ?_
  refine jv_callV (na := 2) (As := [.int a1, .int a2]) (st := []) C (c_X8_letter l D kp (xf_0 hX) (xf_1 hX) a1 a2 ) gL_law_X8_letter rfl (by decide) (xf_0 hX) rfl rfl rfl q_X8_letter rfl ⟨by decide, by decide⟩ ⟨by decide, by decide⟩ (fun _ h => absurd h List.not_mem_nil) (Nat.le_of_ble_eq_true rfl) rfl dL_law_1000 (fun r n1 E_1 hp _ => ?_)
  obtain ⟨rfl, rfl, rfl⟩ := hp
  show jv_V l D vwCl kp G 84 99182 84 E 1003 [(3, .int 0), (2, .ref 58), (1, .ref 0), (0, .ref 1000000)] [.int (-2)]
  refine jv_aload_n C dL_law_1003 1 rfl ?_
  refine jv_aload_n C dL_law_1004 3 rfl ?_
  refine jv_iload_n C dL_law_1005 0 rfl ?_
  refine jv_iconst (v := 1) C dL_law_1006 (by decide) ?_
  refine jv_iadd C dL_law_1007 ?_
  refine jv_ti (y := 1) (by decide) ?_
  refine jv_sld C SS (jv_vi (by decide)) dL_law_1008 ?_
  refine jv_ti (y := a1) s1 ?_
  refine jv_aload_n C dL_law_1009 3 rfl ?_
  refine jv_iload_n C dL_law_1010 0 rfl ?_
  refine jv_iconst (v := 2) C dL_law_1011 (by decide) ?_
  refine jv_iadd C dL_law_1012 ?_
  refine jv_ti (y := 2) (by decide) ?_
  refine jv_sld C SS (jv_vi (by decide)) dL_law_1013 ?_
  refine jv_ti (y := a2) s2 ?_
  refine jv_callV (na := 2) (As := [.int a1, .int a2]) (st := [.int (-2)]) C (c_X9_letter l D kp (xf_58 hX) (xf_65 hX) (xf_70 hX) a1 a2 ) gL_law_X9_letter rfl (by decide) (xf_58 hX) rfl rfl rfl q_X9_letter rfl ⟨by decide, by decide⟩ ⟨by decide, by decide⟩ (fun _ h => absurd h List.not_mem_nil) (Nat.le_of_ble_eq_true rfl) rfl dL_law_1014 (fun r n1 E_2 hp _ => ?_)
  cases hp
  show jv_V l D vwCl kp G 84 99182 n1 E_2 1017 [(3, .int 0), (2, .ref 58), (1, .ref 0), (0, .ref 1000000)] [.int (-2), .int (-2)]
  refine jv_icmp_eq (tgt := 2064) C dL_law_1017 (by decide) (fun _ => ?_) (fun h => absurd (by decide) h)
  exact law_tail C hnl SS QQ 84 99182 n1 (by decide) (by decide) E_2
theorem q_X8_alone : yX8_alone.cls ≠ "java/lang/invoke/MethodHandle" ∧ yX8_alone.cls ≠ "java/lang/invoke/VarHandle" ∧ (parseMethodDescriptor yX8_alone.desc).map (fun d => d.parameters.length) = some 1 := by decide +kernel
theorem q_X9_alone : yX9_alone.cls ≠ "java/lang/invoke/MethodHandle" ∧ yX9_alone.cls ≠ "java/lang/invoke/VarHandle" ∧ (parseMethodDescriptor yX9_alone.desc).map (fun d => d.parameters.length) = some 1 := by decide +kernel
set_option maxRecDepth 100000 in
set_option maxHeartbeats 8000000 in
theorem law_25 {l : Launch} {D : va_G} {kp : Nat → ClassId} {G : jv_G} {xs : Nat → Int32} (C : jv_C D vwCl kp G cL_law RL wsL_law room_1 jx_N) (hnl : jv_nL G = 4) (SS : jv_S G 6 xs) (QQ : jv_end l D vwCl kp G) {E : Nat → jv_E} (hX : jx_F E) {a1 a2 a3 a4 a5 : Int32} (s1 : xs (1 : Int32).toNatClampNeg = a1) (s2 : xs (2 : Int32).toNatClampNeg = a2) (s3 : xs (3 : Int32).toNatClampNeg = a3) (s4 : xs (4 : Int32).toNatClampNeg = a4) (s5 : xs (5 : Int32).toNatClampNeg = a5) : jv_V l D vwCl kp G 84 99182 84 E 1022 [(3, .int 0), (2, .ref 58), (1, .ref 0), (0, .ref 1000000)] [] := by
  refine jv_aload_n C dL_law_1022 2 rfl ?_
  refine jv_aload_n C dL_law_1023 3 rfl ?_
  refine jv_iload_n C dL_law_1024 0 rfl ?_
  refine jv_iconst (v := 1) C dL_law_1025 (by decide) ?_
  refine jv_iadd C dL_law_1026 ?_
  refine jv_ti (y := 1) (by decide) ?_
  refine jv_sld C SS (jv_vi (by decide)) dL_law_1027 ?_
  refine jv_ti (y := a1) s1 ?_
  refine jv_callV (na := 1) (As := [.int a1]) (st := []) C (c_X8_alone l D kp (xf_0 hX) (xf_1 hX) a1 ) gL_law_X8_alone rfl (by decide) (xf_0 hX) rfl rfl rfl q_X8_alone rfl ⟨by decide, by decide⟩ ⟨by decide, by decide⟩ (fun _ h => absurd h List.not_mem_nil) (Nat.le_of_ble_eq_true rfl) rfl dL_law_1028 (fun r n1 E_1 hp _ => ?_)
  obtain ⟨rfl, rfl, rfl⟩ := hp
  show jv_V l D vwCl kp G 84 99182 84 E 1031 [(3, .int 0), (2, .ref 58), (1, .ref 0), (0, .ref 1000000)] [.int (-2)]
  refine jv_aload_n C dL_law_1031 1 rfl ?_
  refine jv_aload_n C dL_law_1032 3 rfl ?_
  refine jv_iload_n C dL_law_1033 0 rfl ?_
  refine jv_iconst (v := 1) C dL_law_1034 (by decide) ?_
  refine jv_iadd C dL_law_1035 ?_
  refine jv_ti (y := 1) (by decide) ?_
  refine jv_sld C SS (jv_vi (by decide)) dL_law_1036 ?_
  refine jv_ti (y := a1) s1 ?_
  refine jv_callV (na := 1) (As := [.int a1]) (st := [.int (-2)]) C (c_X9_alone l D kp (xf_58 hX) (xf_65 hX) (xf_70 hX) a1 ) gL_law_X9_alone rfl (by decide) (xf_58 hX) rfl rfl rfl q_X9_alone rfl ⟨by decide, by decide⟩ ⟨by decide, by decide⟩ (fun _ h => absurd h List.not_mem_nil) (Nat.le_of_ble_eq_true rfl) rfl dL_law_1037 (fun r n1 E_2 hp _ => ?_)
  cases hp
  show jv_V l D vwCl kp G 84 99182 n1 E_2 1040 [(3, .int 0), (2, .ref 58), (1, .ref 0), (0, .ref 1000000)] [.int (-2), .int (-2)]
  refine jv_icmp_eq (tgt := 2064) C dL_law_1040 (by decide) (fun _ => ?_) (fun h => absurd (by decide) h)
  exact law_tail C hnl SS QQ 84 99182 n1 (by decide) (by decide) E_2
theorem q_X8_soonest : yX8_soonest.cls ≠ "java/lang/invoke/MethodHandle" ∧ yX8_soonest.cls ≠ "java/lang/invoke/VarHandle" ∧ (parseMethodDescriptor yX8_soonest.desc).map (fun d => d.parameters.length) = some 2 := by decide +kernel
theorem q_X9_soonest : yX9_soonest.cls ≠ "java/lang/invoke/MethodHandle" ∧ yX9_soonest.cls ≠ "java/lang/invoke/VarHandle" ∧ (parseMethodDescriptor yX9_soonest.desc).map (fun d => d.parameters.length) = some 2 := by decide +kernel
set_option maxRecDepth 100000 in
set_option maxHeartbeats 8000000 in
theorem law_26 {l : Launch} {D : va_G} {kp : Nat → ClassId} {G : jv_G} {xs : Nat → Int32} (C : jv_C D vwCl kp G cL_law RL wsL_law room_1 jx_N) (hnl : jv_nL G = 4) (SS : jv_S G 6 xs) (QQ : jv_end l D vwCl kp G) {E : Nat → jv_E} (hX : jx_F E) {a1 a2 a3 a4 a5 : Int32} (s1 : xs (1 : Int32).toNatClampNeg = a1) (s2 : xs (2 : Int32).toNatClampNeg = a2) (s3 : xs (3 : Int32).toNatClampNeg = a3) (s4 : xs (4 : Int32).toNatClampNeg = a4) (s5 : xs (5 : Int32).toNatClampNeg = a5) : jv_V l D vwCl kp G 84 99182 84 E 1045 [(3, .int 0), (2, .ref 58), (1, .ref 0), (0, .ref 1000000)] [] := by
  refine jv_aload_n C dL_law_1045 2 rfl ?_
  refine jv_aload_n C dL_law_1046 3 rfl ?_
  refine jv_iload_n C dL_law_1047 0 rfl ?_
  refine jv_iconst (v := 1) C dL_law_1048 (by decide) ?_
  refine jv_iadd C dL_law_1049 ?_
  refine jv_ti (y := 1) (by decide) ?_
  refine jv_sld C SS (jv_vi (by decide)) dL_law_1050 ?_
  refine jv_ti (y := a1) s1 ?_
  refine jv_aload_n C dL_law_1051 3 rfl ?_
  refine jv_iload_n C dL_law_1052 0 rfl ?_
  refine jv_iconst (v := 2) C dL_law_1053 (by decide) ?_
  refine jv_iadd C dL_law_1054 ?_
  refine jv_ti (y := 2) (by decide) ?_
  refine jv_sld C SS (jv_vi (by decide)) dL_law_1055 ?_
  refine jv_ti (y := a2) s2 ?_
  refine jv_callV (na := 2) (As := [.int a1, .int a2]) (st := []) C (c_X8_soonest l D kp (xf_0 hX) (xf_1 hX) a1 a2 ) gL_law_X8_soonest rfl (by decide) (xf_0 hX) rfl rfl rfl q_X8_soonest rfl ⟨by decide, by decide⟩ ⟨by decide, by decide⟩ (fun _ h => absurd h List.not_mem_nil) (Nat.le_of_ble_eq_true rfl) rfl dL_law_1056 (fun r n1 E_1 hp _ => ?_)
  obtain ⟨rfl, rfl, rfl⟩ := hp
  show jv_V l D vwCl kp G 84 99182 84 E 1059 [(3, .int 0), (2, .ref 58), (1, .ref 0), (0, .ref 1000000)] [.int (-2)]
  refine jv_aload_n C dL_law_1059 1 rfl ?_
  refine jv_aload_n C dL_law_1060 3 rfl ?_
  refine jv_iload_n C dL_law_1061 0 rfl ?_
  refine jv_iconst (v := 1) C dL_law_1062 (by decide) ?_
  refine jv_iadd C dL_law_1063 ?_
  refine jv_ti (y := 1) (by decide) ?_
  refine jv_sld C SS (jv_vi (by decide)) dL_law_1064 ?_
  refine jv_ti (y := a1) s1 ?_
  refine jv_aload_n C dL_law_1065 3 rfl ?_
  refine jv_iload_n C dL_law_1066 0 rfl ?_
  refine jv_iconst (v := 2) C dL_law_1067 (by decide) ?_
  refine jv_iadd C dL_law_1068 ?_
  refine jv_ti (y := 2) (by decide) ?_
  refine jv_sld C SS (jv_vi (by decide)) dL_law_1069 ?_
  refine jv_ti (y := a2) s2 ?_
  refine jv_callV (na := 2) (As := [.int a1, .int a2]) (st := [.int (-2)]) C (c_X9_soonest l D kp (xf_58 hX) (xf_65 hX) (xf_70 hX) a1 a2 ) gL_law_X9_soonest rfl (by decide) (xf_58 hX) rfl rfl rfl q_X9_soonest rfl ⟨by decide, by decide⟩ ⟨by decide, by decide⟩ (fun _ h => absurd h List.not_mem_nil) (Nat.le_of_ble_eq_true rfl) rfl dL_law_1070 (fun r n1 E_2 hp _ => ?_)
  cases hp
  show jv_V l D vwCl kp G 84 99182 n1 E_2 1073 [(3, .int 0), (2, .ref 58), (1, .ref 0), (0, .ref 1000000)] [.int (-2), .int (-2)]
  refine jv_icmp_eq (tgt := 2064) C dL_law_1073 (by decide) (fun _ => ?_) (fun h => absurd (by decide) h)
  exact law_tail C hnl SS QQ 84 99182 n1 (by decide) (by decide) E_2
theorem q_X8_way : yX8_way.cls ≠ "java/lang/invoke/MethodHandle" ∧ yX8_way.cls ≠ "java/lang/invoke/VarHandle" ∧ (parseMethodDescriptor yX8_way.desc).map (fun d => d.parameters.length) = some 2 := by decide +kernel
theorem q_X9_way : yX9_way.cls ≠ "java/lang/invoke/MethodHandle" ∧ yX9_way.cls ≠ "java/lang/invoke/VarHandle" ∧ (parseMethodDescriptor yX9_way.desc).map (fun d => d.parameters.length) = some 2 := by decide +kernel
set_option maxRecDepth 100000 in
set_option maxHeartbeats 8000000 in
theorem law_27 {l : Launch} {D : va_G} {kp : Nat → ClassId} {G : jv_G} {xs : Nat → Int32} (C : jv_C D vwCl kp G cL_law RL wsL_law room_1 jx_N) (hnl : jv_nL G = 4) (SS : jv_S G 6 xs) (QQ : jv_end l D vwCl kp G) {E : Nat → jv_E} (hX : jx_F E) {a1 a2 a3 a4 a5 : Int32} (s1 : xs (1 : Int32).toNatClampNeg = a1) (s2 : xs (2 : Int32).toNatClampNeg = a2) (s3 : xs (3 : Int32).toNatClampNeg = a3) (s4 : xs (4 : Int32).toNatClampNeg = a4) (s5 : xs (5 : Int32).toNatClampNeg = a5) : jv_V l D vwCl kp G 84 99182 84 E 1078 [(3, .int 0), (2, .ref 58), (1, .ref 0), (0, .ref 1000000)] [] := by
  refine jv_aload_n C dL_law_1078 2 rfl ?_
  refine jv_aload_n C dL_law_1079 3 rfl ?_
  refine jv_iload_n C dL_law_1080 0 rfl ?_
  refine jv_iconst (v := 1) C dL_law_1081 (by decide) ?_
  refine jv_iadd C dL_law_1082 ?_
  refine jv_ti (y := 1) (by decide) ?_
  refine jv_sld C SS (jv_vi (by decide)) dL_law_1083 ?_
  refine jv_ti (y := a1) s1 ?_
  refine jv_aload_n C dL_law_1084 3 rfl ?_
  refine jv_iload_n C dL_law_1085 0 rfl ?_
  refine jv_iconst (v := 2) C dL_law_1086 (by decide) ?_
  refine jv_iadd C dL_law_1087 ?_
  refine jv_ti (y := 2) (by decide) ?_
  refine jv_sld C SS (jv_vi (by decide)) dL_law_1088 ?_
  refine jv_ti (y := a2) s2 ?_
  refine jv_callV (na := 2) (As := [.int a1, .int a2]) (st := []) C (c_X8_way l D kp (xf_0 hX) (xf_1 hX) a1 a2 ) gL_law_X8_way rfl (by decide) (xf_0 hX) rfl rfl rfl q_X8_way rfl ⟨by decide, by decide⟩ ⟨by decide, by decide⟩ (fun _ h => absurd h List.not_mem_nil) (Nat.le_of_ble_eq_true rfl) rfl dL_law_1089 (fun r n1 E_1 hp _ => ?_)
  obtain ⟨rfl, rfl, rfl⟩ := hp
  show jv_V l D vwCl kp G 84 99182 84 E 1092 [(3, .int 0), (2, .ref 58), (1, .ref 0), (0, .ref 1000000)] [.int (-2)]
  refine jv_aload_n C dL_law_1092 1 rfl ?_
  refine jv_aload_n C dL_law_1093 3 rfl ?_
  refine jv_iload_n C dL_law_1094 0 rfl ?_
  refine jv_iconst (v := 1) C dL_law_1095 (by decide) ?_
  refine jv_iadd C dL_law_1096 ?_
  refine jv_ti (y := 1) (by decide) ?_
  refine jv_sld C SS (jv_vi (by decide)) dL_law_1097 ?_
  refine jv_ti (y := a1) s1 ?_
  refine jv_aload_n C dL_law_1098 3 rfl ?_
  refine jv_iload_n C dL_law_1099 0 rfl ?_
  refine jv_iconst (v := 2) C dL_law_1100 (by decide) ?_
  refine jv_iadd C dL_law_1101 ?_
  refine jv_ti (y := 2) (by decide) ?_
  refine jv_sld C SS (jv_vi (by decide)) dL_law_1102 ?_
  refine jv_ti (y := a2) s2 ?_
  refine jv_callV (na := 2) (As := [.int a1, .int a2]) (st := [.int (-2)]) C (c_X9_way l D kp (xf_58 hX) (xf_65 hX) (xf_70 hX) a1 a2 ) gL_law_X9_way rfl (by decide) (xf_58 hX) rfl rfl rfl q_X9_way rfl ⟨by decide, by decide⟩ ⟨by decide, by decide⟩ (fun _ h => absurd h List.not_mem_nil) (Nat.le_of_ble_eq_true rfl) rfl dL_law_1103 (fun r n1 E_2 hp _ => ?_)
  cases hp
  show jv_V l D vwCl kp G 84 99182 n1 E_2 1106 [(3, .int 0), (2, .ref 58), (1, .ref 0), (0, .ref 1000000)] [.int (-2), .int (-2)]
  refine jv_icmp_eq (tgt := 2064) C dL_law_1106 (by decide) (fun _ => ?_) (fun h => absurd (by decide) h)
  exact law_tail C hnl SS QQ 84 99182 n1 (by decide) (by decide) E_2
theorem q_X8_readers : yX8_readers.cls ≠ "java/lang/invoke/MethodHandle" ∧ yX8_readers.cls ≠ "java/lang/invoke/VarHandle" ∧ (parseMethodDescriptor yX8_readers.desc).map (fun d => d.parameters.length) = some 2 := by decide +kernel
theorem q_X9_readers : yX9_readers.cls ≠ "java/lang/invoke/MethodHandle" ∧ yX9_readers.cls ≠ "java/lang/invoke/VarHandle" ∧ (parseMethodDescriptor yX9_readers.desc).map (fun d => d.parameters.length) = some 2 := by decide +kernel
set_option maxRecDepth 100000 in
set_option maxHeartbeats 8000000 in
theorem law_28 {l : Launch} {D : va_G} {kp : Nat → ClassId} {G : jv_G} {xs : Nat → Int32} (C : jv_C D vwCl kp G cL_law RL wsL_law room_1 jx_N) (hnl : jv_nL G = 4) (SS : jv_S G 6 xs) (QQ : jv_end l D vwCl kp G) {E : Nat → jv_E} (hX : jx_F E) {a1 a2 a3 a4 a5 : Int32} (s1 : xs (1 : Int32).toNatClampNeg = a1) (s2 : xs (2 : Int32).toNatClampNeg = a2) (s3 : xs (3 : Int32).toNatClampNeg = a3) (s4 : xs (4 : Int32).toNatClampNeg = a4) (s5 : xs (5 : Int32).toNatClampNeg = a5) : jv_V l D vwCl kp G 84 99182 84 E 1111 [(3, .int 0), (2, .ref 58), (1, .ref 0), (0, .ref 1000000)] [] := by
  refine jv_aload_n C dL_law_1111 2 rfl ?_
  refine jv_aload_n C dL_law_1112 3 rfl ?_
  refine jv_iload_n C dL_law_1113 0 rfl ?_
  refine jv_iconst (v := 1) C dL_law_1114 (by decide) ?_
  refine jv_iadd C dL_law_1115 ?_
  refine jv_ti (y := 1) (by decide) ?_
  refine jv_sld C SS (jv_vi (by decide)) dL_law_1116 ?_
  refine jv_ti (y := a1) s1 ?_
  refine jv_aload_n C dL_law_1117 3 rfl ?_
  refine jv_iload_n C dL_law_1118 0 rfl ?_
  refine jv_iconst (v := 2) C dL_law_1119 (by decide) ?_
  refine jv_iadd C dL_law_1120 ?_
  refine jv_ti (y := 2) (by decide) ?_
  refine jv_sld C SS (jv_vi (by decide)) dL_law_1121 ?_
  refine jv_ti (y := a2) s2 ?_
  refine jv_callV (na := 2) (As := [.int a1, .int a2]) (st := []) C (c_X8_readers l D kp (xf_0 hX) (xf_1 hX) a1 a2 ) gL_law_X8_readers rfl (by decide) (xf_0 hX) rfl rfl rfl q_X8_readers rfl ⟨by decide, by decide⟩ ⟨by decide, by decide⟩ (fun _ h => absurd h List.not_mem_nil) (Nat.le_of_ble_eq_true rfl) rfl dL_law_1122 (fun r n1 E_1 hp _ => ?_)
  obtain ⟨rfl, rfl, rfl⟩ := hp
  show jv_V l D vwCl kp G 84 99182 84 E 1125 [(3, .int 0), (2, .ref 58), (1, .ref 0), (0, .ref 1000000)] [.int (-2)]
  refine jv_aload_n C dL_law_1125 1 rfl ?_
  refine jv_aload_n C dL_law_1126 3 rfl ?_
  refine jv_iload_n C dL_law_1127 0 rfl ?_
  refine jv_iconst (v := 1) C dL_law_1128 (by decide) ?_
  refine jv_iadd C dL_law_1129 ?_
  refine jv_ti (y := 1) (by decide) ?_
  refine jv_sld C SS (jv_vi (by decide)) dL_law_1130 ?_
  refine jv_ti (y := a1) s1 ?_
  refine jv_aload_n C dL_law_1131 3 rfl ?_
  refine jv_iload_n C dL_law_1132 0 rfl ?_
  refine jv_iconst (v := 2) C dL_law_1133 (by decide) ?_
  refine jv_iadd C dL_law_1134 ?_
  refine jv_ti (y := 2) (by decide) ?_
  refine jv_sld C SS (jv_vi (by decide)) dL_law_1135 ?_
  refine jv_ti (y := a2) s2 ?_
  refine jv_callV (na := 2) (As := [.int a1, .int a2]) (st := [.int (-2)]) C (c_X9_readers l D kp (xf_58 hX) (xf_65 hX) (xf_70 hX) a1 a2 ) gL_law_X9_readers rfl (by decide) (xf_58 hX) rfl rfl rfl q_X9_readers rfl ⟨by decide, by decide⟩ ⟨by decide, by decide⟩ (fun _ h => absurd h List.not_mem_nil) (Nat.le_of_ble_eq_true rfl) rfl dL_law_1136 (fun r n1 E_2 hp _ => ?_)
  cases hp
  show jv_V l D vwCl kp G 84 99182 n1 E_2 1139 [(3, .int 0), (2, .ref 58), (1, .ref 0), (0, .ref 1000000)] [.int (-2), .int (-2)]
  refine jv_icmp_eq (tgt := 2064) C dL_law_1139 (by decide) (fun _ => ?_) (fun h => absurd (by decide) h)
  exact law_tail C hnl SS QQ 84 99182 n1 (by decide) (by decide) E_2
theorem q_X8_misses : yX8_misses.cls ≠ "java/lang/invoke/MethodHandle" ∧ yX8_misses.cls ≠ "java/lang/invoke/VarHandle" ∧ (parseMethodDescriptor yX8_misses.desc).map (fun d => d.parameters.length) = some 3 := by decide +kernel
theorem q_X9_misses : yX9_misses.cls ≠ "java/lang/invoke/MethodHandle" ∧ yX9_misses.cls ≠ "java/lang/invoke/VarHandle" ∧ (parseMethodDescriptor yX9_misses.desc).map (fun d => d.parameters.length) = some 3 := by decide +kernel
set_option maxRecDepth 100000 in
set_option maxHeartbeats 8000000 in
theorem law_29 {l : Launch} {D : va_G} {kp : Nat → ClassId} {G : jv_G} {xs : Nat → Int32} (C : jv_C D vwCl kp G cL_law RL wsL_law room_1 jx_N) (hnl : jv_nL G = 4) (SS : jv_S G 6 xs) (QQ : jv_end l D vwCl kp G) {E : Nat → jv_E} (hX : jx_F E) {a1 a2 a3 a4 a5 : Int32} (s1 : xs (1 : Int32).toNatClampNeg = a1) (s2 : xs (2 : Int32).toNatClampNeg = a2) (s3 : xs (3 : Int32).toNatClampNeg = a3) (s4 : xs (4 : Int32).toNatClampNeg = a4) (s5 : xs (5 : Int32).toNatClampNeg = a5) : jv_V l D vwCl kp G 84 99182 84 E 1144 [(3, .int 0), (2, .ref 58), (1, .ref 0), (0, .ref 1000000)] [] := by
  refine jv_aload_n C dL_law_1144 2 rfl ?_
  refine jv_aload_n C dL_law_1145 3 rfl ?_
  refine jv_iload_n C dL_law_1146 0 rfl ?_
  refine jv_iconst (v := 1) C dL_law_1147 (by decide) ?_
  refine jv_iadd C dL_law_1148 ?_
  refine jv_ti (y := 1) (by decide) ?_
  refine jv_sld C SS (jv_vi (by decide)) dL_law_1149 ?_
  refine jv_ti (y := a1) s1 ?_
  refine jv_aload_n C dL_law_1150 3 rfl ?_
  refine jv_iload_n C dL_law_1151 0 rfl ?_
  refine jv_iconst (v := 2) C dL_law_1152 (by decide) ?_
  refine jv_iadd C dL_law_1153 ?_
  refine jv_ti (y := 2) (by decide) ?_
  refine jv_sld C SS (jv_vi (by decide)) dL_law_1154 ?_
  refine jv_ti (y := a2) s2 ?_
  refine jv_aload_n C dL_law_1155 3 rfl ?_
  refine jv_iload_n C dL_law_1156 0 rfl ?_
  refine jv_iconst (v := 3) C dL_law_1157 (by decide) ?_
  refine jv_iadd C dL_law_1158 ?_
  refine jv_ti (y := 3) (by decide) ?_
  refine jv_sld C SS (jv_vi (by decide)) dL_law_1159 ?_
  refine jv_ti (y := a3) s3 ?_
  refine jv_callV (na := 3) (As := [.int a1, .int a2, .int a3]) (st := []) C (c_X8_misses l D kp (xf_0 hX) (xf_1 hX) a1 a2 a3 ) gL_law_X8_misses rfl (by decide) (xf_0 hX) rfl rfl rfl q_X8_misses rfl ⟨by decide, by decide⟩ ⟨by decide, by decide⟩ (fun _ h => absurd h List.not_mem_nil) (Nat.le_of_ble_eq_true rfl) rfl dL_law_1160 (fun r n1 E_1 hp _ => ?_)
  obtain ⟨rfl, rfl, rfl⟩ := hp
  show jv_V l D vwCl kp G 84 99182 84 E 1163 [(3, .int 0), (2, .ref 58), (1, .ref 0), (0, .ref 1000000)] [.int (-2)]
  refine jv_aload_n C dL_law_1163 1 rfl ?_
  refine jv_aload_n C dL_law_1164 3 rfl ?_
  refine jv_iload_n C dL_law_1165 0 rfl ?_
  refine jv_iconst (v := 1) C dL_law_1166 (by decide) ?_
  refine jv_iadd C dL_law_1167 ?_
  refine jv_ti (y := 1) (by decide) ?_
  refine jv_sld C SS (jv_vi (by decide)) dL_law_1168 ?_
  refine jv_ti (y := a1) s1 ?_
  refine jv_aload_n C dL_law_1169 3 rfl ?_
  refine jv_iload_n C dL_law_1170 0 rfl ?_
  refine jv_iconst (v := 2) C dL_law_1171 (by decide) ?_
  refine jv_iadd C dL_law_1172 ?_
  refine jv_ti (y := 2) (by decide) ?_
  refine jv_sld C SS (jv_vi (by decide)) dL_law_1173 ?_
  refine jv_ti (y := a2) s2 ?_
  refine jv_aload_n C dL_law_1174 3 rfl ?_
  refine jv_iload_n C dL_law_1175 0 rfl ?_
  refine jv_iconst (v := 3) C dL_law_1176 (by decide) ?_
  refine jv_iadd C dL_law_1177 ?_
  refine jv_ti (y := 3) (by decide) ?_
  refine jv_sld C SS (jv_vi (by decide)) dL_law_1178 ?_
  refine jv_ti (y := a3) s3 ?_
  refine jv_callV (na := 3) (As := [.int a1, .int a2, .int a3]) (st := [.int (-2)]) C (c_X9_misses l D kp (xf_58 hX) (xf_65 hX) a1 a2 a3 ) gL_law_X9_misses rfl (by decide) (xf_58 hX) rfl rfl rfl q_X9_misses rfl ⟨by decide, by decide⟩ ⟨by decide, by decide⟩ (fun _ h => absurd h List.not_mem_nil) (Nat.le_of_ble_eq_true rfl) rfl dL_law_1179 (fun r n1 E_2 hp _ => ?_)
  cases hp
  show jv_V l D vwCl kp G 84 99182 n1 E_2 1182 [(3, .int 0), (2, .ref 58), (1, .ref 0), (0, .ref 1000000)] [.int (-2), .int (-2)]
  refine jv_icmp_eq (tgt := 2064) C dL_law_1182 (by decide) (fun _ => ?_) (fun h => absurd (by decide) h)
  exact law_tail C hnl SS QQ 84 99182 n1 (by decide) (by decide) E_2
theorem q_X8_missed : yX8_missed.cls ≠ "java/lang/invoke/MethodHandle" ∧ yX8_missed.cls ≠ "java/lang/invoke/VarHandle" ∧ (parseMethodDescriptor yX8_missed.desc).map (fun d => d.parameters.length) = some 4 := by decide +kernel
theorem q_X9_missed : yX9_missed.cls ≠ "java/lang/invoke/MethodHandle" ∧ yX9_missed.cls ≠ "java/lang/invoke/VarHandle" ∧ (parseMethodDescriptor yX9_missed.desc).map (fun d => d.parameters.length) = some 4 := by decide +kernel
set_option maxRecDepth 100000 in
set_option maxHeartbeats 8000000 in
theorem law_30 {l : Launch} {D : va_G} {kp : Nat → ClassId} {G : jv_G} {xs : Nat → Int32} (C : jv_C D vwCl kp G cL_law RL wsL_law room_1 jx_N) (hnl : jv_nL G = 4) (SS : jv_S G 6 xs) (QQ : jv_end l D vwCl kp G) {E : Nat → jv_E} (hX : jx_F E) {a1 a2 a3 a4 a5 : Int32} (s1 : xs (1 : Int32).toNatClampNeg = a1) (s2 : xs (2 : Int32).toNatClampNeg = a2) (s3 : xs (3 : Int32).toNatClampNeg = a3) (s4 : xs (4 : Int32).toNatClampNeg = a4) (s5 : xs (5 : Int32).toNatClampNeg = a5) : jv_V l D vwCl kp G 84 99182 84 E 1187 [(3, .int 0), (2, .ref 58), (1, .ref 0), (0, .ref 1000000)] [] := by
  refine jv_aload_n C dL_law_1187 2 rfl ?_
  refine jv_aload_n C dL_law_1188 3 rfl ?_
  refine jv_iload_n C dL_law_1189 0 rfl ?_
  refine jv_iconst (v := 1) C dL_law_1190 (by decide) ?_
  refine jv_iadd C dL_law_1191 ?_
  refine jv_ti (y := 1) (by decide) ?_
  refine jv_sld C SS (jv_vi (by decide)) dL_law_1192 ?_
  refine jv_ti (y := a1) s1 ?_
  refine jv_aload_n C dL_law_1193 3 rfl ?_
  refine jv_iload_n C dL_law_1194 0 rfl ?_
  refine jv_iconst (v := 2) C dL_law_1195 (by decide) ?_
  refine jv_iadd C dL_law_1196 ?_
  refine jv_ti (y := 2) (by decide) ?_
  refine jv_sld C SS (jv_vi (by decide)) dL_law_1197 ?_
  refine jv_ti (y := a2) s2 ?_
  refine jv_aload_n C dL_law_1198 3 rfl ?_
  refine jv_iload_n C dL_law_1199 0 rfl ?_
  refine jv_iconst (v := 3) C dL_law_1200 (by decide) ?_
  refine jv_iadd C dL_law_1201 ?_
  refine jv_ti (y := 3) (by decide) ?_
  refine jv_sld C SS (jv_vi (by decide)) dL_law_1202 ?_
  refine jv_ti (y := a3) s3 ?_
  refine jv_aload_n C dL_law_1203 3 rfl ?_
  refine jv_iload_n C dL_law_1204 0 rfl ?_
  refine jv_iconst (v := 4) C dL_law_1205 (by decide) ?_
  refine jv_iadd C dL_law_1206 ?_
  refine jv_ti (y := 4) (by decide) ?_
  refine jv_sld C SS (jv_vi (by decide)) dL_law_1207 ?_
  refine jv_ti (y := a4) s4 ?_
  refine jv_callV (na := 4) (As := [.int a1, .int a2, .int a3, .int a4]) (st := []) C (c_X8_missed l D kp (xf_0 hX) (xf_1 hX) a1 a2 a3 a4 ) gL_law_X8_missed rfl (by decide) (xf_0 hX) rfl rfl rfl q_X8_missed rfl ⟨by decide, by decide⟩ ⟨by decide, by decide⟩ (fun _ h => absurd h List.not_mem_nil) (Nat.le_of_ble_eq_true rfl) rfl dL_law_1208 (fun r n1 E_1 hp _ => ?_)
  obtain ⟨rfl, rfl, rfl⟩ := hp
  show jv_V l D vwCl kp G 84 99182 84 E 1211 [(3, .int 0), (2, .ref 58), (1, .ref 0), (0, .ref 1000000)] [.int (-2)]
  refine jv_aload_n C dL_law_1211 1 rfl ?_
  refine jv_aload_n C dL_law_1212 3 rfl ?_
  refine jv_iload_n C dL_law_1213 0 rfl ?_
  refine jv_iconst (v := 1) C dL_law_1214 (by decide) ?_
  refine jv_iadd C dL_law_1215 ?_
  refine jv_ti (y := 1) (by decide) ?_
  refine jv_sld C SS (jv_vi (by decide)) dL_law_1216 ?_
  refine jv_ti (y := a1) s1 ?_
  refine jv_aload_n C dL_law_1217 3 rfl ?_
  refine jv_iload_n C dL_law_1218 0 rfl ?_
  refine jv_iconst (v := 2) C dL_law_1219 (by decide) ?_
  refine jv_iadd C dL_law_1220 ?_
  refine jv_ti (y := 2) (by decide) ?_
  refine jv_sld C SS (jv_vi (by decide)) dL_law_1221 ?_
  refine jv_ti (y := a2) s2 ?_
  refine jv_aload_n C dL_law_1222 3 rfl ?_
  refine jv_iload_n C dL_law_1223 0 rfl ?_
  refine jv_iconst (v := 3) C dL_law_1224 (by decide) ?_
  refine jv_iadd C dL_law_1225 ?_
  refine jv_ti (y := 3) (by decide) ?_
  refine jv_sld C SS (jv_vi (by decide)) dL_law_1226 ?_
  refine jv_ti (y := a3) s3 ?_
  refine jv_aload_n C dL_law_1227 3 rfl ?_
  refine jv_iload_n C dL_law_1228 0 rfl ?_
  refine jv_iconst (v := 4) C dL_law_1229 (by decide) ?_
  refine jv_iadd C dL_law_1230 ?_
  refine jv_ti (y := 4) (by decide) ?_
  refine jv_sld C SS (jv_vi (by decide)) dL_law_1231 ?_
  refine jv_ti (y := a4) s4 ?_
  refine jv_callV (na := 4) (As := [.int a1, .int a2, .int a3, .int a4]) (st := [.int (-2)]) C (c_X9_missed l D kp (xf_58 hX) (xf_65 hX) a1 a2 a3 a4 ) gL_law_X9_missed rfl (by decide) (xf_58 hX) rfl rfl rfl q_X9_missed rfl ⟨by decide, by decide⟩ ⟨by decide, by decide⟩ (fun _ h => absurd h List.not_mem_nil) (Nat.le_of_ble_eq_true rfl) rfl dL_law_1232 (fun r n1 E_2 hp _ => ?_)
  cases hp
  show jv_V l D vwCl kp G 84 99182 n1 E_2 1235 [(3, .int 0), (2, .ref 58), (1, .ref 0), (0, .ref 1000000)] [.int (-2), .int (-2)]
  refine jv_icmp_eq (tgt := 2064) C dL_law_1235 (by decide) (fun _ => ?_) (fun h => absurd (by decide) h)
  exact law_tail C hnl SS QQ 84 99182 n1 (by decide) (by decide) E_2
theorem q_X8_state : yX8_state.cls ≠ "java/lang/invoke/MethodHandle" ∧ yX8_state.cls ≠ "java/lang/invoke/VarHandle" ∧ (parseMethodDescriptor yX8_state.desc).map (fun d => d.parameters.length) = some 2 := by decide +kernel
theorem q_X9_state : yX9_state.cls ≠ "java/lang/invoke/MethodHandle" ∧ yX9_state.cls ≠ "java/lang/invoke/VarHandle" ∧ (parseMethodDescriptor yX9_state.desc).map (fun d => d.parameters.length) = some 2 := by decide +kernel
set_option maxRecDepth 100000 in
set_option maxHeartbeats 8000000 in
theorem law_31 {l : Launch} {D : va_G} {kp : Nat → ClassId} {G : jv_G} {xs : Nat → Int32} (C : jv_C D vwCl kp G cL_law RL wsL_law room_1 jx_N) (hnl : jv_nL G = 4) (SS : jv_S G 6 xs) (QQ : jv_end l D vwCl kp G) {E : Nat → jv_E} (hX : jx_F E) {a1 a2 a3 a4 a5 : Int32} (s1 : xs (1 : Int32).toNatClampNeg = a1) (s2 : xs (2 : Int32).toNatClampNeg = a2) (s3 : xs (3 : Int32).toNatClampNeg = a3) (s4 : xs (4 : Int32).toNatClampNeg = a4) (s5 : xs (5 : Int32).toNatClampNeg = a5) : jv_V l D vwCl kp G 84 99182 84 E 1240 [(3, .int 0), (2, .ref 58), (1, .ref 0), (0, .ref 1000000)] [] := by
  refine jv_aload_n C dL_law_1240 2 rfl ?_
  refine jv_aload_n C dL_law_1241 3 rfl ?_
  refine jv_iload_n C dL_law_1242 0 rfl ?_
  refine jv_iconst (v := 1) C dL_law_1243 (by decide) ?_
  refine jv_iadd C dL_law_1244 ?_
  refine jv_ti (y := 1) (by decide) ?_
  refine jv_sld C SS (jv_vi (by decide)) dL_law_1245 ?_
  refine jv_ti (y := a1) s1 ?_
  refine jv_aload_n C dL_law_1246 3 rfl ?_
  refine jv_iload_n C dL_law_1247 0 rfl ?_
  refine jv_iconst (v := 2) C dL_law_1248 (by decide) ?_
  refine jv_iadd C dL_law_1249 ?_
  refine jv_ti (y := 2) (by decide) ?_
  refine jv_sld C SS (jv_vi (by decide)) dL_law_1250 ?_
  refine jv_ti (y := a2) s2 ?_
  refine jv_callV (na := 2) (As := [.int a1, .int a2]) (st := []) C (c_X8_state l D kp (xf_0 hX) (xf_1 hX) a1 a2 ) gL_law_X8_state rfl (by decide) (xf_0 hX) rfl rfl rfl q_X8_state rfl ⟨by decide, by decide⟩ ⟨by decide, by decide⟩ (fun _ h => absurd h List.not_mem_nil) (Nat.le_of_ble_eq_true rfl) rfl dL_law_1251 (fun r n1 E_1 hp _ => ?_)
  obtain ⟨rfl, rfl, rfl⟩ := hp
  show jv_V l D vwCl kp G 84 99182 84 E 1254 [(3, .int 0), (2, .ref 58), (1, .ref 0), (0, .ref 1000000)] [.int (-2)]
  refine jv_aload_n C dL_law_1254 1 rfl ?_
  refine jv_aload_n C dL_law_1255 3 rfl ?_
  refine jv_iload_n C dL_law_1256 0 rfl ?_
  refine jv_iconst (v := 1) C dL_law_1257 (by decide) ?_
  refine jv_iadd C dL_law_1258 ?_
  refine jv_ti (y := 1) (by decide) ?_
  refine jv_sld C SS (jv_vi (by decide)) dL_law_1259 ?_
  refine jv_ti (y := a1) s1 ?_
  refine jv_aload_n C dL_law_1260 3 rfl ?_
  refine jv_iload_n C dL_law_1261 0 rfl ?_
  refine jv_iconst (v := 2) C dL_law_1262 (by decide) ?_
  refine jv_iadd C dL_law_1263 ?_
  refine jv_ti (y := 2) (by decide) ?_
  refine jv_sld C SS (jv_vi (by decide)) dL_law_1264 ?_
  refine jv_ti (y := a2) s2 ?_
  refine jv_callV (na := 2) (As := [.int a1, .int a2]) (st := [.int (-2)]) C (c_X9_state l D kp (xf_58 hX) (xf_65 hX) a1 a2 ) gL_law_X9_state rfl (by decide) (xf_58 hX) rfl rfl rfl q_X9_state rfl ⟨by decide, by decide⟩ ⟨by decide, by decide⟩ (fun _ h => absurd h List.not_mem_nil) (Nat.le_of_ble_eq_true rfl) rfl dL_law_1265 (fun r n1 E_2 hp _ => ?_)
  cases hp
  show jv_V l D vwCl kp G 84 99182 n1 E_2 1268 [(3, .int 0), (2, .ref 58), (1, .ref 0), (0, .ref 1000000)] [.int (-2), .int (-2)]
  refine jv_icmp_eq (tgt := 2064) C dL_law_1268 (by decide) (fun _ => ?_) (fun h => absurd (by decide) h)
  exact law_tail C hnl SS QQ 84 99182 n1 (by decide) (by decide) E_2
theorem q_X8_change : yX8_change.cls ≠ "java/lang/invoke/MethodHandle" ∧ yX8_change.cls ≠ "java/lang/invoke/VarHandle" ∧ (parseMethodDescriptor yX8_change.desc).map (fun d => d.parameters.length) = some 4 := by decide +kernel
theorem q_X9_change : yX9_change.cls ≠ "java/lang/invoke/MethodHandle" ∧ yX9_change.cls ≠ "java/lang/invoke/VarHandle" ∧ (parseMethodDescriptor yX9_change.desc).map (fun d => d.parameters.length) = some 4 := by decide +kernel
set_option maxRecDepth 100000 in
set_option maxHeartbeats 8000000 in
theorem law_32 {l : Launch} {D : va_G} {kp : Nat → ClassId} {G : jv_G} {xs : Nat → Int32} (C : jv_C D vwCl kp G cL_law RL wsL_law room_1 jx_N) (hnl : jv_nL G = 4) (SS : jv_S G 6 xs) (QQ : jv_end l D vwCl kp G) {E : Nat → jv_E} (hX : jx_F E) {a1 a2 a3 a4 a5 : Int32} (s1 : xs (1 : Int32).toNatClampNeg = a1) (s2 : xs (2 : Int32).toNatClampNeg = a2) (s3 : xs (3 : Int32).toNatClampNeg = a3) (s4 : xs (4 : Int32).toNatClampNeg = a4) (s5 : xs (5 : Int32).toNatClampNeg = a5) : jv_V l D vwCl kp G 84 99182 84 E 1273 [(3, .int 0), (2, .ref 58), (1, .ref 0), (0, .ref 1000000)] [] := by
  refine jv_aload_n C dL_law_1273 2 rfl ?_
  refine jv_aload_n C dL_law_1274 3 rfl ?_
  refine jv_iload_n C dL_law_1275 0 rfl ?_
  refine jv_iconst (v := 1) C dL_law_1276 (by decide) ?_
  refine jv_iadd C dL_law_1277 ?_
  refine jv_ti (y := 1) (by decide) ?_
  refine jv_sld C SS (jv_vi (by decide)) dL_law_1278 ?_
  refine jv_ti (y := a1) s1 ?_
  refine jv_aload_n C dL_law_1279 3 rfl ?_
  refine jv_iload_n C dL_law_1280 0 rfl ?_
  refine jv_iconst (v := 2) C dL_law_1281 (by decide) ?_
  refine jv_iadd C dL_law_1282 ?_
  refine jv_ti (y := 2) (by decide) ?_
  refine jv_sld C SS (jv_vi (by decide)) dL_law_1283 ?_
  refine jv_ti (y := a2) s2 ?_
  refine jv_aload_n C dL_law_1284 3 rfl ?_
  refine jv_iload_n C dL_law_1285 0 rfl ?_
  refine jv_iconst (v := 3) C dL_law_1286 (by decide) ?_
  refine jv_iadd C dL_law_1287 ?_
  refine jv_ti (y := 3) (by decide) ?_
  refine jv_sld C SS (jv_vi (by decide)) dL_law_1288 ?_
  refine jv_ti (y := a3) s3 ?_
  refine jv_aload_n C dL_law_1289 3 rfl ?_
  refine jv_iload_n C dL_law_1290 0 rfl ?_
  refine jv_iconst (v := 4) C dL_law_1291 (by decide) ?_
  refine jv_iadd C dL_law_1292 ?_
  refine jv_ti (y := 4) (by decide) ?_
  refine jv_sld C SS (jv_vi (by decide)) dL_law_1293 ?_
  refine jv_ti (y := a4) s4 ?_
  refine jv_callV (na := 4) (As := [.int a1, .int a2, .int a3, .int a4]) (st := []) C (c_X8_change l D kp (xf_0 hX) (xf_1 hX) a1 a2 a3 a4 ) gL_law_X8_change rfl (by decide) (xf_0 hX) rfl rfl rfl q_X8_change rfl ⟨by decide, by decide⟩ ⟨by decide, by decide⟩ (fun _ h => absurd h List.not_mem_nil) (Nat.le_of_ble_eq_true rfl) rfl dL_law_1294 (fun r n1 E_1 hp _ => ?_)
  obtain ⟨rfl, rfl, rfl⟩ := hp
  show jv_V l D vwCl kp G 84 99182 84 E 1297 [(3, .int 0), (2, .ref 58), (1, .ref 0), (0, .ref 1000000)] [.int (-2)]
  refine jv_aload_n C dL_law_1297 1 rfl ?_
  refine jv_aload_n C dL_law_1298 3 rfl ?_
  refine jv_iload_n C dL_law_1299 0 rfl ?_
  refine jv_iconst (v := 1) C dL_law_1300 (by decide) ?_
  refine jv_iadd C dL_law_1301 ?_
  refine jv_ti (y := 1) (by decide) ?_
  refine jv_sld C SS (jv_vi (by decide)) dL_law_1302 ?_
  refine jv_ti (y := a1) s1 ?_
  refine jv_aload_n C dL_law_1303 3 rfl ?_
  refine jv_iload_n C dL_law_1304 0 rfl ?_
  refine jv_iconst (v := 2) C dL_law_1305 (by decide) ?_
  refine jv_iadd C dL_law_1306 ?_
  refine jv_ti (y := 2) (by decide) ?_
  refine jv_sld C SS (jv_vi (by decide)) dL_law_1307 ?_
  refine jv_ti (y := a2) s2 ?_
  refine jv_aload_n C dL_law_1308 3 rfl ?_
  refine jv_iload_n C dL_law_1309 0 rfl ?_
  refine jv_iconst (v := 3) C dL_law_1310 (by decide) ?_
  refine jv_iadd C dL_law_1311 ?_
  refine jv_ti (y := 3) (by decide) ?_
  refine jv_sld C SS (jv_vi (by decide)) dL_law_1312 ?_
  refine jv_ti (y := a3) s3 ?_
  refine jv_aload_n C dL_law_1313 3 rfl ?_
  refine jv_iload_n C dL_law_1314 0 rfl ?_
  refine jv_iconst (v := 4) C dL_law_1315 (by decide) ?_
  refine jv_iadd C dL_law_1316 ?_
  refine jv_ti (y := 4) (by decide) ?_
  refine jv_sld C SS (jv_vi (by decide)) dL_law_1317 ?_
  refine jv_ti (y := a4) s4 ?_
  refine jv_callV (na := 4) (As := [.int a1, .int a2, .int a3, .int a4]) (st := [.int (-2)]) C (c_X9_change l D kp (xf_58 hX) (xf_65 hX) a1 a2 a3 a4 ) gL_law_X9_change rfl (by decide) (xf_58 hX) rfl rfl rfl q_X9_change rfl ⟨by decide, by decide⟩ ⟨by decide, by decide⟩ (fun _ h => absurd h List.not_mem_nil) (Nat.le_of_ble_eq_true rfl) rfl dL_law_1318 (fun r n1 E_2 hp _ => ?_)
  cases hp
  show jv_V l D vwCl kp G 84 99182 n1 E_2 1321 [(3, .int 0), (2, .ref 58), (1, .ref 0), (0, .ref 1000000)] [.int (-2), .int (-2)]
  refine jv_icmp_eq (tgt := 2064) C dL_law_1321 (by decide) (fun _ => ?_) (fun h => absurd (by decide) h)
  exact law_tail C hnl SS QQ 84 99182 n1 (by decide) (by decide) E_2
theorem q_X8_changes : yX8_changes.cls ≠ "java/lang/invoke/MethodHandle" ∧ yX8_changes.cls ≠ "java/lang/invoke/VarHandle" ∧ (parseMethodDescriptor yX8_changes.desc).map (fun d => d.parameters.length) = some 5 := by decide +kernel
theorem q_X9_changes : yX9_changes.cls ≠ "java/lang/invoke/MethodHandle" ∧ yX9_changes.cls ≠ "java/lang/invoke/VarHandle" ∧ (parseMethodDescriptor yX9_changes.desc).map (fun d => d.parameters.length) = some 5 := by decide +kernel
set_option maxRecDepth 100000 in
set_option maxHeartbeats 8000000 in
theorem law_33 {l : Launch} {D : va_G} {kp : Nat → ClassId} {G : jv_G} {xs : Nat → Int32} (C : jv_C D vwCl kp G cL_law RL wsL_law room_1 jx_N) (hnl : jv_nL G = 4) (SS : jv_S G 6 xs) (QQ : jv_end l D vwCl kp G) {E : Nat → jv_E} (hX : jx_F E) {a1 a2 a3 a4 a5 : Int32} (s1 : xs (1 : Int32).toNatClampNeg = a1) (s2 : xs (2 : Int32).toNatClampNeg = a2) (s3 : xs (3 : Int32).toNatClampNeg = a3) (s4 : xs (4 : Int32).toNatClampNeg = a4) (s5 : xs (5 : Int32).toNatClampNeg = a5) : jv_V l D vwCl kp G 84 99182 84 E 1326 [(3, .int 0), (2, .ref 58), (1, .ref 0), (0, .ref 1000000)] [] := by
  refine jv_aload_n C dL_law_1326 2 rfl ?_
  refine jv_aload_n C dL_law_1327 3 rfl ?_
  refine jv_iload_n C dL_law_1328 0 rfl ?_
  refine jv_iconst (v := 1) C dL_law_1329 (by decide) ?_
  refine jv_iadd C dL_law_1330 ?_
  refine jv_ti (y := 1) (by decide) ?_
  refine jv_sld C SS (jv_vi (by decide)) dL_law_1331 ?_
  refine jv_ti (y := a1) s1 ?_
  refine jv_aload_n C dL_law_1332 3 rfl ?_
  refine jv_iload_n C dL_law_1333 0 rfl ?_
  refine jv_iconst (v := 2) C dL_law_1334 (by decide) ?_
  refine jv_iadd C dL_law_1335 ?_
  refine jv_ti (y := 2) (by decide) ?_
  refine jv_sld C SS (jv_vi (by decide)) dL_law_1336 ?_
  refine jv_ti (y := a2) s2 ?_
  refine jv_aload_n C dL_law_1337 3 rfl ?_
  refine jv_iload_n C dL_law_1338 0 rfl ?_
  refine jv_iconst (v := 3) C dL_law_1339 (by decide) ?_
  refine jv_iadd C dL_law_1340 ?_
  refine jv_ti (y := 3) (by decide) ?_
  refine jv_sld C SS (jv_vi (by decide)) dL_law_1341 ?_
  refine jv_ti (y := a3) s3 ?_
  refine jv_aload_n C dL_law_1342 3 rfl ?_
  refine jv_iload_n C dL_law_1343 0 rfl ?_
  refine jv_iconst (v := 4) C dL_law_1344 (by decide) ?_
  refine jv_iadd C dL_law_1345 ?_
  refine jv_ti (y := 4) (by decide) ?_
  refine jv_sld C SS (jv_vi (by decide)) dL_law_1346 ?_
  refine jv_ti (y := a4) s4 ?_
  refine jv_aload_n C dL_law_1347 3 rfl ?_
  refine jv_iload_n C dL_law_1348 0 rfl ?_
  refine jv_iconst (v := 5) C dL_law_1349 (by decide) ?_
  refine jv_iadd C dL_law_1350 ?_
  refine jv_ti (y := 5) (by decide) ?_
  refine jv_sld C SS (jv_vi (by decide)) dL_law_1351 ?_
  refine jv_ti (y := a5) s5 ?_
  refine jv_callV (na := 5) (As := [.int a1, .int a2, .int a3, .int a4, .int a5]) (st := []) C (c_X8_changes l D kp (xf_0 hX) (xf_1 hX) a1 a2 a3 a4 a5 ) gL_law_X8_changes rfl (by decide) (xf_0 hX) rfl rfl rfl q_X8_changes rfl ⟨by decide, by decide⟩ ⟨by decide, by decide⟩ (fun _ h => absurd h List.not_mem_nil) (Nat.le_of_ble_eq_true rfl) rfl dL_law_1352 (fun r n1 E_1 hp _ => ?_)
  obtain ⟨rfl, rfl, rfl⟩ := hp
  show jv_V l D vwCl kp G 84 99182 84 E 1355 [(3, .int 0), (2, .ref 58), (1, .ref 0), (0, .ref 1000000)] [.int (-2)]
  refine jv_aload_n C dL_law_1355 1 rfl ?_
  refine jv_aload_n C dL_law_1356 3 rfl ?_
  refine jv_iload_n C dL_law_1357 0 rfl ?_
  refine jv_iconst (v := 1) C dL_law_1358 (by decide) ?_
  refine jv_iadd C dL_law_1359 ?_
  refine jv_ti (y := 1) (by decide) ?_
  refine jv_sld C SS (jv_vi (by decide)) dL_law_1360 ?_
  refine jv_ti (y := a1) s1 ?_
  refine jv_aload_n C dL_law_1361 3 rfl ?_
  refine jv_iload_n C dL_law_1362 0 rfl ?_
  refine jv_iconst (v := 2) C dL_law_1363 (by decide) ?_
  refine jv_iadd C dL_law_1364 ?_
  refine jv_ti (y := 2) (by decide) ?_
  refine jv_sld C SS (jv_vi (by decide)) dL_law_1365 ?_
  refine jv_ti (y := a2) s2 ?_
  refine jv_aload_n C dL_law_1366 3 rfl ?_
  refine jv_iload_n C dL_law_1367 0 rfl ?_
  refine jv_iconst (v := 3) C dL_law_1368 (by decide) ?_
  refine jv_iadd C dL_law_1369 ?_
  refine jv_ti (y := 3) (by decide) ?_
  refine jv_sld C SS (jv_vi (by decide)) dL_law_1370 ?_
  refine jv_ti (y := a3) s3 ?_
  refine jv_aload_n C dL_law_1371 3 rfl ?_
  refine jv_iload_n C dL_law_1372 0 rfl ?_
  refine jv_iconst (v := 4) C dL_law_1373 (by decide) ?_
  refine jv_iadd C dL_law_1374 ?_
  refine jv_ti (y := 4) (by decide) ?_
  refine jv_sld C SS (jv_vi (by decide)) dL_law_1375 ?_
  refine jv_ti (y := a4) s4 ?_
  refine jv_aload_n C dL_law_1376 3 rfl ?_
  refine jv_iload_n C dL_law_1377 0 rfl ?_
  refine jv_iconst (v := 5) C dL_law_1378 (by decide) ?_
  refine jv_iadd C dL_law_1379 ?_
  refine jv_ti (y := 5) (by decide) ?_
  refine jv_sld C SS (jv_vi (by decide)) dL_law_1380 ?_
  refine jv_ti (y := a5) s5 ?_
  refine jv_callV (na := 5) (As := [.int a1, .int a2, .int a3, .int a4, .int a5]) (st := [.int (-2)]) C (c_X9_changes l D kp (xf_58 hX) (xf_65 hX) a1 a2 a3 a4 a5 ) gL_law_X9_changes rfl (by decide) (xf_58 hX) rfl rfl rfl q_X9_changes rfl ⟨by decide, by decide⟩ ⟨by decide, by decide⟩ (fun _ h => absurd h List.not_mem_nil) (Nat.le_of_ble_eq_true rfl) rfl dL_law_1381 (fun r n1 E_2 hp _ => ?_)
  cases hp
  show jv_V l D vwCl kp G 84 99182 n1 E_2 1384 [(3, .int 0), (2, .ref 58), (1, .ref 0), (0, .ref 1000000)] [.int (-2), .int (-2)]
  refine jv_icmp_eq (tgt := 2064) C dL_law_1384 (by decide) (fun _ => ?_) (fun h => absurd (by decide) h)
  exact law_tail C hnl SS QQ 84 99182 n1 (by decide) (by decide) E_2
theorem q_X8_rows : yX8_rows.cls ≠ "java/lang/invoke/MethodHandle" ∧ yX8_rows.cls ≠ "java/lang/invoke/VarHandle" ∧ (parseMethodDescriptor yX8_rows.desc).map (fun d => d.parameters.length) = some 3 := by decide +kernel
theorem q_X9_rows : yX9_rows.cls ≠ "java/lang/invoke/MethodHandle" ∧ yX9_rows.cls ≠ "java/lang/invoke/VarHandle" ∧ (parseMethodDescriptor yX9_rows.desc).map (fun d => d.parameters.length) = some 3 := by decide +kernel
set_option maxRecDepth 100000 in
set_option maxHeartbeats 8000000 in
theorem law_34 {l : Launch} {D : va_G} {kp : Nat → ClassId} {G : jv_G} {xs : Nat → Int32} (C : jv_C D vwCl kp G cL_law RL wsL_law room_1 jx_N) (hnl : jv_nL G = 4) (SS : jv_S G 6 xs) (QQ : jv_end l D vwCl kp G) {E : Nat → jv_E} (hX : jx_F E) {a1 a2 a3 a4 a5 : Int32} (s1 : xs (1 : Int32).toNatClampNeg = a1) (s2 : xs (2 : Int32).toNatClampNeg = a2) (s3 : xs (3 : Int32).toNatClampNeg = a3) (s4 : xs (4 : Int32).toNatClampNeg = a4) (s5 : xs (5 : Int32).toNatClampNeg = a5) : jv_V l D vwCl kp G 84 99182 84 E 1389 [(3, .int 0), (2, .ref 58), (1, .ref 0), (0, .ref 1000000)] [] := by
  refine jv_aload_n C dL_law_1389 2 rfl ?_
  refine jv_aload_n C dL_law_1390 3 rfl ?_
  refine jv_iload_n C dL_law_1391 0 rfl ?_
  refine jv_iconst (v := 1) C dL_law_1392 (by decide) ?_
  refine jv_iadd C dL_law_1393 ?_
  refine jv_ti (y := 1) (by decide) ?_
  refine jv_sld C SS (jv_vi (by decide)) dL_law_1394 ?_
  refine jv_ti (y := a1) s1 ?_
  refine jv_aload_n C dL_law_1395 3 rfl ?_
  refine jv_iload_n C dL_law_1396 0 rfl ?_
  refine jv_iconst (v := 2) C dL_law_1397 (by decide) ?_
  refine jv_iadd C dL_law_1398 ?_
  refine jv_ti (y := 2) (by decide) ?_
  refine jv_sld C SS (jv_vi (by decide)) dL_law_1399 ?_
  refine jv_ti (y := a2) s2 ?_
  refine jv_aload_n C dL_law_1400 3 rfl ?_
  refine jv_iload_n C dL_law_1401 0 rfl ?_
  refine jv_iconst (v := 3) C dL_law_1402 (by decide) ?_
  refine jv_iadd C dL_law_1403 ?_
  refine jv_ti (y := 3) (by decide) ?_
  refine jv_sld C SS (jv_vi (by decide)) dL_law_1404 ?_
  refine jv_ti (y := a3) s3 ?_
  refine jv_callV (na := 3) (As := [.int a1, .int a2, .int a3]) (st := []) C (c_X8_rows l D kp (xf_0 hX) (xf_29 hX) (xf_30 hX) a1 a2 a3 ) gL_law_X8_rows rfl (by decide) (xf_0 hX) rfl rfl rfl q_X8_rows rfl ⟨by decide, by decide⟩ ⟨by decide, by decide⟩ (fun _ h => absurd h List.not_mem_nil) (Nat.le_of_ble_eq_true rfl) rfl dL_law_1405 (fun r n1 E_1 hp _ => ?_)
  obtain ⟨rfl, hf2⟩ := hp
  show jv_V l D vwCl kp G 84 99182 n1 E_1 1408 [(3, .int 0), (2, .ref 58), (1, .ref 0), (0, .ref 1000000)] [.long (jr_rows a1 a2 a3)]
  refine jv_aload_n C dL_law_1408 1 rfl ?_
  refine jv_aload_n C dL_law_1409 3 rfl ?_
  refine jv_iload_n C dL_law_1410 0 rfl ?_
  refine jv_iconst (v := 1) C dL_law_1411 (by decide) ?_
  refine jv_iadd C dL_law_1412 ?_
  refine jv_ti (y := 1) (by decide) ?_
  refine jv_sld C SS (jv_vi (by decide)) dL_law_1413 ?_
  refine jv_ti (y := a1) s1 ?_
  refine jv_aload_n C dL_law_1414 3 rfl ?_
  refine jv_iload_n C dL_law_1415 0 rfl ?_
  refine jv_iconst (v := 2) C dL_law_1416 (by decide) ?_
  refine jv_iadd C dL_law_1417 ?_
  refine jv_ti (y := 2) (by decide) ?_
  refine jv_sld C SS (jv_vi (by decide)) dL_law_1418 ?_
  refine jv_ti (y := a2) s2 ?_
  refine jv_aload_n C dL_law_1419 3 rfl ?_
  refine jv_iload_n C dL_law_1420 0 rfl ?_
  refine jv_iconst (v := 3) C dL_law_1421 (by decide) ?_
  refine jv_iadd C dL_law_1422 ?_
  refine jv_ti (y := 3) (by decide) ?_
  refine jv_sld C SS (jv_vi (by decide)) dL_law_1423 ?_
  refine jv_ti (y := a3) s3 ?_
  refine jv_callV (na := 3) (As := [.int a1, .int a2, .int a3]) (st := [.long (jr_rows a1 a2 a3)]) C (c_X9_rows l D kp ((hf2 58 (by decide)).trans (xf_58 hX)) ((hf2 82 (by decide)).trans (xf_82 hX)) a1 a2 a3 ) gL_law_X9_rows rfl (by decide) ((hf2 58 (by decide)).trans (xf_58 hX)) rfl rfl rfl q_X9_rows rfl ⟨by decide, by decide⟩ ⟨by decide, by decide⟩ (fun _ h => absurd h List.not_mem_nil) (Nat.le_of_ble_eq_true rfl) rfl dL_law_1424 (fun r n1 E_3 hp _ => ?_)
  cases hp
  show jv_V l D vwCl kp G 84 99182 n1 E_3 1427 [(3, .int 0), (2, .ref 58), (1, .ref 0), (0, .ref 1000000)] [.long (jr_rows a1 a2 a3), .long (jr_rows a1 a2 a3)]
  refine jv_lcmp C dL_law_1427 ?_
  refine jv_ti (y := 0) (jv_lc_self _) ?_
  refine jv_if_eq (tgt := 2064) C dL_law_1428 (by decide) (fun _ => ?_) (fun h => absurd (by decide) h)
  exact law_tail C hnl SS QQ 84 99182 n1 (by decide) (by decide) E_3
theorem q_X8_least : yX8_least.cls ≠ "java/lang/invoke/MethodHandle" ∧ yX8_least.cls ≠ "java/lang/invoke/VarHandle" ∧ (parseMethodDescriptor yX8_least.desc).map (fun d => d.parameters.length) = some 4 := by decide +kernel
theorem q_X9_least : yX9_least.cls ≠ "java/lang/invoke/MethodHandle" ∧ yX9_least.cls ≠ "java/lang/invoke/VarHandle" ∧ (parseMethodDescriptor yX9_least.desc).map (fun d => d.parameters.length) = some 4 := by decide +kernel
set_option maxRecDepth 100000 in
set_option maxHeartbeats 8000000 in
theorem law_35 {l : Launch} {D : va_G} {kp : Nat → ClassId} {G : jv_G} {xs : Nat → Int32} (C : jv_C D vwCl kp G cL_law RL wsL_law room_1 jx_N) (hnl : jv_nL G = 4) (SS : jv_S G 6 xs) (QQ : jv_end l D vwCl kp G) {E : Nat → jv_E} (hX : jx_F E) {a1 a2 a3 a4 a5 : Int32} (s1 : xs (1 : Int32).toNatClampNeg = a1) (s2 : xs (2 : Int32).toNatClampNeg = a2) (s3 : xs (3 : Int32).toNatClampNeg = a3) (s4 : xs (4 : Int32).toNatClampNeg = a4) (s5 : xs (5 : Int32).toNatClampNeg = a5) : jv_V l D vwCl kp G 84 99182 84 E 1433 [(3, .int 0), (2, .ref 58), (1, .ref 0), (0, .ref 1000000)] [] := by
  refine jv_aload_n C dL_law_1433 2 rfl ?_
  refine jv_aload_n C dL_law_1434 3 rfl ?_
  refine jv_iload_n C dL_law_1435 0 rfl ?_
  refine jv_iconst (v := 1) C dL_law_1436 (by decide) ?_
  refine jv_iadd C dL_law_1437 ?_
  refine jv_ti (y := 1) (by decide) ?_
  refine jv_sld C SS (jv_vi (by decide)) dL_law_1438 ?_
  refine jv_ti (y := a1) s1 ?_
  refine jv_aload_n C dL_law_1439 3 rfl ?_
  refine jv_iload_n C dL_law_1440 0 rfl ?_
  refine jv_iconst (v := 2) C dL_law_1441 (by decide) ?_
  refine jv_iadd C dL_law_1442 ?_
  refine jv_ti (y := 2) (by decide) ?_
  refine jv_sld C SS (jv_vi (by decide)) dL_law_1443 ?_
  refine jv_ti (y := a2) s2 ?_
  refine jv_aload_n C dL_law_1444 3 rfl ?_
  refine jv_iload_n C dL_law_1445 0 rfl ?_
  refine jv_iconst (v := 3) C dL_law_1446 (by decide) ?_
  refine jv_iadd C dL_law_1447 ?_
  refine jv_ti (y := 3) (by decide) ?_
  refine jv_sld C SS (jv_vi (by decide)) dL_law_1448 ?_
  refine jv_ti (y := a3) s3 ?_
  refine jv_aload_n C dL_law_1449 3 rfl ?_
  refine jv_iload_n C dL_law_1450 0 rfl ?_
  refine jv_iconst (v := 4) C dL_law_1451 (by decide) ?_
  refine jv_iadd C dL_law_1452 ?_
  refine jv_ti (y := 4) (by decide) ?_
  refine jv_sld C SS (jv_vi (by decide)) dL_law_1453 ?_
  refine jv_ti (y := a4) s4 ?_
  refine jv_callV (na := 4) (As := [.int a1, .int a2, .int a3, .int a4]) (st := []) C (c_X8_least l D kp (xf_0 hX) (xf_29 hX) (xf_30 hX) a1 a2 a3 a4 ) gL_law_X8_least rfl (by decide) (xf_0 hX) rfl rfl rfl q_X8_least rfl ⟨by decide, by decide⟩ ⟨by decide, by decide⟩ (fun _ h => absurd h List.not_mem_nil) (Nat.le_of_ble_eq_true rfl) rfl dL_law_1454 (fun r n1 E_1 hp _ => ?_)
  obtain ⟨rfl, hf2⟩ := hp
  show jv_V l D vwCl kp G 84 99182 n1 E_1 1457 [(3, .int 0), (2, .ref 58), (1, .ref 0), (0, .ref 1000000)] [.int (jr_least a1 a2 a3 a4)]
  refine jv_aload_n C dL_law_1457 1 rfl ?_
  refine jv_aload_n C dL_law_1458 3 rfl ?_
  refine jv_iload_n C dL_law_1459 0 rfl ?_
  refine jv_iconst (v := 1) C dL_law_1460 (by decide) ?_
  refine jv_iadd C dL_law_1461 ?_
  refine jv_ti (y := 1) (by decide) ?_
  refine jv_sld C SS (jv_vi (by decide)) dL_law_1462 ?_
  refine jv_ti (y := a1) s1 ?_
  refine jv_aload_n C dL_law_1463 3 rfl ?_
  refine jv_iload_n C dL_law_1464 0 rfl ?_
  refine jv_iconst (v := 2) C dL_law_1465 (by decide) ?_
  refine jv_iadd C dL_law_1466 ?_
  refine jv_ti (y := 2) (by decide) ?_
  refine jv_sld C SS (jv_vi (by decide)) dL_law_1467 ?_
  refine jv_ti (y := a2) s2 ?_
  refine jv_aload_n C dL_law_1468 3 rfl ?_
  refine jv_iload_n C dL_law_1469 0 rfl ?_
  refine jv_iconst (v := 3) C dL_law_1470 (by decide) ?_
  refine jv_iadd C dL_law_1471 ?_
  refine jv_ti (y := 3) (by decide) ?_
  refine jv_sld C SS (jv_vi (by decide)) dL_law_1472 ?_
  refine jv_ti (y := a3) s3 ?_
  refine jv_aload_n C dL_law_1473 3 rfl ?_
  refine jv_iload_n C dL_law_1474 0 rfl ?_
  refine jv_iconst (v := 4) C dL_law_1475 (by decide) ?_
  refine jv_iadd C dL_law_1476 ?_
  refine jv_ti (y := 4) (by decide) ?_
  refine jv_sld C SS (jv_vi (by decide)) dL_law_1477 ?_
  refine jv_ti (y := a4) s4 ?_
  refine jv_callV (na := 4) (As := [.int a1, .int a2, .int a3, .int a4]) (st := [.int (jr_least a1 a2 a3 a4)]) C (c_X9_least l D kp ((hf2 58 (by decide)).trans (xf_58 hX)) ((hf2 82 (by decide)).trans (xf_82 hX)) a1 a2 a3 a4 ) gL_law_X9_least rfl (by decide) ((hf2 58 (by decide)).trans (xf_58 hX)) rfl rfl rfl q_X9_least rfl ⟨by decide, by decide⟩ ⟨by decide, by decide⟩ (fun _ h => absurd h List.not_mem_nil) (Nat.le_of_ble_eq_true rfl) rfl dL_law_1478 (fun r n1 E_3 hp _ => ?_)
  cases hp
  show jv_V l D vwCl kp G 84 99182 n1 E_3 1481 [(3, .int 0), (2, .ref 58), (1, .ref 0), (0, .ref 1000000)] [.int (jr_least a1 a2 a3 a4), .int (jr_least a1 a2 a3 a4)]
  refine jv_icmp_eq (tgt := 2064) C dL_law_1481 (by decide) (fun _ => ?_) (fun h => absurd rfl h)
  exact law_tail C hnl SS QQ 84 99182 n1 (by decide) (by decide) E_3
theorem q_X8_exchange : yX8_exchange.cls ≠ "java/lang/invoke/MethodHandle" ∧ yX8_exchange.cls ≠ "java/lang/invoke/VarHandle" ∧ (parseMethodDescriptor yX8_exchange.desc).map (fun d => d.parameters.length) = some 4 := by decide +kernel
theorem q_X9_exchange : yX9_exchange.cls ≠ "java/lang/invoke/MethodHandle" ∧ yX9_exchange.cls ≠ "java/lang/invoke/VarHandle" ∧ (parseMethodDescriptor yX9_exchange.desc).map (fun d => d.parameters.length) = some 4 := by decide +kernel
set_option maxRecDepth 100000 in
set_option maxHeartbeats 8000000 in
theorem law_36 {l : Launch} {D : va_G} {kp : Nat → ClassId} {G : jv_G} {xs : Nat → Int32} (C : jv_C D vwCl kp G cL_law RL wsL_law room_1 jx_N) (hnl : jv_nL G = 4) (SS : jv_S G 6 xs) (QQ : jv_end l D vwCl kp G) {E : Nat → jv_E} (hX : jx_F E) {a1 a2 a3 a4 a5 : Int32} (s1 : xs (1 : Int32).toNatClampNeg = a1) (s2 : xs (2 : Int32).toNatClampNeg = a2) (s3 : xs (3 : Int32).toNatClampNeg = a3) (s4 : xs (4 : Int32).toNatClampNeg = a4) (s5 : xs (5 : Int32).toNatClampNeg = a5) : jv_V l D vwCl kp G 84 99182 84 E 1486 [(3, .int 0), (2, .ref 58), (1, .ref 0), (0, .ref 1000000)] [] := by
  refine jv_aload_n C dL_law_1486 2 rfl ?_
  refine jv_aload_n C dL_law_1487 3 rfl ?_
  refine jv_iload_n C dL_law_1488 0 rfl ?_
  refine jv_iconst (v := 1) C dL_law_1489 (by decide) ?_
  refine jv_iadd C dL_law_1490 ?_
  refine jv_ti (y := 1) (by decide) ?_
  refine jv_sld C SS (jv_vi (by decide)) dL_law_1491 ?_
  refine jv_ti (y := a1) s1 ?_
  refine jv_aload_n C dL_law_1492 3 rfl ?_
  refine jv_iload_n C dL_law_1493 0 rfl ?_
  refine jv_iconst (v := 2) C dL_law_1494 (by decide) ?_
  refine jv_iadd C dL_law_1495 ?_
  refine jv_ti (y := 2) (by decide) ?_
  refine jv_sld C SS (jv_vi (by decide)) dL_law_1496 ?_
  refine jv_ti (y := a2) s2 ?_
  refine jv_aload_n C dL_law_1497 3 rfl ?_
  refine jv_iload_n C dL_law_1498 0 rfl ?_
  refine jv_iconst (v := 3) C dL_law_1499 (by decide) ?_
  refine jv_iadd C dL_law_1500 ?_
  refine jv_ti (y := 3) (by decide) ?_
  refine jv_sld C SS (jv_vi (by decide)) dL_law_1501 ?_
  refine jv_ti (y := a3) s3 ?_
  refine jv_aload_n C dL_law_1502 3 rfl ?_
  refine jv_iload_n C dL_law_1503 0 rfl ?_
  refine jv_iconst (v := 4) C dL_law_1504 (by decide) ?_
  refine jv_iadd C dL_law_1505 ?_
  refine jv_ti (y := 4) (by decide) ?_
  refine jv_sld C SS (jv_vi (by decide)) dL_law_1506 ?_
  refine jv_ti (y := a4) s4 ?_
  refine jv_callV (na := 4) (As := [.int a1, .int a2, .int a3, .int a4]) (st := []) C (c_X8_exchange l D kp (xf_0 hX) (xf_1 hX) a1 a2 a3 a4 ) gL_law_X8_exchange rfl (by decide) (xf_0 hX) rfl rfl rfl q_X8_exchange rfl ⟨by decide, by decide⟩ ⟨by decide, by decide⟩ (fun _ h => absurd h List.not_mem_nil) (Nat.le_of_ble_eq_true rfl) rfl dL_law_1507 (fun r n1 E_1 hp _ => ?_)
  obtain ⟨rfl, rfl, rfl⟩ := hp
  show jv_V l D vwCl kp G 84 99182 84 E 1510 [(3, .int 0), (2, .ref 58), (1, .ref 0), (0, .ref 1000000)] [.int (-2)]
  refine jv_aload_n C dL_law_1510 1 rfl ?_
  refine jv_aload_n C dL_law_1511 3 rfl ?_
  refine jv_iload_n C dL_law_1512 0 rfl ?_
  refine jv_iconst (v := 1) C dL_law_1513 (by decide) ?_
  refine jv_iadd C dL_law_1514 ?_
  refine jv_ti (y := 1) (by decide) ?_
  refine jv_sld C SS (jv_vi (by decide)) dL_law_1515 ?_
  refine jv_ti (y := a1) s1 ?_
  refine jv_aload_n C dL_law_1516 3 rfl ?_
  refine jv_iload_n C dL_law_1517 0 rfl ?_
  refine jv_iconst (v := 2) C dL_law_1518 (by decide) ?_
  refine jv_iadd C dL_law_1519 ?_
  refine jv_ti (y := 2) (by decide) ?_
  refine jv_sld C SS (jv_vi (by decide)) dL_law_1520 ?_
  refine jv_ti (y := a2) s2 ?_
  refine jv_aload_n C dL_law_1521 3 rfl ?_
  refine jv_iload_n C dL_law_1522 0 rfl ?_
  refine jv_iconst (v := 3) C dL_law_1523 (by decide) ?_
  refine jv_iadd C dL_law_1524 ?_
  refine jv_ti (y := 3) (by decide) ?_
  refine jv_sld C SS (jv_vi (by decide)) dL_law_1525 ?_
  refine jv_ti (y := a3) s3 ?_
  refine jv_aload_n C dL_law_1526 3 rfl ?_
  refine jv_iload_n C dL_law_1527 0 rfl ?_
  refine jv_iconst (v := 4) C dL_law_1528 (by decide) ?_
  refine jv_iadd C dL_law_1529 ?_
  refine jv_ti (y := 4) (by decide) ?_
  refine jv_sld C SS (jv_vi (by decide)) dL_law_1530 ?_
  refine jv_ti (y := a4) s4 ?_
  refine jv_callV (na := 4) (As := [.int a1, .int a2, .int a3, .int a4]) (st := [.int (-2)]) C (c_X9_exchange l D kp (xf_58 hX) (xf_65 hX) a1 a2 a3 a4 ) gL_law_X9_exchange rfl (by decide) (xf_58 hX) rfl rfl rfl q_X9_exchange rfl ⟨by decide, by decide⟩ ⟨by decide, by decide⟩ (fun _ h => absurd h List.not_mem_nil) (Nat.le_of_ble_eq_true rfl) rfl dL_law_1531 (fun r n1 E_2 hp _ => ?_)
  cases hp
  show jv_V l D vwCl kp G 84 99182 n1 E_2 1534 [(3, .int 0), (2, .ref 58), (1, .ref 0), (0, .ref 1000000)] [.int (-2), .int (-2)]
  refine jv_icmp_eq (tgt := 2064) C dL_law_1534 (by decide) (fun _ => ?_) (fun h => absurd (by decide) h)
  exact law_tail C hnl SS QQ 84 99182 n1 (by decide) (by decide) E_2
theorem q_X8_backwards : yX8_backwards.cls ≠ "java/lang/invoke/MethodHandle" ∧ yX8_backwards.cls ≠ "java/lang/invoke/VarHandle" ∧ (parseMethodDescriptor yX8_backwards.desc).map (fun d => d.parameters.length) = some 0 := by decide +kernel
theorem q_X9_backwards : yX9_backwards.cls ≠ "java/lang/invoke/MethodHandle" ∧ yX9_backwards.cls ≠ "java/lang/invoke/VarHandle" ∧ (parseMethodDescriptor yX9_backwards.desc).map (fun d => d.parameters.length) = some 0 := by decide +kernel
set_option maxRecDepth 100000 in
set_option maxHeartbeats 8000000 in
theorem law_37 {l : Launch} {D : va_G} {kp : Nat → ClassId} {G : jv_G} {xs : Nat → Int32} (C : jv_C D vwCl kp G cL_law RL wsL_law room_1 jx_N) (hnl : jv_nL G = 4) (SS : jv_S G 6 xs) (QQ : jv_end l D vwCl kp G) {E : Nat → jv_E} (hX : jx_F E) {a1 a2 a3 a4 a5 : Int32} (s1 : xs (1 : Int32).toNatClampNeg = a1) (s2 : xs (2 : Int32).toNatClampNeg = a2) (s3 : xs (3 : Int32).toNatClampNeg = a3) (s4 : xs (4 : Int32).toNatClampNeg = a4) (s5 : xs (5 : Int32).toNatClampNeg = a5) : jv_V l D vwCl kp G 84 99182 84 E 1539 [(3, .int 0), (2, .ref 58), (1, .ref 0), (0, .ref 1000000)] [] := by
  refine jv_aload_n C dL_law_1539 2 rfl ?_
  refine jv_callV (na := 0) (As := []) (st := []) C (c_X8_backwards l D kp (xf_0 hX) (xf_1 hX)  ) gL_law_X8_backwards rfl (by decide) (xf_0 hX) rfl rfl rfl q_X8_backwards rfl ⟨by decide, by decide⟩ ⟨by decide, by decide⟩ (fun _ h => absurd h List.not_mem_nil) (Nat.le_of_ble_eq_true rfl) rfl dL_law_1540 (fun r n1 E_1 hp _ => ?_)
  obtain ⟨rfl, rfl, rfl⟩ := hp
  show jv_V l D vwCl kp G 84 99182 84 E 1543 [(3, .int 0), (2, .ref 58), (1, .ref 0), (0, .ref 1000000)] [.int (-2)]
  refine jv_aload_n C dL_law_1543 1 rfl ?_
  refine jv_callV (na := 0) (As := []) (st := [.int (-2)]) C (c_X9_backwards l D kp (xf_58 hX) (xf_65 hX)  ) gL_law_X9_backwards rfl (by decide) (xf_58 hX) rfl rfl rfl q_X9_backwards rfl ⟨by decide, by decide⟩ ⟨by decide, by decide⟩ (fun _ h => absurd h List.not_mem_nil) (Nat.le_of_ble_eq_true rfl) rfl dL_law_1544 (fun r n1 E_2 hp _ => ?_)
  cases hp
  show jv_V l D vwCl kp G 84 99182 n1 E_2 1547 [(3, .int 0), (2, .ref 58), (1, .ref 0), (0, .ref 1000000)] [.int (-2), .int (-2)]
  refine jv_icmp_eq (tgt := 2064) C dL_law_1547 (by decide) (fun _ => ?_) (fun h => absurd (by decide) h)
  exact law_tail C hnl SS QQ 84 99182 n1 (by decide) (by decide) E_2
theorem q_X8_ground : yX8_ground.cls ≠ "java/lang/invoke/MethodHandle" ∧ yX8_ground.cls ≠ "java/lang/invoke/VarHandle" ∧ (parseMethodDescriptor yX8_ground.desc).map (fun d => d.parameters.length) = some 2 := by decide +kernel
theorem q_X9_ground : yX9_ground.cls ≠ "java/lang/invoke/MethodHandle" ∧ yX9_ground.cls ≠ "java/lang/invoke/VarHandle" ∧ (parseMethodDescriptor yX9_ground.desc).map (fun d => d.parameters.length) = some 2 := by decide +kernel
set_option maxRecDepth 100000 in
set_option maxHeartbeats 8000000 in
theorem law_38 {l : Launch} {D : va_G} {kp : Nat → ClassId} {G : jv_G} {xs : Nat → Int32} (C : jv_C D vwCl kp G cL_law RL wsL_law room_1 jx_N) (hnl : jv_nL G = 4) (SS : jv_S G 6 xs) (QQ : jv_end l D vwCl kp G) {E : Nat → jv_E} (hX : jx_F E) {a1 a2 a3 a4 a5 : Int32} (s1 : xs (1 : Int32).toNatClampNeg = a1) (s2 : xs (2 : Int32).toNatClampNeg = a2) (s3 : xs (3 : Int32).toNatClampNeg = a3) (s4 : xs (4 : Int32).toNatClampNeg = a4) (s5 : xs (5 : Int32).toNatClampNeg = a5) : jv_V l D vwCl kp G 84 99182 84 E 1552 [(3, .int 0), (2, .ref 58), (1, .ref 0), (0, .ref 1000000)] [] := by
  refine jv_aload_n C dL_law_1552 2 rfl ?_
  refine jv_aload_n C dL_law_1553 3 rfl ?_
  refine jv_iload_n C dL_law_1554 0 rfl ?_
  refine jv_iconst (v := 1) C dL_law_1555 (by decide) ?_
  refine jv_iadd C dL_law_1556 ?_
  refine jv_ti (y := 1) (by decide) ?_
  refine jv_sld C SS (jv_vi (by decide)) dL_law_1557 ?_
  refine jv_ti (y := a1) s1 ?_
  refine jv_aload_n C dL_law_1558 3 rfl ?_
  refine jv_iload_n C dL_law_1559 0 rfl ?_
  refine jv_iconst (v := 2) C dL_law_1560 (by decide) ?_
  refine jv_iadd C dL_law_1561 ?_
  refine jv_ti (y := 2) (by decide) ?_
  refine jv_sld C SS (jv_vi (by decide)) dL_law_1562 ?_
  refine jv_ti (y := a2) s2 ?_
  refine jv_callV (na := 2) (As := [.int a1, .int a2]) (st := []) C (c_X8_ground l D kp (xf_0 hX) (xf_1 hX) a1 a2 ) gL_law_X8_ground rfl (by decide) (xf_0 hX) rfl rfl rfl q_X8_ground rfl ⟨by decide, by decide⟩ ⟨by decide, by decide⟩ (fun _ h => absurd h List.not_mem_nil) (Nat.le_of_ble_eq_true rfl) rfl dL_law_1563 (fun r n1 E_1 hp _ => ?_)
  obtain ⟨rfl, rfl, rfl⟩ := hp
  show jv_V l D vwCl kp G 84 99182 84 E 1566 [(3, .int 0), (2, .ref 58), (1, .ref 0), (0, .ref 1000000)] [.int (-2)]
  refine jv_aload_n C dL_law_1566 1 rfl ?_
  refine jv_aload_n C dL_law_1567 3 rfl ?_
  refine jv_iload_n C dL_law_1568 0 rfl ?_
  refine jv_iconst (v := 1) C dL_law_1569 (by decide) ?_
  refine jv_iadd C dL_law_1570 ?_
  refine jv_ti (y := 1) (by decide) ?_
  refine jv_sld C SS (jv_vi (by decide)) dL_law_1571 ?_
  refine jv_ti (y := a1) s1 ?_
  refine jv_aload_n C dL_law_1572 3 rfl ?_
  refine jv_iload_n C dL_law_1573 0 rfl ?_
  refine jv_iconst (v := 2) C dL_law_1574 (by decide) ?_
  refine jv_iadd C dL_law_1575 ?_
  refine jv_ti (y := 2) (by decide) ?_
  refine jv_sld C SS (jv_vi (by decide)) dL_law_1576 ?_
  refine jv_ti (y := a2) s2 ?_
  refine jv_callV (na := 2) (As := [.int a1, .int a2]) (st := [.int (-2)]) C (c_X9_ground l D kp (xf_58 hX) (xf_65 hX) a1 a2 ) gL_law_X9_ground rfl (by decide) (xf_58 hX) rfl rfl rfl q_X9_ground rfl ⟨by decide, by decide⟩ ⟨by decide, by decide⟩ (fun _ h => absurd h List.not_mem_nil) (Nat.le_of_ble_eq_true rfl) rfl dL_law_1577 (fun r n1 E_2 hp _ => ?_)
  cases hp
  show jv_V l D vwCl kp G 84 99182 n1 E_2 1580 [(3, .int 0), (2, .ref 58), (1, .ref 0), (0, .ref 1000000)] [.int (-2), .int (-2)]
  refine jv_icmp_eq (tgt := 2064) C dL_law_1580 (by decide) (fun _ => ?_) (fun h => absurd (by decide) h)
  exact law_tail C hnl SS QQ 84 99182 n1 (by decide) (by decide) E_2
theorem q_X8_latest : yX8_latest.cls ≠ "java/lang/invoke/MethodHandle" ∧ yX8_latest.cls ≠ "java/lang/invoke/VarHandle" ∧ (parseMethodDescriptor yX8_latest.desc).map (fun d => d.parameters.length) = some 2 := by decide +kernel
theorem q_X9_latest : yX9_latest.cls ≠ "java/lang/invoke/MethodHandle" ∧ yX9_latest.cls ≠ "java/lang/invoke/VarHandle" ∧ (parseMethodDescriptor yX9_latest.desc).map (fun d => d.parameters.length) = some 2 := by decide +kernel
set_option maxRecDepth 100000 in
set_option maxHeartbeats 8000000 in
theorem law_39 {l : Launch} {D : va_G} {kp : Nat → ClassId} {G : jv_G} {xs : Nat → Int32} (C : jv_C D vwCl kp G cL_law RL wsL_law room_1 jx_N) (hnl : jv_nL G = 4) (SS : jv_S G 6 xs) (QQ : jv_end l D vwCl kp G) {E : Nat → jv_E} (hX : jx_F E) {a1 a2 a3 a4 a5 : Int32} (s1 : xs (1 : Int32).toNatClampNeg = a1) (s2 : xs (2 : Int32).toNatClampNeg = a2) (s3 : xs (3 : Int32).toNatClampNeg = a3) (s4 : xs (4 : Int32).toNatClampNeg = a4) (s5 : xs (5 : Int32).toNatClampNeg = a5) : jv_V l D vwCl kp G 84 99182 84 E 1585 [(3, .int 0), (2, .ref 58), (1, .ref 0), (0, .ref 1000000)] [] := by
  refine jv_aload_n C dL_law_1585 2 rfl ?_
  refine jv_aload_n C dL_law_1586 3 rfl ?_
  refine jv_iload_n C dL_law_1587 0 rfl ?_
  refine jv_iconst (v := 1) C dL_law_1588 (by decide) ?_
  refine jv_iadd C dL_law_1589 ?_
  refine jv_ti (y := 1) (by decide) ?_
  refine jv_sld C SS (jv_vi (by decide)) dL_law_1590 ?_
  refine jv_ti (y := a1) s1 ?_
  refine jv_aload_n C dL_law_1591 3 rfl ?_
  refine jv_iload_n C dL_law_1592 0 rfl ?_
  refine jv_iconst (v := 2) C dL_law_1593 (by decide) ?_
  refine jv_iadd C dL_law_1594 ?_
  refine jv_ti (y := 2) (by decide) ?_
  refine jv_sld C SS (jv_vi (by decide)) dL_law_1595 ?_
  refine jv_ti (y := a2) s2 ?_
  refine jv_callV (na := 2) (As := [.int a1, .int a2]) (st := []) C (c_X8_latest l D kp (xf_0 hX) (xf_1 hX) a1 a2 ) gL_law_X8_latest rfl (by decide) (xf_0 hX) rfl rfl rfl q_X8_latest rfl ⟨by decide, by decide⟩ ⟨by decide, by decide⟩ (fun _ h => absurd h List.not_mem_nil) (Nat.le_of_ble_eq_true rfl) rfl dL_law_1596 (fun r n1 E_1 hp _ => ?_)
  obtain ⟨rfl, rfl, rfl⟩ := hp
  show jv_V l D vwCl kp G 84 99182 84 E 1599 [(3, .int 0), (2, .ref 58), (1, .ref 0), (0, .ref 1000000)] [.int (-2)]
  refine jv_aload_n C dL_law_1599 1 rfl ?_
  refine jv_aload_n C dL_law_1600 3 rfl ?_
  refine jv_iload_n C dL_law_1601 0 rfl ?_
  refine jv_iconst (v := 1) C dL_law_1602 (by decide) ?_
  refine jv_iadd C dL_law_1603 ?_
  refine jv_ti (y := 1) (by decide) ?_
  refine jv_sld C SS (jv_vi (by decide)) dL_law_1604 ?_
  refine jv_ti (y := a1) s1 ?_
  refine jv_aload_n C dL_law_1605 3 rfl ?_
  refine jv_iload_n C dL_law_1606 0 rfl ?_
  refine jv_iconst (v := 2) C dL_law_1607 (by decide) ?_
  refine jv_iadd C dL_law_1608 ?_
  refine jv_ti (y := 2) (by decide) ?_
  refine jv_sld C SS (jv_vi (by decide)) dL_law_1609 ?_
  refine jv_ti (y := a2) s2 ?_
  refine jv_callV (na := 2) (As := [.int a1, .int a2]) (st := [.int (-2)]) C (c_X9_latest l D kp (xf_58 hX) (xf_65 hX) (xf_70 hX) a1 a2 ) gL_law_X9_latest rfl (by decide) (xf_58 hX) rfl rfl rfl q_X9_latest rfl ⟨by decide, by decide⟩ ⟨by decide, by decide⟩ (fun _ h => absurd h List.not_mem_nil) (Nat.le_of_ble_eq_true rfl) rfl dL_law_1610 (fun r n1 E_2 hp _ => ?_)
  cases hp
  show jv_V l D vwCl kp G 84 99182 n1 E_2 1613 [(3, .int 0), (2, .ref 58), (1, .ref 0), (0, .ref 1000000)] [.int (-2), .int (-2)]
  refine jv_icmp_eq (tgt := 2064) C dL_law_1613 (by decide) (fun _ => ?_) (fun h => absurd (by decide) h)
  exact law_tail C hnl SS QQ 84 99182 n1 (by decide) (by decide) E_2
theorem q_X8_busiest : yX8_busiest.cls ≠ "java/lang/invoke/MethodHandle" ∧ yX8_busiest.cls ≠ "java/lang/invoke/VarHandle" ∧ (parseMethodDescriptor yX8_busiest.desc).map (fun d => d.parameters.length) = some 1 := by decide +kernel
theorem q_X9_busiest : yX9_busiest.cls ≠ "java/lang/invoke/MethodHandle" ∧ yX9_busiest.cls ≠ "java/lang/invoke/VarHandle" ∧ (parseMethodDescriptor yX9_busiest.desc).map (fun d => d.parameters.length) = some 1 := by decide +kernel
set_option maxRecDepth 100000 in
set_option maxHeartbeats 8000000 in
theorem law_40 {l : Launch} {D : va_G} {kp : Nat → ClassId} {G : jv_G} {xs : Nat → Int32} (C : jv_C D vwCl kp G cL_law RL wsL_law room_1 jx_N) (hnl : jv_nL G = 4) (SS : jv_S G 6 xs) (QQ : jv_end l D vwCl kp G) {E : Nat → jv_E} (hX : jx_F E) {a1 a2 a3 a4 a5 : Int32} (s1 : xs (1 : Int32).toNatClampNeg = a1) (s2 : xs (2 : Int32).toNatClampNeg = a2) (s3 : xs (3 : Int32).toNatClampNeg = a3) (s4 : xs (4 : Int32).toNatClampNeg = a4) (s5 : xs (5 : Int32).toNatClampNeg = a5) : jv_V l D vwCl kp G 84 99182 84 E 1618 [(3, .int 0), (2, .ref 58), (1, .ref 0), (0, .ref 1000000)] [] := by
  refine jv_aload_n C dL_law_1618 2 rfl ?_
  refine jv_aload_n C dL_law_1619 3 rfl ?_
  refine jv_iload_n C dL_law_1620 0 rfl ?_
  refine jv_iconst (v := 1) C dL_law_1621 (by decide) ?_
  refine jv_iadd C dL_law_1622 ?_
  refine jv_ti (y := 1) (by decide) ?_
  refine jv_sld C SS (jv_vi (by decide)) dL_law_1623 ?_
  refine jv_ti (y := a1) s1 ?_
  refine jv_callV (na := 1) (As := [.int a1]) (st := []) C (c_X8_busiest l D kp (xf_0 hX) (xf_1 hX) a1 ) gL_law_X8_busiest rfl (by decide) (xf_0 hX) rfl rfl rfl q_X8_busiest rfl ⟨by decide, by decide⟩ ⟨by decide, by decide⟩ (fun _ h => absurd h List.not_mem_nil) (Nat.le_of_ble_eq_true rfl) rfl dL_law_1624 (fun r n1 E_1 hp _ => ?_)
  obtain ⟨rfl, rfl, rfl⟩ := hp
  show jv_V l D vwCl kp G 84 99182 84 E 1627 [(3, .int 0), (2, .ref 58), (1, .ref 0), (0, .ref 1000000)] [.int (-2)]
  refine jv_aload_n C dL_law_1627 1 rfl ?_
  refine jv_aload_n C dL_law_1628 3 rfl ?_
  refine jv_iload_n C dL_law_1629 0 rfl ?_
  refine jv_iconst (v := 1) C dL_law_1630 (by decide) ?_
  refine jv_iadd C dL_law_1631 ?_
  refine jv_ti (y := 1) (by decide) ?_
  refine jv_sld C SS (jv_vi (by decide)) dL_law_1632 ?_
  refine jv_ti (y := a1) s1 ?_
  refine jv_callV (na := 1) (As := [.int a1]) (st := [.int (-2)]) C (c_X9_busiest l D kp (xf_58 hX) (xf_65 hX) a1 ) gL_law_X9_busiest rfl (by decide) (xf_58 hX) rfl rfl rfl q_X9_busiest rfl ⟨by decide, by decide⟩ ⟨by decide, by decide⟩ (fun _ h => absurd h List.not_mem_nil) (Nat.le_of_ble_eq_true rfl) rfl dL_law_1633 (fun r n1 E_2 hp _ => ?_)
  cases hp
  show jv_V l D vwCl kp G 84 99182 n1 E_2 1636 [(3, .int 0), (2, .ref 58), (1, .ref 0), (0, .ref 1000000)] [.int (-2), .int (-2)]
  refine jv_icmp_eq (tgt := 2064) C dL_law_1636 (by decide) (fun _ => ?_) (fun h => absurd (by decide) h)
  exact law_tail C hnl SS QQ 84 99182 n1 (by decide) (by decide) E_2
theorem q_X8_silent : yX8_silent.cls ≠ "java/lang/invoke/MethodHandle" ∧ yX8_silent.cls ≠ "java/lang/invoke/VarHandle" ∧ (parseMethodDescriptor yX8_silent.desc).map (fun d => d.parameters.length) = some 1 := by decide +kernel
theorem q_X9_silent : yX9_silent.cls ≠ "java/lang/invoke/MethodHandle" ∧ yX9_silent.cls ≠ "java/lang/invoke/VarHandle" ∧ (parseMethodDescriptor yX9_silent.desc).map (fun d => d.parameters.length) = some 1 := by decide +kernel
set_option maxRecDepth 100000 in
set_option maxHeartbeats 8000000 in
theorem law_41 {l : Launch} {D : va_G} {kp : Nat → ClassId} {G : jv_G} {xs : Nat → Int32} (C : jv_C D vwCl kp G cL_law RL wsL_law room_1 jx_N) (hnl : jv_nL G = 4) (SS : jv_S G 6 xs) (QQ : jv_end l D vwCl kp G) {E : Nat → jv_E} (hX : jx_F E) {a1 a2 a3 a4 a5 : Int32} (s1 : xs (1 : Int32).toNatClampNeg = a1) (s2 : xs (2 : Int32).toNatClampNeg = a2) (s3 : xs (3 : Int32).toNatClampNeg = a3) (s4 : xs (4 : Int32).toNatClampNeg = a4) (s5 : xs (5 : Int32).toNatClampNeg = a5) : jv_V l D vwCl kp G 84 99182 84 E 1641 [(3, .int 0), (2, .ref 58), (1, .ref 0), (0, .ref 1000000)] [] := by
  refine jv_aload_n C dL_law_1641 2 rfl ?_
  refine jv_aload_n C dL_law_1642 3 rfl ?_
  refine jv_iload_n C dL_law_1643 0 rfl ?_
  refine jv_iconst (v := 1) C dL_law_1644 (by decide) ?_
  refine jv_iadd C dL_law_1645 ?_
  refine jv_ti (y := 1) (by decide) ?_
  refine jv_sld C SS (jv_vi (by decide)) dL_law_1646 ?_
  refine jv_ti (y := a1) s1 ?_
  refine jv_callV (na := 1) (As := [.int a1]) (st := []) C (c_X8_silent l D kp (xf_0 hX) (xf_1 hX) a1 ) gL_law_X8_silent rfl (by decide) (xf_0 hX) rfl rfl rfl q_X8_silent rfl ⟨by decide, by decide⟩ ⟨by decide, by decide⟩ (fun _ h => absurd h List.not_mem_nil) (Nat.le_of_ble_eq_true rfl) rfl dL_law_1647 (fun r n1 E_1 hp _ => ?_)
  obtain ⟨rfl, rfl, rfl⟩ := hp
  show jv_V l D vwCl kp G 84 99182 84 E 1650 [(3, .int 0), (2, .ref 58), (1, .ref 0), (0, .ref 1000000)] [.int (-2)]
  refine jv_aload_n C dL_law_1650 1 rfl ?_
  refine jv_aload_n C dL_law_1651 3 rfl ?_
  refine jv_iload_n C dL_law_1652 0 rfl ?_
  refine jv_iconst (v := 1) C dL_law_1653 (by decide) ?_
  refine jv_iadd C dL_law_1654 ?_
  refine jv_ti (y := 1) (by decide) ?_
  refine jv_sld C SS (jv_vi (by decide)) dL_law_1655 ?_
  refine jv_ti (y := a1) s1 ?_
  refine jv_callV (na := 1) (As := [.int a1]) (st := [.int (-2)]) C (c_X9_silent l D kp (xf_58 hX) (xf_65 hX) a1 ) gL_law_X9_silent rfl (by decide) (xf_58 hX) rfl rfl rfl q_X9_silent rfl ⟨by decide, by decide⟩ ⟨by decide, by decide⟩ (fun _ h => absurd h List.not_mem_nil) (Nat.le_of_ble_eq_true rfl) rfl dL_law_1656 (fun r n1 E_2 hp _ => ?_)
  cases hp
  show jv_V l D vwCl kp G 84 99182 n1 E_2 1659 [(3, .int 0), (2, .ref 58), (1, .ref 0), (0, .ref 1000000)] [.int (-2), .int (-2)]
  refine jv_icmp_eq (tgt := 2064) C dL_law_1659 (by decide) (fun _ => ?_) (fun h => absurd (by decide) h)
  exact law_tail C hnl SS QQ 84 99182 n1 (by decide) (by decide) E_2
theorem q_X8_gusts : yX8_gusts.cls ≠ "java/lang/invoke/MethodHandle" ∧ yX8_gusts.cls ≠ "java/lang/invoke/VarHandle" ∧ (parseMethodDescriptor yX8_gusts.desc).map (fun d => d.parameters.length) = some 3 := by decide +kernel
theorem q_X9_gusts : yX9_gusts.cls ≠ "java/lang/invoke/MethodHandle" ∧ yX9_gusts.cls ≠ "java/lang/invoke/VarHandle" ∧ (parseMethodDescriptor yX9_gusts.desc).map (fun d => d.parameters.length) = some 3 := by decide +kernel
set_option maxRecDepth 100000 in
set_option maxHeartbeats 8000000 in
theorem law_42 {l : Launch} {D : va_G} {kp : Nat → ClassId} {G : jv_G} {xs : Nat → Int32} (C : jv_C D vwCl kp G cL_law RL wsL_law room_1 jx_N) (hnl : jv_nL G = 4) (SS : jv_S G 6 xs) (QQ : jv_end l D vwCl kp G) {E : Nat → jv_E} (hX : jx_F E) {a1 a2 a3 a4 a5 : Int32} (s1 : xs (1 : Int32).toNatClampNeg = a1) (s2 : xs (2 : Int32).toNatClampNeg = a2) (s3 : xs (3 : Int32).toNatClampNeg = a3) (s4 : xs (4 : Int32).toNatClampNeg = a4) (s5 : xs (5 : Int32).toNatClampNeg = a5) : jv_V l D vwCl kp G 84 99182 84 E 1664 [(3, .int 0), (2, .ref 58), (1, .ref 0), (0, .ref 1000000)] [] := by
  refine jv_aload_n C dL_law_1664 2 rfl ?_
  refine jv_aload_n C dL_law_1665 3 rfl ?_
  refine jv_iload_n C dL_law_1666 0 rfl ?_
  refine jv_iconst (v := 1) C dL_law_1667 (by decide) ?_
  refine jv_iadd C dL_law_1668 ?_
  refine jv_ti (y := 1) (by decide) ?_
  refine jv_sld C SS (jv_vi (by decide)) dL_law_1669 ?_
  refine jv_ti (y := a1) s1 ?_
  refine jv_aload_n C dL_law_1670 3 rfl ?_
  refine jv_iload_n C dL_law_1671 0 rfl ?_
  refine jv_iconst (v := 2) C dL_law_1672 (by decide) ?_
  refine jv_iadd C dL_law_1673 ?_
  refine jv_ti (y := 2) (by decide) ?_
  refine jv_sld C SS (jv_vi (by decide)) dL_law_1674 ?_
  refine jv_ti (y := a2) s2 ?_
  refine jv_aload_n C dL_law_1675 3 rfl ?_
  refine jv_iload_n C dL_law_1676 0 rfl ?_
  refine jv_iconst (v := 3) C dL_law_1677 (by decide) ?_
  refine jv_iadd C dL_law_1678 ?_
  refine jv_ti (y := 3) (by decide) ?_
  refine jv_sld C SS (jv_vi (by decide)) dL_law_1679 ?_
  refine jv_ti (y := a3) s3 ?_
  refine jv_callV (na := 3) (As := [.int a1, .int a2, .int a3]) (st := []) C (c_X8_gusts l D kp (xf_0 hX) (xf_1 hX) a1 a2 a3 ) gL_law_X8_gusts rfl (by decide) (xf_0 hX) rfl rfl rfl q_X8_gusts rfl ⟨by decide, by decide⟩ ⟨by decide, by decide⟩ (fun _ h => absurd h List.not_mem_nil) (Nat.le_of_ble_eq_true rfl) rfl dL_law_1680 (fun r n1 E_1 hp _ => ?_)
  obtain ⟨rfl, rfl, rfl⟩ := hp
  show jv_V l D vwCl kp G 84 99182 84 E 1683 [(3, .int 0), (2, .ref 58), (1, .ref 0), (0, .ref 1000000)] [.int (-2)]
  refine jv_aload_n C dL_law_1683 1 rfl ?_
  refine jv_aload_n C dL_law_1684 3 rfl ?_
  refine jv_iload_n C dL_law_1685 0 rfl ?_
  refine jv_iconst (v := 1) C dL_law_1686 (by decide) ?_
  refine jv_iadd C dL_law_1687 ?_
  refine jv_ti (y := 1) (by decide) ?_
  refine jv_sld C SS (jv_vi (by decide)) dL_law_1688 ?_
  refine jv_ti (y := a1) s1 ?_
  refine jv_aload_n C dL_law_1689 3 rfl ?_
  refine jv_iload_n C dL_law_1690 0 rfl ?_
  refine jv_iconst (v := 2) C dL_law_1691 (by decide) ?_
  refine jv_iadd C dL_law_1692 ?_
  refine jv_ti (y := 2) (by decide) ?_
  refine jv_sld C SS (jv_vi (by decide)) dL_law_1693 ?_
  refine jv_ti (y := a2) s2 ?_
  refine jv_aload_n C dL_law_1694 3 rfl ?_
  refine jv_iload_n C dL_law_1695 0 rfl ?_
  refine jv_iconst (v := 3) C dL_law_1696 (by decide) ?_
  refine jv_iadd C dL_law_1697 ?_
  refine jv_ti (y := 3) (by decide) ?_
  refine jv_sld C SS (jv_vi (by decide)) dL_law_1698 ?_
  refine jv_ti (y := a3) s3 ?_
  refine jv_callV (na := 3) (As := [.int a1, .int a2, .int a3]) (st := [.int (-2)]) C (c_X9_gusts l D kp (xf_58 hX) (xf_65 hX) a1 a2 a3 ) gL_law_X9_gusts rfl (by decide) (xf_58 hX) rfl rfl rfl q_X9_gusts rfl ⟨by decide, by decide⟩ ⟨by decide, by decide⟩ (fun _ h => absurd h List.not_mem_nil) (Nat.le_of_ble_eq_true rfl) rfl dL_law_1699 (fun r n1 E_2 hp _ => ?_)
  cases hp
  show jv_V l D vwCl kp G 84 99182 n1 E_2 1702 [(3, .int 0), (2, .ref 58), (1, .ref 0), (0, .ref 1000000)] [.int (-2), .int (-2)]
  refine jv_icmp_eq (tgt := 2064) C dL_law_1702 (by decide) (fun _ => ?_) (fun h => absurd (by decide) h)
  exact law_tail C hnl SS QQ 84 99182 n1 (by decide) (by decide) E_2
theorem q_X8_years : yX8_years.cls ≠ "java/lang/invoke/MethodHandle" ∧ yX8_years.cls ≠ "java/lang/invoke/VarHandle" ∧ (parseMethodDescriptor yX8_years.desc).map (fun d => d.parameters.length) = some 3 := by decide +kernel
theorem q_X9_years : yX9_years.cls ≠ "java/lang/invoke/MethodHandle" ∧ yX9_years.cls ≠ "java/lang/invoke/VarHandle" ∧ (parseMethodDescriptor yX9_years.desc).map (fun d => d.parameters.length) = some 3 := by decide +kernel
set_option maxRecDepth 100000 in
set_option maxHeartbeats 8000000 in
theorem law_43 {l : Launch} {D : va_G} {kp : Nat → ClassId} {G : jv_G} {xs : Nat → Int32} (C : jv_C D vwCl kp G cL_law RL wsL_law room_1 jx_N) (hnl : jv_nL G = 4) (SS : jv_S G 6 xs) (QQ : jv_end l D vwCl kp G) {E : Nat → jv_E} (hX : jx_F E) {a1 a2 a3 a4 a5 : Int32} (s1 : xs (1 : Int32).toNatClampNeg = a1) (s2 : xs (2 : Int32).toNatClampNeg = a2) (s3 : xs (3 : Int32).toNatClampNeg = a3) (s4 : xs (4 : Int32).toNatClampNeg = a4) (s5 : xs (5 : Int32).toNatClampNeg = a5) : jv_V l D vwCl kp G 84 99182 84 E 1707 [(3, .int 0), (2, .ref 58), (1, .ref 0), (0, .ref 1000000)] [] := by
  refine jv_aload_n C dL_law_1707 2 rfl ?_
  refine jv_aload_n C dL_law_1708 3 rfl ?_
  refine jv_iload_n C dL_law_1709 0 rfl ?_
  refine jv_iconst (v := 1) C dL_law_1710 (by decide) ?_
  refine jv_iadd C dL_law_1711 ?_
  refine jv_ti (y := 1) (by decide) ?_
  refine jv_sld C SS (jv_vi (by decide)) dL_law_1712 ?_
  refine jv_ti (y := a1) s1 ?_
  refine jv_aload_n C dL_law_1713 3 rfl ?_
  refine jv_iload_n C dL_law_1714 0 rfl ?_
  refine jv_iconst (v := 2) C dL_law_1715 (by decide) ?_
  refine jv_iadd C dL_law_1716 ?_
  refine jv_ti (y := 2) (by decide) ?_
  refine jv_sld C SS (jv_vi (by decide)) dL_law_1717 ?_
  refine jv_ti (y := a2) s2 ?_
  refine jv_aload_n C dL_law_1718 3 rfl ?_
  refine jv_iload_n C dL_law_1719 0 rfl ?_
  refine jv_iconst (v := 3) C dL_law_1720 (by decide) ?_
  refine jv_iadd C dL_law_1721 ?_
  refine jv_ti (y := 3) (by decide) ?_
  refine jv_sld C SS (jv_vi (by decide)) dL_law_1722 ?_
  refine jv_ti (y := a3) s3 ?_
  refine jv_callV (na := 3) (As := [.int a1, .int a2, .int a3]) (st := []) C (c_X8_years l D kp (xf_0 hX) (xf_1 hX) a1 a2 a3 ) gL_law_X8_years rfl (by decide) (xf_0 hX) rfl rfl rfl q_X8_years rfl ⟨by decide, by decide⟩ ⟨by decide, by decide⟩ (fun _ h => absurd h List.not_mem_nil) (Nat.le_of_ble_eq_true rfl) rfl dL_law_1723 (fun r n1 E_1 hp _ => ?_)
  obtain ⟨rfl, rfl, rfl⟩ := hp
  show jv_V l D vwCl kp G 84 99182 84 E 1726 [(3, .int 0), (2, .ref 58), (1, .ref 0), (0, .ref 1000000)] [.int (-2)]
  refine jv_aload_n C dL_law_1726 1 rfl ?_
  refine jv_aload_n C dL_law_1727 3 rfl ?_
  refine jv_iload_n C dL_law_1728 0 rfl ?_
  refine jv_iconst (v := 1) C dL_law_1729 (by decide) ?_
  refine jv_iadd C dL_law_1730 ?_
  refine jv_ti (y := 1) (by decide) ?_
  refine jv_sld C SS (jv_vi (by decide)) dL_law_1731 ?_
  refine jv_ti (y := a1) s1 ?_
  refine jv_aload_n C dL_law_1732 3 rfl ?_
  refine jv_iload_n C dL_law_1733 0 rfl ?_
  refine jv_iconst (v := 2) C dL_law_1734 (by decide) ?_
  refine jv_iadd C dL_law_1735 ?_
  refine jv_ti (y := 2) (by decide) ?_
  refine jv_sld C SS (jv_vi (by decide)) dL_law_1736 ?_
  refine jv_ti (y := a2) s2 ?_
  refine jv_aload_n C dL_law_1737 3 rfl ?_
  refine jv_iload_n C dL_law_1738 0 rfl ?_
  refine jv_iconst (v := 3) C dL_law_1739 (by decide) ?_
  refine jv_iadd C dL_law_1740 ?_
  refine jv_ti (y := 3) (by decide) ?_
  refine jv_sld C SS (jv_vi (by decide)) dL_law_1741 ?_
  refine jv_ti (y := a3) s3 ?_
  refine jv_callV (na := 3) (As := [.int a1, .int a2, .int a3]) (st := [.int (-2)]) C (c_X9_years l D kp (xf_58 hX) (xf_65 hX) a1 a2 a3 ) gL_law_X9_years rfl (by decide) (xf_58 hX) rfl rfl rfl q_X9_years rfl ⟨by decide, by decide⟩ ⟨by decide, by decide⟩ (fun _ h => absurd h List.not_mem_nil) (Nat.le_of_ble_eq_true rfl) rfl dL_law_1742 (fun r n1 E_2 hp _ => ?_)
  cases hp
  show jv_V l D vwCl kp G 84 99182 n1 E_2 1745 [(3, .int 0), (2, .ref 58), (1, .ref 0), (0, .ref 1000000)] [.int (-2), .int (-2)]
  refine jv_icmp_eq (tgt := 2064) C dL_law_1745 (by decide) (fun _ => ?_) (fun h => absurd (by decide) h)
  exact law_tail C hnl SS QQ 84 99182 n1 (by decide) (by decide) E_2
theorem q_X8_judge : yX8_judge.cls ≠ "java/lang/invoke/MethodHandle" ∧ yX8_judge.cls ≠ "java/lang/invoke/VarHandle" ∧ (parseMethodDescriptor yX8_judge.desc).map (fun d => d.parameters.length) = some 2 := by decide +kernel
theorem q_X9_judge : yX9_judge.cls ≠ "java/lang/invoke/MethodHandle" ∧ yX9_judge.cls ≠ "java/lang/invoke/VarHandle" ∧ (parseMethodDescriptor yX9_judge.desc).map (fun d => d.parameters.length) = some 2 := by decide +kernel
set_option maxRecDepth 100000 in
set_option maxHeartbeats 8000000 in
theorem law_44 {l : Launch} {D : va_G} {kp : Nat → ClassId} {G : jv_G} {xs : Nat → Int32} (C : jv_C D vwCl kp G cL_law RL wsL_law room_1 jx_N) (hnl : jv_nL G = 4) (SS : jv_S G 6 xs) (QQ : jv_end l D vwCl kp G) {E : Nat → jv_E} (hX : jx_F E) {a1 a2 a3 a4 a5 : Int32} (s1 : xs (1 : Int32).toNatClampNeg = a1) (s2 : xs (2 : Int32).toNatClampNeg = a2) (s3 : xs (3 : Int32).toNatClampNeg = a3) (s4 : xs (4 : Int32).toNatClampNeg = a4) (s5 : xs (5 : Int32).toNatClampNeg = a5) : jv_V l D vwCl kp G 84 99182 84 E 1750 [(3, .int 0), (2, .ref 58), (1, .ref 0), (0, .ref 1000000)] [] := by
  refine jv_aload_n C dL_law_1750 2 rfl ?_
  refine jv_aload_n C dL_law_1751 3 rfl ?_
  refine jv_iload_n C dL_law_1752 0 rfl ?_
  refine jv_iconst (v := 1) C dL_law_1753 (by decide) ?_
  refine jv_iadd C dL_law_1754 ?_
  refine jv_ti (y := 1) (by decide) ?_
  refine jv_sld C SS (jv_vi (by decide)) dL_law_1755 ?_
  refine jv_ti (y := a1) s1 ?_
  refine jv_aload_n C dL_law_1756 3 rfl ?_
  refine jv_iload_n C dL_law_1757 0 rfl ?_
  refine jv_iconst (v := 2) C dL_law_1758 (by decide) ?_
  refine jv_iadd C dL_law_1759 ?_
  refine jv_ti (y := 2) (by decide) ?_
  refine jv_sld C SS (jv_vi (by decide)) dL_law_1760 ?_
  refine jv_ti (y := a2) s2 ?_
  refine jv_callV (na := 2) (As := [.int a1, .int a2]) (st := []) C (c_X8_judge l D kp (xf_0 hX) (xf_1 hX) (xf_33 hX) a1 a2 ) gL_law_X8_judge rfl (by decide) (xf_0 hX) rfl rfl rfl q_X8_judge rfl ⟨by decide, by decide⟩ ⟨by decide, by decide⟩ (fun _ h => absurd h List.not_mem_nil) (Nat.le_of_ble_eq_true rfl) rfl dL_law_1761 (fun r n1 E_1 hp _ => ?_)
  obtain ⟨rfl, rfl, rfl⟩ := hp
  show jv_V l D vwCl kp G 84 99182 84 E 1764 [(3, .int 0), (2, .ref 58), (1, .ref 0), (0, .ref 1000000)] [.int (-2)]
  refine jv_aload_n C dL_law_1764 1 rfl ?_
  refine jv_aload_n C dL_law_1765 3 rfl ?_
  refine jv_iload_n C dL_law_1766 0 rfl ?_
  refine jv_iconst (v := 1) C dL_law_1767 (by decide) ?_
  refine jv_iadd C dL_law_1768 ?_
  refine jv_ti (y := 1) (by decide) ?_
  refine jv_sld C SS (jv_vi (by decide)) dL_law_1769 ?_
  refine jv_ti (y := a1) s1 ?_
  refine jv_aload_n C dL_law_1770 3 rfl ?_
  refine jv_iload_n C dL_law_1771 0 rfl ?_
  refine jv_iconst (v := 2) C dL_law_1772 (by decide) ?_
  refine jv_iadd C dL_law_1773 ?_
  refine jv_ti (y := 2) (by decide) ?_
  refine jv_sld C SS (jv_vi (by decide)) dL_law_1774 ?_
  refine jv_ti (y := a2) s2 ?_
  refine jv_callV (na := 2) (As := [.int a1, .int a2]) (st := [.int (-2)]) C (c_X9_judge l D kp (xf_58 hX) (xf_65 hX) a1 a2 ) gL_law_X9_judge rfl (by decide) (xf_58 hX) rfl rfl rfl q_X9_judge rfl ⟨by decide, by decide⟩ ⟨by decide, by decide⟩ (fun _ h => absurd h List.not_mem_nil) (Nat.le_of_ble_eq_true rfl) rfl dL_law_1775 (fun r n1 E_2 hp _ => ?_)
  cases hp
  show jv_V l D vwCl kp G 84 99182 n1 E_2 1778 [(3, .int 0), (2, .ref 58), (1, .ref 0), (0, .ref 1000000)] [.int (-2), .int (-2)]
  refine jv_icmp_eq (tgt := 2064) C dL_law_1778 (by decide) (fun _ => ?_) (fun h => absurd (by decide) h)
  exact law_tail C hnl SS QQ 84 99182 n1 (by decide) (by decide) E_2
theorem q_X8_takes : yX8_takes.cls ≠ "java/lang/invoke/MethodHandle" ∧ yX8_takes.cls ≠ "java/lang/invoke/VarHandle" ∧ (parseMethodDescriptor yX8_takes.desc).map (fun d => d.parameters.length) = some 2 := by decide +kernel
theorem q_X9_takes_ : yX9_takes_.cls ≠ "java/lang/invoke/MethodHandle" ∧ yX9_takes_.cls ≠ "java/lang/invoke/VarHandle" ∧ (parseMethodDescriptor yX9_takes_.desc).map (fun d => d.parameters.length) = some 2 := by decide +kernel
set_option maxRecDepth 100000 in
set_option maxHeartbeats 8000000 in
theorem law_45 {l : Launch} {D : va_G} {kp : Nat → ClassId} {G : jv_G} {xs : Nat → Int32} (C : jv_C D vwCl kp G cL_law RL wsL_law room_1 jx_N) (hnl : jv_nL G = 4) (SS : jv_S G 6 xs) (QQ : jv_end l D vwCl kp G) {E : Nat → jv_E} (hX : jx_F E) {a1 a2 a3 a4 a5 : Int32} (s1 : xs (1 : Int32).toNatClampNeg = a1) (s2 : xs (2 : Int32).toNatClampNeg = a2) (s3 : xs (3 : Int32).toNatClampNeg = a3) (s4 : xs (4 : Int32).toNatClampNeg = a4) (s5 : xs (5 : Int32).toNatClampNeg = a5) : jv_V l D vwCl kp G 84 99182 84 E 1783 [(3, .int 0), (2, .ref 58), (1, .ref 0), (0, .ref 1000000)] [] := by
  refine jv_aload_n C dL_law_1783 2 rfl ?_
  refine jv_aload_n C dL_law_1784 3 rfl ?_
  refine jv_iload_n C dL_law_1785 0 rfl ?_
  refine jv_iconst (v := 1) C dL_law_1786 (by decide) ?_
  refine jv_iadd C dL_law_1787 ?_
  refine jv_ti (y := 1) (by decide) ?_
  refine jv_sld C SS (jv_vi (by decide)) dL_law_1788 ?_
  refine jv_ti (y := a1) s1 ?_
  refine jv_aload_n C dL_law_1789 3 rfl ?_
  refine jv_iload_n C dL_law_1790 0 rfl ?_
  refine jv_iconst (v := 2) C dL_law_1791 (by decide) ?_
  refine jv_iadd C dL_law_1792 ?_
  refine jv_ti (y := 2) (by decide) ?_
  refine jv_sld C SS (jv_vi (by decide)) dL_law_1793 ?_
  refine jv_ti (y := a2) s2 ?_
  refine jv_callV (na := 2) (As := [.int a1, .int a2]) (st := []) C (c_X8_takes l D kp (xf_0 hX) (xf_1 hX) (xf_33 hX) a1 a2 ) gL_law_X8_takes rfl (by decide) (xf_0 hX) rfl rfl rfl q_X8_takes rfl ⟨by decide, by decide⟩ ⟨by decide, by decide⟩ (fun _ h => absurd h List.not_mem_nil) (Nat.le_of_ble_eq_true rfl) rfl dL_law_1794 (fun r n1 E_1 hp _ => ?_)
  obtain ⟨rfl, rfl, rfl⟩ := hp
  show jv_V l D vwCl kp G 84 99182 84 E 1797 [(3, .int 0), (2, .ref 58), (1, .ref 0), (0, .ref 1000000)] [.int (-2)]
  refine jv_aload_n C dL_law_1797 1 rfl ?_
  refine jv_aload_n C dL_law_1798 3 rfl ?_
  refine jv_iload_n C dL_law_1799 0 rfl ?_
  refine jv_iconst (v := 1) C dL_law_1800 (by decide) ?_
  refine jv_iadd C dL_law_1801 ?_
  refine jv_ti (y := 1) (by decide) ?_
  refine jv_sld C SS (jv_vi (by decide)) dL_law_1802 ?_
  refine jv_ti (y := a1) s1 ?_
  refine jv_aload_n C dL_law_1803 3 rfl ?_
  refine jv_iload_n C dL_law_1804 0 rfl ?_
  refine jv_iconst (v := 2) C dL_law_1805 (by decide) ?_
  refine jv_iadd C dL_law_1806 ?_
  refine jv_ti (y := 2) (by decide) ?_
  refine jv_sld C SS (jv_vi (by decide)) dL_law_1807 ?_
  refine jv_ti (y := a2) s2 ?_
  refine jv_callV (na := 2) (As := [.int a1, .int a2]) (st := [.int (-2)]) C (c_X9_takes_ l D kp (xf_58 hX) (xf_65 hX) a1 a2 ) gL_law_X9_takes_ rfl (by decide) (xf_58 hX) rfl rfl rfl q_X9_takes_ rfl ⟨by decide, by decide⟩ ⟨by decide, by decide⟩ (fun _ h => absurd h List.not_mem_nil) (Nat.le_of_ble_eq_true rfl) rfl dL_law_1808 (fun r n1 E_2 hp _ => ?_)
  cases hp
  show jv_V l D vwCl kp G 84 99182 n1 E_2 1811 [(3, .int 0), (2, .ref 58), (1, .ref 0), (0, .ref 1000000)] [.int (-2), .int (-2)]
  refine jv_icmp_eq (tgt := 2064) C dL_law_1811 (by decide) (fun _ => ?_) (fun h => absurd (by decide) h)
  exact law_tail C hnl SS QQ 84 99182 n1 (by decide) (by decide) E_2
theorem q_X8_count : yX8_count.cls ≠ "java/lang/invoke/MethodHandle" ∧ yX8_count.cls ≠ "java/lang/invoke/VarHandle" ∧ (parseMethodDescriptor yX8_count.desc).map (fun d => d.parameters.length) = some 1 := by decide +kernel
theorem q_X9_count : yX9_count.cls ≠ "java/lang/invoke/MethodHandle" ∧ yX9_count.cls ≠ "java/lang/invoke/VarHandle" ∧ (parseMethodDescriptor yX9_count.desc).map (fun d => d.parameters.length) = some 1 := by decide +kernel
set_option maxRecDepth 100000 in
set_option maxHeartbeats 8000000 in
theorem law_46_0 {l : Launch} {D : va_G} {kp : Nat → ClassId} {G : jv_G} {xs : Nat → Int32} (C : jv_C D vwCl kp G cL_law RL wsL_law room_1 jx_N) (hnl : jv_nL G = 4) (SS : jv_S G 6 xs) (QQ : jv_end l D vwCl kp G) {E : Nat → jv_E} (hX : jx_F E) {a1 a2 a3 a4 a5 : Int32} (s1 : xs (1 : Int32).toNatClampNeg = 0) (s2 : xs (2 : Int32).toNatClampNeg = a2) (s3 : xs (3 : Int32).toNatClampNeg = a3) (s4 : xs (4 : Int32).toNatClampNeg = a4) (s5 : xs (5 : Int32).toNatClampNeg = a5) : jv_V l D vwCl kp G 84 99182 84 E 1816 [(3, .int 0), (2, .ref 58), (1, .ref 0), (0, .ref 1000000)] [] := by
  refine jv_aload_n C dL_law_1816 2 rfl ?_
  refine jv_aload_n C dL_law_1817 3 rfl ?_
  refine jv_iload_n C dL_law_1818 0 rfl ?_
  refine jv_iconst (v := 1) C dL_law_1819 (by decide) ?_
  refine jv_iadd C dL_law_1820 ?_
  refine jv_ti (y := 1) (by decide) ?_
  refine jv_sld C SS (jv_vi (by decide)) dL_law_1821 ?_
  refine jv_ti (y := 0) s1 ?_
  refine jv_callV (na := 1) (As := [.int 0]) (st := []) C (c_X8_count_0 l D kp (xf_0 hX) (xf_1 hX) (xf_17 hX) (xf_33 hX) (xf_35 hX)  ) gL_law_X8_count rfl (by decide) (xf_0 hX) rfl rfl rfl q_X8_count rfl ⟨by decide, by decide⟩ ⟨by decide, by decide⟩ (fun _ h => absurd h List.not_mem_nil) (Nat.le_of_ble_eq_true rfl) rfl dL_law_1822 (fun r n1 E_1 hp _ => ?_)
  obtain ⟨rfl, rfl, rfl⟩ := hp
  show jv_V l D vwCl kp G 84 99182 84 E 1825 [(3, .int 0), (2, .ref 58), (1, .ref 0), (0, .ref 1000000)] [.int 0]
  refine jv_aload_n C dL_law_1825 1 rfl ?_
  refine jv_aload_n C dL_law_1826 3 rfl ?_
  refine jv_iload_n C dL_law_1827 0 rfl ?_
  refine jv_iconst (v := 1) C dL_law_1828 (by decide) ?_
  refine jv_iadd C dL_law_1829 ?_
  refine jv_ti (y := 1) (by decide) ?_
  refine jv_sld C SS (jv_vi (by decide)) dL_law_1830 ?_
  refine jv_ti (y := 0) s1 ?_
  refine jv_callV (na := 1) (As := [.int 0]) (st := [.int 0]) C (c_X9_count_0 l D kp (xf_58 hX) (xf_65 hX) (xf_70 hX) (xf_64 hX) (xf_59 hX)  ) gL_law_X9_count rfl (by decide) (xf_58 hX) rfl rfl rfl q_X9_count rfl ⟨by decide, by decide⟩ ⟨by decide, by decide⟩ (fun _ h => absurd h List.not_mem_nil) (Nat.le_of_ble_eq_true rfl) rfl dL_law_1831 (fun r n1 E_2 hp _ => ?_)
  cases hp
  show jv_V l D vwCl kp G 84 99182 n1 E_2 1834 [(3, .int 0), (2, .ref 58), (1, .ref 0), (0, .ref 1000000)] [.int 0, .int 0]
  refine jv_icmp_eq (tgt := 2064) C dL_law_1834 (by decide) (fun _ => ?_) (fun h => absurd (by decide) h)
  exact law_tail C hnl SS QQ 84 99182 n1 (by decide) (by decide) E_2
set_option maxRecDepth 100000 in
set_option maxHeartbeats 8000000 in
theorem law_46_1 {l : Launch} {D : va_G} {kp : Nat → ClassId} {G : jv_G} {xs : Nat → Int32} (C : jv_C D vwCl kp G cL_law RL wsL_law room_1 jx_N) (hnl : jv_nL G = 4) (SS : jv_S G 6 xs) (QQ : jv_end l D vwCl kp G) {E : Nat → jv_E} (hX : jx_F E) {a1 a2 a3 a4 a5 : Int32} (s1 : xs (1 : Int32).toNatClampNeg = 1) (s2 : xs (2 : Int32).toNatClampNeg = a2) (s3 : xs (3 : Int32).toNatClampNeg = a3) (s4 : xs (4 : Int32).toNatClampNeg = a4) (s5 : xs (5 : Int32).toNatClampNeg = a5) : jv_V l D vwCl kp G 84 99182 84 E 1816 [(3, .int 0), (2, .ref 58), (1, .ref 0), (0, .ref 1000000)] [] := by
  refine jv_aload_n C dL_law_1816 2 rfl ?_
  refine jv_aload_n C dL_law_1817 3 rfl ?_
  refine jv_iload_n C dL_law_1818 0 rfl ?_
  refine jv_iconst (v := 1) C dL_law_1819 (by decide) ?_
  refine jv_iadd C dL_law_1820 ?_
  refine jv_ti (y := 1) (by decide) ?_
  refine jv_sld C SS (jv_vi (by decide)) dL_law_1821 ?_
  refine jv_ti (y := 1) s1 ?_
  refine jv_callV (na := 1) (As := [.int 1]) (st := []) C (c_X8_count_1 l D kp (xf_0 hX) (xf_1 hX) (xf_17 hX) (xf_33 hX) (xf_35 hX)  ) gL_law_X8_count rfl (by decide) (xf_0 hX) rfl rfl rfl q_X8_count rfl ⟨by decide, by decide⟩ ⟨by decide, by decide⟩ (fun _ h => absurd h List.not_mem_nil) (Nat.le_of_ble_eq_true rfl) rfl dL_law_1822 (fun r n1 E_1 hp _ => ?_)
  obtain ⟨rfl, rfl, rfl⟩ := hp
  show jv_V l D vwCl kp G 84 99182 84 E 1825 [(3, .int 0), (2, .ref 58), (1, .ref 0), (0, .ref 1000000)] [.int 0]
  refine jv_aload_n C dL_law_1825 1 rfl ?_
  refine jv_aload_n C dL_law_1826 3 rfl ?_
  refine jv_iload_n C dL_law_1827 0 rfl ?_
  refine jv_iconst (v := 1) C dL_law_1828 (by decide) ?_
  refine jv_iadd C dL_law_1829 ?_
  refine jv_ti (y := 1) (by decide) ?_
  refine jv_sld C SS (jv_vi (by decide)) dL_law_1830 ?_
  refine jv_ti (y := 1) s1 ?_
  refine jv_callV (na := 1) (As := [.int 1]) (st := [.int 0]) C (c_X9_count_1 l D kp (xf_58 hX) (xf_65 hX) (xf_70 hX) (xf_64 hX) (xf_59 hX)  ) gL_law_X9_count rfl (by decide) (xf_58 hX) rfl rfl rfl q_X9_count rfl ⟨by decide, by decide⟩ ⟨by decide, by decide⟩ (fun _ h => absurd h List.not_mem_nil) (Nat.le_of_ble_eq_true rfl) rfl dL_law_1831 (fun r n1 E_2 hp _ => ?_)
  cases hp
  show jv_V l D vwCl kp G 84 99182 n1 E_2 1834 [(3, .int 0), (2, .ref 58), (1, .ref 0), (0, .ref 1000000)] [.int 0, .int 0]
  refine jv_icmp_eq (tgt := 2064) C dL_law_1834 (by decide) (fun _ => ?_) (fun h => absurd (by decide) h)
  exact law_tail C hnl SS QQ 84 99182 n1 (by decide) (by decide) E_2
set_option maxRecDepth 100000 in
set_option maxHeartbeats 8000000 in
theorem law_46_2 {l : Launch} {D : va_G} {kp : Nat → ClassId} {G : jv_G} {xs : Nat → Int32} (C : jv_C D vwCl kp G cL_law RL wsL_law room_1 jx_N) (hnl : jv_nL G = 4) (SS : jv_S G 6 xs) (QQ : jv_end l D vwCl kp G) {E : Nat → jv_E} (hX : jx_F E) {a1 a2 a3 a4 a5 : Int32} (s1 : xs (1 : Int32).toNatClampNeg = 2) (s2 : xs (2 : Int32).toNatClampNeg = a2) (s3 : xs (3 : Int32).toNatClampNeg = a3) (s4 : xs (4 : Int32).toNatClampNeg = a4) (s5 : xs (5 : Int32).toNatClampNeg = a5) : jv_V l D vwCl kp G 84 99182 84 E 1816 [(3, .int 0), (2, .ref 58), (1, .ref 0), (0, .ref 1000000)] [] := by
  refine jv_aload_n C dL_law_1816 2 rfl ?_
  refine jv_aload_n C dL_law_1817 3 rfl ?_
  refine jv_iload_n C dL_law_1818 0 rfl ?_
  refine jv_iconst (v := 1) C dL_law_1819 (by decide) ?_
  refine jv_iadd C dL_law_1820 ?_
  refine jv_ti (y := 1) (by decide) ?_
  refine jv_sld C SS (jv_vi (by decide)) dL_law_1821 ?_
  refine jv_ti (y := 2) s1 ?_
  refine jv_callV (na := 1) (As := [.int 2]) (st := []) C (c_X8_count_2 l D kp (xf_0 hX) (xf_1 hX) (xf_17 hX) (xf_33 hX) (xf_35 hX)  ) gL_law_X8_count rfl (by decide) (xf_0 hX) rfl rfl rfl q_X8_count rfl ⟨by decide, by decide⟩ ⟨by decide, by decide⟩ (fun _ h => absurd h List.not_mem_nil) (Nat.le_of_ble_eq_true rfl) rfl dL_law_1822 (fun r n1 E_1 hp _ => ?_)
  obtain ⟨rfl, rfl, rfl⟩ := hp
  show jv_V l D vwCl kp G 84 99182 84 E 1825 [(3, .int 0), (2, .ref 58), (1, .ref 0), (0, .ref 1000000)] [.int 0]
  refine jv_aload_n C dL_law_1825 1 rfl ?_
  refine jv_aload_n C dL_law_1826 3 rfl ?_
  refine jv_iload_n C dL_law_1827 0 rfl ?_
  refine jv_iconst (v := 1) C dL_law_1828 (by decide) ?_
  refine jv_iadd C dL_law_1829 ?_
  refine jv_ti (y := 1) (by decide) ?_
  refine jv_sld C SS (jv_vi (by decide)) dL_law_1830 ?_
  refine jv_ti (y := 2) s1 ?_
  refine jv_callV (na := 1) (As := [.int 2]) (st := [.int 0]) C (c_X9_count_2 l D kp (xf_58 hX) (xf_65 hX) (xf_70 hX) (xf_64 hX) (xf_59 hX)  ) gL_law_X9_count rfl (by decide) (xf_58 hX) rfl rfl rfl q_X9_count rfl ⟨by decide, by decide⟩ ⟨by decide, by decide⟩ (fun _ h => absurd h List.not_mem_nil) (Nat.le_of_ble_eq_true rfl) rfl dL_law_1831 (fun r n1 E_2 hp _ => ?_)
  cases hp
  show jv_V l D vwCl kp G 84 99182 n1 E_2 1834 [(3, .int 0), (2, .ref 58), (1, .ref 0), (0, .ref 1000000)] [.int 0, .int 0]
  refine jv_icmp_eq (tgt := 2064) C dL_law_1834 (by decide) (fun _ => ?_) (fun h => absurd (by decide) h)
  exact law_tail C hnl SS QQ 84 99182 n1 (by decide) (by decide) E_2
set_option maxRecDepth 100000 in
set_option maxHeartbeats 8000000 in
theorem law_46_3 {l : Launch} {D : va_G} {kp : Nat → ClassId} {G : jv_G} {xs : Nat → Int32} (C : jv_C D vwCl kp G cL_law RL wsL_law room_1 jx_N) (hnl : jv_nL G = 4) (SS : jv_S G 6 xs) (QQ : jv_end l D vwCl kp G) {E : Nat → jv_E} (hX : jx_F E) {a1 a2 a3 a4 a5 : Int32} (s1 : xs (1 : Int32).toNatClampNeg = 3) (s2 : xs (2 : Int32).toNatClampNeg = a2) (s3 : xs (3 : Int32).toNatClampNeg = a3) (s4 : xs (4 : Int32).toNatClampNeg = a4) (s5 : xs (5 : Int32).toNatClampNeg = a5) : jv_V l D vwCl kp G 84 99182 84 E 1816 [(3, .int 0), (2, .ref 58), (1, .ref 0), (0, .ref 1000000)] [] := by
  refine jv_aload_n C dL_law_1816 2 rfl ?_
  refine jv_aload_n C dL_law_1817 3 rfl ?_
  refine jv_iload_n C dL_law_1818 0 rfl ?_
  refine jv_iconst (v := 1) C dL_law_1819 (by decide) ?_
  refine jv_iadd C dL_law_1820 ?_
  refine jv_ti (y := 1) (by decide) ?_
  refine jv_sld C SS (jv_vi (by decide)) dL_law_1821 ?_
  refine jv_ti (y := 3) s1 ?_
  refine jv_callV (na := 1) (As := [.int 3]) (st := []) C (c_X8_count_3 l D kp (xf_0 hX) (xf_1 hX) (xf_17 hX) (xf_33 hX) (xf_35 hX)  ) gL_law_X8_count rfl (by decide) (xf_0 hX) rfl rfl rfl q_X8_count rfl ⟨by decide, by decide⟩ ⟨by decide, by decide⟩ (fun _ h => absurd h List.not_mem_nil) (Nat.le_of_ble_eq_true rfl) rfl dL_law_1822 (fun r n1 E_1 hp _ => ?_)
  obtain ⟨rfl, rfl, rfl⟩ := hp
  show jv_V l D vwCl kp G 84 99182 84 E 1825 [(3, .int 0), (2, .ref 58), (1, .ref 0), (0, .ref 1000000)] [.int 0]
  refine jv_aload_n C dL_law_1825 1 rfl ?_
  refine jv_aload_n C dL_law_1826 3 rfl ?_
  refine jv_iload_n C dL_law_1827 0 rfl ?_
  refine jv_iconst (v := 1) C dL_law_1828 (by decide) ?_
  refine jv_iadd C dL_law_1829 ?_
  refine jv_ti (y := 1) (by decide) ?_
  refine jv_sld C SS (jv_vi (by decide)) dL_law_1830 ?_
  refine jv_ti (y := 3) s1 ?_
  refine jv_callV (na := 1) (As := [.int 3]) (st := [.int 0]) C (c_X9_count_3 l D kp (xf_58 hX) (xf_65 hX) (xf_70 hX) (xf_64 hX) (xf_59 hX)  ) gL_law_X9_count rfl (by decide) (xf_58 hX) rfl rfl rfl q_X9_count rfl ⟨by decide, by decide⟩ ⟨by decide, by decide⟩ (fun _ h => absurd h List.not_mem_nil) (Nat.le_of_ble_eq_true rfl) rfl dL_law_1831 (fun r n1 E_2 hp _ => ?_)
  cases hp
  show jv_V l D vwCl kp G 84 99182 n1 E_2 1834 [(3, .int 0), (2, .ref 58), (1, .ref 0), (0, .ref 1000000)] [.int 0, .int 0]
  refine jv_icmp_eq (tgt := 2064) C dL_law_1834 (by decide) (fun _ => ?_) (fun h => absurd (by decide) h)
  exact law_tail C hnl SS QQ 84 99182 n1 (by decide) (by decide) E_2
set_option maxRecDepth 100000 in
set_option maxHeartbeats 8000000 in
theorem law_46_4 {l : Launch} {D : va_G} {kp : Nat → ClassId} {G : jv_G} {xs : Nat → Int32} (C : jv_C D vwCl kp G cL_law RL wsL_law room_1 jx_N) (hnl : jv_nL G = 4) (SS : jv_S G 6 xs) (QQ : jv_end l D vwCl kp G) {E : Nat → jv_E} (hX : jx_F E) {a1 a2 a3 a4 a5 : Int32} (s1 : xs (1 : Int32).toNatClampNeg = 4) (s2 : xs (2 : Int32).toNatClampNeg = a2) (s3 : xs (3 : Int32).toNatClampNeg = a3) (s4 : xs (4 : Int32).toNatClampNeg = a4) (s5 : xs (5 : Int32).toNatClampNeg = a5) : jv_V l D vwCl kp G 84 99182 84 E 1816 [(3, .int 0), (2, .ref 58), (1, .ref 0), (0, .ref 1000000)] [] := by
  refine jv_aload_n C dL_law_1816 2 rfl ?_
  refine jv_aload_n C dL_law_1817 3 rfl ?_
  refine jv_iload_n C dL_law_1818 0 rfl ?_
  refine jv_iconst (v := 1) C dL_law_1819 (by decide) ?_
  refine jv_iadd C dL_law_1820 ?_
  refine jv_ti (y := 1) (by decide) ?_
  refine jv_sld C SS (jv_vi (by decide)) dL_law_1821 ?_
  refine jv_ti (y := 4) s1 ?_
  refine jv_callV (na := 1) (As := [.int 4]) (st := []) C (c_X8_count_4 l D kp (xf_0 hX) (xf_1 hX) (xf_17 hX) (xf_33 hX) (xf_35 hX)  ) gL_law_X8_count rfl (by decide) (xf_0 hX) rfl rfl rfl q_X8_count rfl ⟨by decide, by decide⟩ ⟨by decide, by decide⟩ (fun _ h => absurd h List.not_mem_nil) (Nat.le_of_ble_eq_true rfl) rfl dL_law_1822 (fun r n1 E_1 hp _ => ?_)
  obtain ⟨rfl, rfl, rfl⟩ := hp
  show jv_V l D vwCl kp G 84 99182 84 E 1825 [(3, .int 0), (2, .ref 58), (1, .ref 0), (0, .ref 1000000)] [.int 0]
  refine jv_aload_n C dL_law_1825 1 rfl ?_
  refine jv_aload_n C dL_law_1826 3 rfl ?_
  refine jv_iload_n C dL_law_1827 0 rfl ?_
  refine jv_iconst (v := 1) C dL_law_1828 (by decide) ?_
  refine jv_iadd C dL_law_1829 ?_
  refine jv_ti (y := 1) (by decide) ?_
  refine jv_sld C SS (jv_vi (by decide)) dL_law_1830 ?_
  refine jv_ti (y := 4) s1 ?_
  refine jv_callV (na := 1) (As := [.int 4]) (st := [.int 0]) C (c_X9_count_4 l D kp (xf_58 hX) (xf_65 hX) (xf_70 hX) (xf_64 hX) (xf_59 hX)  ) gL_law_X9_count rfl (by decide) (xf_58 hX) rfl rfl rfl q_X9_count rfl ⟨by decide, by decide⟩ ⟨by decide, by decide⟩ (fun _ h => absurd h List.not_mem_nil) (Nat.le_of_ble_eq_true rfl) rfl dL_law_1831 (fun r n1 E_2 hp _ => ?_)
  cases hp
  show jv_V l D vwCl kp G 84 99182 n1 E_2 1834 [(3, .int 0), (2, .ref 58), (1, .ref 0), (0, .ref 1000000)] [.int 0, .int 0]
  refine jv_icmp_eq (tgt := 2064) C dL_law_1834 (by decide) (fun _ => ?_) (fun h => absurd (by decide) h)
  exact law_tail C hnl SS QQ 84 99182 n1 (by decide) (by decide) E_2
set_option maxRecDepth 100000 in
set_option maxHeartbeats 8000000 in
theorem law_46_5 {l : Launch} {D : va_G} {kp : Nat → ClassId} {G : jv_G} {xs : Nat → Int32} (C : jv_C D vwCl kp G cL_law RL wsL_law room_1 jx_N) (hnl : jv_nL G = 4) (SS : jv_S G 6 xs) (QQ : jv_end l D vwCl kp G) {E : Nat → jv_E} (hX : jx_F E) {a1 a2 a3 a4 a5 : Int32} (s1 : xs (1 : Int32).toNatClampNeg = 5) (s2 : xs (2 : Int32).toNatClampNeg = a2) (s3 : xs (3 : Int32).toNatClampNeg = a3) (s4 : xs (4 : Int32).toNatClampNeg = a4) (s5 : xs (5 : Int32).toNatClampNeg = a5) : jv_V l D vwCl kp G 84 99182 84 E 1816 [(3, .int 0), (2, .ref 58), (1, .ref 0), (0, .ref 1000000)] [] := by
  refine jv_aload_n C dL_law_1816 2 rfl ?_
  refine jv_aload_n C dL_law_1817 3 rfl ?_
  refine jv_iload_n C dL_law_1818 0 rfl ?_
  refine jv_iconst (v := 1) C dL_law_1819 (by decide) ?_
  refine jv_iadd C dL_law_1820 ?_
  refine jv_ti (y := 1) (by decide) ?_
  refine jv_sld C SS (jv_vi (by decide)) dL_law_1821 ?_
  refine jv_ti (y := 5) s1 ?_
  refine jv_callV (na := 1) (As := [.int 5]) (st := []) C (c_X8_count_5 l D kp (xf_0 hX) (xf_1 hX) (xf_17 hX) (xf_33 hX) (xf_35 hX)  ) gL_law_X8_count rfl (by decide) (xf_0 hX) rfl rfl rfl q_X8_count rfl ⟨by decide, by decide⟩ ⟨by decide, by decide⟩ (fun _ h => absurd h List.not_mem_nil) (Nat.le_of_ble_eq_true rfl) rfl dL_law_1822 (fun r n1 E_1 hp _ => ?_)
  obtain ⟨rfl, rfl, rfl⟩ := hp
  show jv_V l D vwCl kp G 84 99182 84 E 1825 [(3, .int 0), (2, .ref 58), (1, .ref 0), (0, .ref 1000000)] [.int 0]
  refine jv_aload_n C dL_law_1825 1 rfl ?_
  refine jv_aload_n C dL_law_1826 3 rfl ?_
  refine jv_iload_n C dL_law_1827 0 rfl ?_
  refine jv_iconst (v := 1) C dL_law_1828 (by decide) ?_
  refine jv_iadd C dL_law_1829 ?_
  refine jv_ti (y := 1) (by decide) ?_
  refine jv_sld C SS (jv_vi (by decide)) dL_law_1830 ?_
  refine jv_ti (y := 5) s1 ?_
  refine jv_callV (na := 1) (As := [.int 5]) (st := [.int 0]) C (c_X9_count_5 l D kp (xf_58 hX) (xf_65 hX) (xf_70 hX) (xf_64 hX) (xf_59 hX)  ) gL_law_X9_count rfl (by decide) (xf_58 hX) rfl rfl rfl q_X9_count rfl ⟨by decide, by decide⟩ ⟨by decide, by decide⟩ (fun _ h => absurd h List.not_mem_nil) (Nat.le_of_ble_eq_true rfl) rfl dL_law_1831 (fun r n1 E_2 hp _ => ?_)
  cases hp
  show jv_V l D vwCl kp G 84 99182 n1 E_2 1834 [(3, .int 0), (2, .ref 58), (1, .ref 0), (0, .ref 1000000)] [.int 0, .int 0]
  refine jv_icmp_eq (tgt := 2064) C dL_law_1834 (by decide) (fun _ => ?_) (fun h => absurd (by decide) h)
  exact law_tail C hnl SS QQ 84 99182 n1 (by decide) (by decide) E_2
set_option maxRecDepth 100000 in
set_option maxHeartbeats 8000000 in
theorem law_46_6 {l : Launch} {D : va_G} {kp : Nat → ClassId} {G : jv_G} {xs : Nat → Int32} (C : jv_C D vwCl kp G cL_law RL wsL_law room_1 jx_N) (hnl : jv_nL G = 4) (SS : jv_S G 6 xs) (QQ : jv_end l D vwCl kp G) {E : Nat → jv_E} (hX : jx_F E) {a1 a2 a3 a4 a5 : Int32} (s1 : xs (1 : Int32).toNatClampNeg = 6) (s2 : xs (2 : Int32).toNatClampNeg = a2) (s3 : xs (3 : Int32).toNatClampNeg = a3) (s4 : xs (4 : Int32).toNatClampNeg = a4) (s5 : xs (5 : Int32).toNatClampNeg = a5) : jv_V l D vwCl kp G 84 99182 84 E 1816 [(3, .int 0), (2, .ref 58), (1, .ref 0), (0, .ref 1000000)] [] := by
  refine jv_aload_n C dL_law_1816 2 rfl ?_
  refine jv_aload_n C dL_law_1817 3 rfl ?_
  refine jv_iload_n C dL_law_1818 0 rfl ?_
  refine jv_iconst (v := 1) C dL_law_1819 (by decide) ?_
  refine jv_iadd C dL_law_1820 ?_
  refine jv_ti (y := 1) (by decide) ?_
  refine jv_sld C SS (jv_vi (by decide)) dL_law_1821 ?_
  refine jv_ti (y := 6) s1 ?_
  refine jv_callV (na := 1) (As := [.int 6]) (st := []) C (c_X8_count_6 l D kp (xf_0 hX) (xf_1 hX) (xf_17 hX) (xf_33 hX) (xf_35 hX)  ) gL_law_X8_count rfl (by decide) (xf_0 hX) rfl rfl rfl q_X8_count rfl ⟨by decide, by decide⟩ ⟨by decide, by decide⟩ (fun _ h => absurd h List.not_mem_nil) (Nat.le_of_ble_eq_true rfl) rfl dL_law_1822 (fun r n1 E_1 hp _ => ?_)
  obtain ⟨rfl, rfl, rfl⟩ := hp
  show jv_V l D vwCl kp G 84 99182 84 E 1825 [(3, .int 0), (2, .ref 58), (1, .ref 0), (0, .ref 1000000)] [.int 0]
  refine jv_aload_n C dL_law_1825 1 rfl ?_
  refine jv_aload_n C dL_law_1826 3 rfl ?_
  refine jv_iload_n C dL_law_1827 0 rfl ?_
  refine jv_iconst (v := 1) C dL_law_1828 (by decide) ?_
  refine jv_iadd C dL_law_1829 ?_
  refine jv_ti (y := 1) (by decide) ?_
  refine jv_sld C SS (jv_vi (by decide)) dL_law_1830 ?_
  refine jv_ti (y := 6) s1 ?_
  refine jv_callV (na := 1) (As := [.int 6]) (st := [.int 0]) C (c_X9_count_6 l D kp (xf_58 hX) (xf_65 hX) (xf_70 hX) (xf_64 hX) (xf_59 hX)  ) gL_law_X9_count rfl (by decide) (xf_58 hX) rfl rfl rfl q_X9_count rfl ⟨by decide, by decide⟩ ⟨by decide, by decide⟩ (fun _ h => absurd h List.not_mem_nil) (Nat.le_of_ble_eq_true rfl) rfl dL_law_1831 (fun r n1 E_2 hp _ => ?_)
  cases hp
  show jv_V l D vwCl kp G 84 99182 n1 E_2 1834 [(3, .int 0), (2, .ref 58), (1, .ref 0), (0, .ref 1000000)] [.int 0, .int 0]
  refine jv_icmp_eq (tgt := 2064) C dL_law_1834 (by decide) (fun _ => ?_) (fun h => absurd (by decide) h)
  exact law_tail C hnl SS QQ 84 99182 n1 (by decide) (by decide) E_2
set_option maxRecDepth 100000 in
set_option maxHeartbeats 8000000 in
theorem law_46_7 {l : Launch} {D : va_G} {kp : Nat → ClassId} {G : jv_G} {xs : Nat → Int32} (C : jv_C D vwCl kp G cL_law RL wsL_law room_1 jx_N) (hnl : jv_nL G = 4) (SS : jv_S G 6 xs) (QQ : jv_end l D vwCl kp G) {E : Nat → jv_E} (hX : jx_F E) {a1 a2 a3 a4 a5 : Int32} (s1 : xs (1 : Int32).toNatClampNeg = 7) (s2 : xs (2 : Int32).toNatClampNeg = a2) (s3 : xs (3 : Int32).toNatClampNeg = a3) (s4 : xs (4 : Int32).toNatClampNeg = a4) (s5 : xs (5 : Int32).toNatClampNeg = a5) : jv_V l D vwCl kp G 84 99182 84 E 1816 [(3, .int 0), (2, .ref 58), (1, .ref 0), (0, .ref 1000000)] [] := by
  refine jv_aload_n C dL_law_1816 2 rfl ?_
  refine jv_aload_n C dL_law_1817 3 rfl ?_
  refine jv_iload_n C dL_law_1818 0 rfl ?_
  refine jv_iconst (v := 1) C dL_law_1819 (by decide) ?_
  refine jv_iadd C dL_law_1820 ?_
  refine jv_ti (y := 1) (by decide) ?_
  refine jv_sld C SS (jv_vi (by decide)) dL_law_1821 ?_
  refine jv_ti (y := 7) s1 ?_
  refine jv_callV (na := 1) (As := [.int 7]) (st := []) C (c_X8_count_7 l D kp (xf_0 hX) (xf_1 hX) (xf_17 hX) (xf_33 hX) (xf_35 hX)  ) gL_law_X8_count rfl (by decide) (xf_0 hX) rfl rfl rfl q_X8_count rfl ⟨by decide, by decide⟩ ⟨by decide, by decide⟩ (fun _ h => absurd h List.not_mem_nil) (Nat.le_of_ble_eq_true rfl) rfl dL_law_1822 (fun r n1 E_1 hp _ => ?_)
  obtain ⟨rfl, rfl, rfl⟩ := hp
  show jv_V l D vwCl kp G 84 99182 84 E 1825 [(3, .int 0), (2, .ref 58), (1, .ref 0), (0, .ref 1000000)] [.int 0]
  refine jv_aload_n C dL_law_1825 1 rfl ?_
  refine jv_aload_n C dL_law_1826 3 rfl ?_
  refine jv_iload_n C dL_law_1827 0 rfl ?_
  refine jv_iconst (v := 1) C dL_law_1828 (by decide) ?_
  refine jv_iadd C dL_law_1829 ?_
  refine jv_ti (y := 1) (by decide) ?_
  refine jv_sld C SS (jv_vi (by decide)) dL_law_1830 ?_
  refine jv_ti (y := 7) s1 ?_
  refine jv_callV (na := 1) (As := [.int 7]) (st := [.int 0]) C (c_X9_count_7 l D kp (xf_58 hX) (xf_65 hX) (xf_70 hX) (xf_64 hX) (xf_59 hX)  ) gL_law_X9_count rfl (by decide) (xf_58 hX) rfl rfl rfl q_X9_count rfl ⟨by decide, by decide⟩ ⟨by decide, by decide⟩ (fun _ h => absurd h List.not_mem_nil) (Nat.le_of_ble_eq_true rfl) rfl dL_law_1831 (fun r n1 E_2 hp _ => ?_)
  cases hp
  show jv_V l D vwCl kp G 84 99182 n1 E_2 1834 [(3, .int 0), (2, .ref 58), (1, .ref 0), (0, .ref 1000000)] [.int 0, .int 0]
  refine jv_icmp_eq (tgt := 2064) C dL_law_1834 (by decide) (fun _ => ?_) (fun h => absurd (by decide) h)
  exact law_tail C hnl SS QQ 84 99182 n1 (by decide) (by decide) E_2
set_option maxRecDepth 100000 in
set_option maxHeartbeats 8000000 in
theorem law_46_8 {l : Launch} {D : va_G} {kp : Nat → ClassId} {G : jv_G} {xs : Nat → Int32} (C : jv_C D vwCl kp G cL_law RL wsL_law room_1 jx_N) (hnl : jv_nL G = 4) (SS : jv_S G 6 xs) (QQ : jv_end l D vwCl kp G) {E : Nat → jv_E} (hX : jx_F E) {a1 a2 a3 a4 a5 : Int32} (s1 : xs (1 : Int32).toNatClampNeg = 8) (s2 : xs (2 : Int32).toNatClampNeg = a2) (s3 : xs (3 : Int32).toNatClampNeg = a3) (s4 : xs (4 : Int32).toNatClampNeg = a4) (s5 : xs (5 : Int32).toNatClampNeg = a5) : jv_V l D vwCl kp G 84 99182 84 E 1816 [(3, .int 0), (2, .ref 58), (1, .ref 0), (0, .ref 1000000)] [] := by
  refine jv_aload_n C dL_law_1816 2 rfl ?_
  refine jv_aload_n C dL_law_1817 3 rfl ?_
  refine jv_iload_n C dL_law_1818 0 rfl ?_
  refine jv_iconst (v := 1) C dL_law_1819 (by decide) ?_
  refine jv_iadd C dL_law_1820 ?_
  refine jv_ti (y := 1) (by decide) ?_
  refine jv_sld C SS (jv_vi (by decide)) dL_law_1821 ?_
  refine jv_ti (y := 8) s1 ?_
  refine jv_callV (na := 1) (As := [.int 8]) (st := []) C (c_X8_count_8 l D kp (xf_0 hX) (xf_1 hX) (xf_17 hX) (xf_33 hX) (xf_35 hX)  ) gL_law_X8_count rfl (by decide) (xf_0 hX) rfl rfl rfl q_X8_count rfl ⟨by decide, by decide⟩ ⟨by decide, by decide⟩ (fun _ h => absurd h List.not_mem_nil) (Nat.le_of_ble_eq_true rfl) rfl dL_law_1822 (fun r n1 E_1 hp _ => ?_)
  obtain ⟨rfl, rfl, rfl⟩ := hp
  show jv_V l D vwCl kp G 84 99182 84 E 1825 [(3, .int 0), (2, .ref 58), (1, .ref 0), (0, .ref 1000000)] [.int 0]
  refine jv_aload_n C dL_law_1825 1 rfl ?_
  refine jv_aload_n C dL_law_1826 3 rfl ?_
  refine jv_iload_n C dL_law_1827 0 rfl ?_
  refine jv_iconst (v := 1) C dL_law_1828 (by decide) ?_
  refine jv_iadd C dL_law_1829 ?_
  refine jv_ti (y := 1) (by decide) ?_
  refine jv_sld C SS (jv_vi (by decide)) dL_law_1830 ?_
  refine jv_ti (y := 8) s1 ?_
  refine jv_callV (na := 1) (As := [.int 8]) (st := [.int 0]) C (c_X9_count_8 l D kp (xf_58 hX) (xf_65 hX) (xf_70 hX) (xf_64 hX) (xf_59 hX)  ) gL_law_X9_count rfl (by decide) (xf_58 hX) rfl rfl rfl q_X9_count rfl ⟨by decide, by decide⟩ ⟨by decide, by decide⟩ (fun _ h => absurd h List.not_mem_nil) (Nat.le_of_ble_eq_true rfl) rfl dL_law_1831 (fun r n1 E_2 hp _ => ?_)
  cases hp
  show jv_V l D vwCl kp G 84 99182 n1 E_2 1834 [(3, .int 0), (2, .ref 58), (1, .ref 0), (0, .ref 1000000)] [.int 0, .int 0]
  refine jv_icmp_eq (tgt := 2064) C dL_law_1834 (by decide) (fun _ => ?_) (fun h => absurd (by decide) h)
  exact law_tail C hnl SS QQ 84 99182 n1 (by decide) (by decide) E_2
set_option maxRecDepth 100000 in
set_option maxHeartbeats 8000000 in
theorem law_46_neg {l : Launch} {D : va_G} {kp : Nat → ClassId} {G : jv_G} {xs : Nat → Int32} (C : jv_C D vwCl kp G cL_law RL wsL_law room_1 jx_N) (hnl : jv_nL G = 4) (SS : jv_S G 6 xs) (QQ : jv_end l D vwCl kp G) {E : Nat → jv_E} (hX : jx_F E) {a1 a2 a3 a4 a5 : Int32} (s1 : xs (1 : Int32).toNatClampNeg = a1) (s2 : xs (2 : Int32).toNatClampNeg = a2) (s3 : xs (3 : Int32).toNatClampNeg = a3) (s4 : xs (4 : Int32).toNatClampNeg = a4) (s5 : xs (5 : Int32).toNatClampNeg = a5) (ho : a1.toInt < 0) : jv_V l D vwCl kp G 84 99182 84 E 1816 [(3, .int 0), (2, .ref 58), (1, .ref 0), (0, .ref 1000000)] [] := by
  refine jv_aload_n C dL_law_1816 2 rfl ?_
  refine jv_aload_n C dL_law_1817 3 rfl ?_
  refine jv_iload_n C dL_law_1818 0 rfl ?_
  refine jv_iconst (v := 1) C dL_law_1819 (by decide) ?_
  refine jv_iadd C dL_law_1820 ?_
  refine jv_ti (y := 1) (by decide) ?_
  refine jv_sld C SS (jv_vi (by decide)) dL_law_1821 ?_
  refine jv_ti (y := a1) s1 ?_
  refine jv_callV (na := 1) (As := [.int a1]) (st := []) C (c_X8_count_neg l D kp (xf_0 hX) (xf_1 hX) (xf_17 hX) (xf_33 hX) (xf_35 hX) a1 ho) gL_law_X8_count rfl (by decide) (xf_0 hX) rfl rfl rfl q_X8_count rfl ⟨by decide, by decide⟩ ⟨by decide, by decide⟩ (fun _ h => absurd h List.not_mem_nil) (Nat.le_of_ble_eq_true rfl) rfl dL_law_1822 (fun r n1 E_1 hp _ => ?_)
  obtain ⟨rfl, rfl, rfl⟩ := hp
  show jv_V l D vwCl kp G 84 99182 84 E 1825 [(3, .int 0), (2, .ref 58), (1, .ref 0), (0, .ref 1000000)] [.int (-1)]
  refine jv_aload_n C dL_law_1825 1 rfl ?_
  refine jv_aload_n C dL_law_1826 3 rfl ?_
  refine jv_iload_n C dL_law_1827 0 rfl ?_
  refine jv_iconst (v := 1) C dL_law_1828 (by decide) ?_
  refine jv_iadd C dL_law_1829 ?_
  refine jv_ti (y := 1) (by decide) ?_
  refine jv_sld C SS (jv_vi (by decide)) dL_law_1830 ?_
  refine jv_ti (y := a1) s1 ?_
  refine jv_callV (na := 1) (As := [.int a1]) (st := [.int (-1)]) C (c_X9_count_neg l D kp (xf_58 hX) a1 ho) gL_law_X9_count rfl (by decide) (xf_58 hX) rfl rfl rfl q_X9_count rfl ⟨by decide, by decide⟩ ⟨by decide, by decide⟩ (fun _ h => absurd h List.not_mem_nil) (Nat.le_of_ble_eq_true rfl) rfl dL_law_1831 (fun r n1 E_2 hp _ => ?_)
  cases hp
  show jv_V l D vwCl kp G 84 99182 n1 E_2 1834 [(3, .int 0), (2, .ref 58), (1, .ref 0), (0, .ref 1000000)] [.int (-1), .int (-1)]
  refine jv_icmp_eq (tgt := 2064) C dL_law_1834 (by decide) (fun _ => ?_) (fun h => absurd (by decide) h)
  exact law_tail C hnl SS QQ 84 99182 n1 (by decide) (by decide) E_2
set_option maxRecDepth 100000 in
set_option maxHeartbeats 8000000 in
theorem law_46_big {l : Launch} {D : va_G} {kp : Nat → ClassId} {G : jv_G} {xs : Nat → Int32} (C : jv_C D vwCl kp G cL_law RL wsL_law room_1 jx_N) (hnl : jv_nL G = 4) (SS : jv_S G 6 xs) (QQ : jv_end l D vwCl kp G) {E : Nat → jv_E} (hX : jx_F E) {a1 a2 a3 a4 a5 : Int32} (s1 : xs (1 : Int32).toNatClampNeg = a1) (s2 : xs (2 : Int32).toNatClampNeg = a2) (s3 : xs (3 : Int32).toNatClampNeg = a3) (s4 : xs (4 : Int32).toNatClampNeg = a4) (s5 : xs (5 : Int32).toNatClampNeg = a5) (ho : 8 < a1.toInt) : jv_V l D vwCl kp G 84 99182 84 E 1816 [(3, .int 0), (2, .ref 58), (1, .ref 0), (0, .ref 1000000)] [] := by
  refine jv_aload_n C dL_law_1816 2 rfl ?_
  refine jv_aload_n C dL_law_1817 3 rfl ?_
  refine jv_iload_n C dL_law_1818 0 rfl ?_
  refine jv_iconst (v := 1) C dL_law_1819 (by decide) ?_
  refine jv_iadd C dL_law_1820 ?_
  refine jv_ti (y := 1) (by decide) ?_
  refine jv_sld C SS (jv_vi (by decide)) dL_law_1821 ?_
  refine jv_ti (y := a1) s1 ?_
  refine jv_callV (na := 1) (As := [.int a1]) (st := []) C (c_X8_count_big l D kp (xf_0 hX) (xf_1 hX) (xf_17 hX) (xf_33 hX) (xf_35 hX) a1 ho) gL_law_X8_count rfl (by decide) (xf_0 hX) rfl rfl rfl q_X8_count rfl ⟨by decide, by decide⟩ ⟨by decide, by decide⟩ (fun _ h => absurd h List.not_mem_nil) (Nat.le_of_ble_eq_true rfl) rfl dL_law_1822 (fun r n1 E_1 hp _ => ?_)
  obtain ⟨rfl, rfl, rfl⟩ := hp
  show jv_V l D vwCl kp G 84 99182 84 E 1825 [(3, .int 0), (2, .ref 58), (1, .ref 0), (0, .ref 1000000)] [.int (-1)]
  refine jv_aload_n C dL_law_1825 1 rfl ?_
  refine jv_aload_n C dL_law_1826 3 rfl ?_
  refine jv_iload_n C dL_law_1827 0 rfl ?_
  refine jv_iconst (v := 1) C dL_law_1828 (by decide) ?_
  refine jv_iadd C dL_law_1829 ?_
  refine jv_ti (y := 1) (by decide) ?_
  refine jv_sld C SS (jv_vi (by decide)) dL_law_1830 ?_
  refine jv_ti (y := a1) s1 ?_
  refine jv_callV (na := 1) (As := [.int a1]) (st := [.int (-1)]) C (c_X9_count_big l D kp (xf_58 hX) a1 ho) gL_law_X9_count rfl (by decide) (xf_58 hX) rfl rfl rfl q_X9_count rfl ⟨by decide, by decide⟩ ⟨by decide, by decide⟩ (fun _ h => absurd h List.not_mem_nil) (Nat.le_of_ble_eq_true rfl) rfl dL_law_1831 (fun r n1 E_2 hp _ => ?_)
  cases hp
  show jv_V l D vwCl kp G 84 99182 n1 E_2 1834 [(3, .int 0), (2, .ref 58), (1, .ref 0), (0, .ref 1000000)] [.int (-1), .int (-1)]
  refine jv_icmp_eq (tgt := 2064) C dL_law_1834 (by decide) (fun _ => ?_) (fun h => absurd (by decide) h)
  exact law_tail C hnl SS QQ 84 99182 n1 (by decide) (by decide) E_2
theorem q_X8_keep : yX8_keep.cls ≠ "java/lang/invoke/MethodHandle" ∧ yX8_keep.cls ≠ "java/lang/invoke/VarHandle" ∧ (parseMethodDescriptor yX8_keep.desc).map (fun d => d.parameters.length) = some 1 := by decide +kernel
theorem q_X9_keep : yX9_keep.cls ≠ "java/lang/invoke/MethodHandle" ∧ yX9_keep.cls ≠ "java/lang/invoke/VarHandle" ∧ (parseMethodDescriptor yX9_keep.desc).map (fun d => d.parameters.length) = some 1 := by decide +kernel
set_option maxRecDepth 100000 in
set_option maxHeartbeats 8000000 in
theorem law_47_0 {l : Launch} {D : va_G} {kp : Nat → ClassId} {G : jv_G} {xs : Nat → Int32} (C : jv_C D vwCl kp G cL_law RL wsL_law room_1 jx_N) (hnl : jv_nL G = 4) (SS : jv_S G 6 xs) (QQ : jv_end l D vwCl kp G) {E : Nat → jv_E} (hX : jx_F E) {a1 a2 a3 a4 a5 : Int32} (s1 : xs (1 : Int32).toNatClampNeg = 0) (s2 : xs (2 : Int32).toNatClampNeg = a2) (s3 : xs (3 : Int32).toNatClampNeg = a3) (s4 : xs (4 : Int32).toNatClampNeg = a4) (s5 : xs (5 : Int32).toNatClampNeg = a5) : jv_V l D vwCl kp G 84 99182 84 E 1839 [(3, .int 0), (2, .ref 58), (1, .ref 0), (0, .ref 1000000)] [] := by
  refine jv_aload_n C dL_law_1839 2 rfl ?_
  refine jv_aload_n C dL_law_1840 3 rfl ?_
  refine jv_iload_n C dL_law_1841 0 rfl ?_
  refine jv_iconst (v := 1) C dL_law_1842 (by decide) ?_
  refine jv_iadd C dL_law_1843 ?_
  refine jv_ti (y := 1) (by decide) ?_
  refine jv_sld C SS (jv_vi (by decide)) dL_law_1844 ?_
  refine jv_ti (y := 0) s1 ?_
  refine jv_callV (na := 1) (As := [.int 0]) (st := []) C (c_X8_keep_0 l D kp (xf_0 hX) (xf_15 hX) (xf_16 hX) (xf_1 hX) (xf_2 hX) (xf_3 hX) (xf_4 hX) (xf_5 hX) (xf_6 hX) (xf_7 hX) (xf_37 hX) (xf_38 hX) (xf_39 hX) (xf_40 hX) (xf_41 hX) (xf_42 hX) (xf_43 hX)  ) gL_law_X8_keep rfl (by decide) (xf_0 hX) rfl rfl rfl q_X8_keep rfl ⟨by decide, by decide⟩ ⟨by decide, by decide⟩ (fun _ h => absurd h List.not_mem_nil) (Nat.le_of_ble_eq_true rfl) rfl dL_law_1845 (fun r n1 E_1 hp _ => ?_)
  obtain ⟨rfl, hf2⟩ := hp
  show jv_V l D vwCl kp G 84 99182 n1 E_1 1848 [(3, .int 0), (2, .ref 58), (1, .ref 0), (0, .ref 1000000)] [.int 0]
  refine jv_aload_n C dL_law_1848 1 rfl ?_
  refine jv_aload_n C dL_law_1849 3 rfl ?_
  refine jv_iload_n C dL_law_1850 0 rfl ?_
  refine jv_iconst (v := 1) C dL_law_1851 (by decide) ?_
  refine jv_iadd C dL_law_1852 ?_
  refine jv_ti (y := 1) (by decide) ?_
  refine jv_sld C SS (jv_vi (by decide)) dL_law_1853 ?_
  refine jv_ti (y := 0) s1 ?_
  refine jv_callV (na := 1) (As := [.int 0]) (st := [.int 0]) C (c_X9_keep_0 l D kp ((hf2 58 (by decide)).trans (xf_58 hX)) ((hf2 74 (by decide)).trans (xf_74 hX)) ((hf2 64 (by decide)).trans (xf_64 hX)) ((hf2 65 (by decide)).trans (xf_65 hX)) ((hf2 66 (by decide)).trans (xf_66 hX)) ((hf2 67 (by decide)).trans (xf_67 hX)) ((hf2 68 (by decide)).trans (xf_68 hX)) ((hf2 69 (by decide)).trans (xf_69 hX)) ((hf2 70 (by decide)).trans (xf_70 hX)) ((hf2 71 (by decide)).trans (xf_71 hX)) ((hf2 72 (by decide)).trans (xf_72 hX)) ((hf2 73 (by decide)).trans (xf_73 hX))  ) gL_law_X9_keep rfl (by decide) ((hf2 58 (by decide)).trans (xf_58 hX)) rfl rfl rfl q_X9_keep rfl ⟨by decide, by decide⟩ ⟨by decide, by decide⟩ (fun _ h => absurd h List.not_mem_nil) (Nat.le_of_ble_eq_true rfl) rfl dL_law_1854 (fun r n1 E_3 hp _ => ?_)
  cases hp
  show jv_V l D vwCl kp G 84 99182 n1 E_3 1857 [(3, .int 0), (2, .ref 58), (1, .ref 0), (0, .ref 1000000)] [.int 0, .int 0]
  refine jv_icmp_eq (tgt := 2064) C dL_law_1857 (by decide) (fun _ => ?_) (fun h => absurd (by decide) h)
  exact law_tail C hnl SS QQ 84 99182 n1 (by decide) (by decide) E_3
set_option maxRecDepth 100000 in
set_option maxHeartbeats 8000000 in
theorem law_47_1 {l : Launch} {D : va_G} {kp : Nat → ClassId} {G : jv_G} {xs : Nat → Int32} (C : jv_C D vwCl kp G cL_law RL wsL_law room_1 jx_N) (hnl : jv_nL G = 4) (SS : jv_S G 6 xs) (QQ : jv_end l D vwCl kp G) {E : Nat → jv_E} (hX : jx_F E) {a1 a2 a3 a4 a5 : Int32} (s1 : xs (1 : Int32).toNatClampNeg = 1) (s2 : xs (2 : Int32).toNatClampNeg = a2) (s3 : xs (3 : Int32).toNatClampNeg = a3) (s4 : xs (4 : Int32).toNatClampNeg = a4) (s5 : xs (5 : Int32).toNatClampNeg = a5) : jv_V l D vwCl kp G 84 99182 84 E 1839 [(3, .int 0), (2, .ref 58), (1, .ref 0), (0, .ref 1000000)] [] := by
  refine jv_aload_n C dL_law_1839 2 rfl ?_
  refine jv_aload_n C dL_law_1840 3 rfl ?_
  refine jv_iload_n C dL_law_1841 0 rfl ?_
  refine jv_iconst (v := 1) C dL_law_1842 (by decide) ?_
  refine jv_iadd C dL_law_1843 ?_
  refine jv_ti (y := 1) (by decide) ?_
  refine jv_sld C SS (jv_vi (by decide)) dL_law_1844 ?_
  refine jv_ti (y := 1) s1 ?_
  refine jv_callV (na := 1) (As := [.int 1]) (st := []) C (c_X8_keep_1 l D kp (xf_0 hX) (xf_15 hX) (xf_16 hX) (xf_1 hX) (xf_2 hX) (xf_3 hX) (xf_4 hX) (xf_5 hX) (xf_6 hX) (xf_7 hX) (xf_44 hX) (xf_45 hX) (xf_46 hX) (xf_47 hX) (xf_48 hX) (xf_49 hX) (xf_50 hX)  ) gL_law_X8_keep rfl (by decide) (xf_0 hX) rfl rfl rfl q_X8_keep rfl ⟨by decide, by decide⟩ ⟨by decide, by decide⟩ (fun _ h => absurd h List.not_mem_nil) (Nat.le_of_ble_eq_true rfl) rfl dL_law_1845 (fun r n1 E_1 hp _ => ?_)
  obtain ⟨rfl, hf2⟩ := hp
  show jv_V l D vwCl kp G 84 99182 n1 E_1 1848 [(3, .int 0), (2, .ref 58), (1, .ref 0), (0, .ref 1000000)] [.int 0]
  refine jv_aload_n C dL_law_1848 1 rfl ?_
  refine jv_aload_n C dL_law_1849 3 rfl ?_
  refine jv_iload_n C dL_law_1850 0 rfl ?_
  refine jv_iconst (v := 1) C dL_law_1851 (by decide) ?_
  refine jv_iadd C dL_law_1852 ?_
  refine jv_ti (y := 1) (by decide) ?_
  refine jv_sld C SS (jv_vi (by decide)) dL_law_1853 ?_
  refine jv_ti (y := 1) s1 ?_
  refine jv_callV (na := 1) (As := [.int 1]) (st := [.int 0]) C (c_X9_keep_1 l D kp ((hf2 58 (by decide)).trans (xf_58 hX)) ((hf2 74 (by decide)).trans (xf_74 hX)) ((hf2 64 (by decide)).trans (xf_64 hX)) ((hf2 65 (by decide)).trans (xf_65 hX)) ((hf2 66 (by decide)).trans (xf_66 hX)) ((hf2 67 (by decide)).trans (xf_67 hX)) ((hf2 68 (by decide)).trans (xf_68 hX)) ((hf2 69 (by decide)).trans (xf_69 hX)) ((hf2 70 (by decide)).trans (xf_70 hX)) ((hf2 71 (by decide)).trans (xf_71 hX)) ((hf2 72 (by decide)).trans (xf_72 hX)) ((hf2 73 (by decide)).trans (xf_73 hX))  ) gL_law_X9_keep rfl (by decide) ((hf2 58 (by decide)).trans (xf_58 hX)) rfl rfl rfl q_X9_keep rfl ⟨by decide, by decide⟩ ⟨by decide, by decide⟩ (fun _ h => absurd h List.not_mem_nil) (Nat.le_of_ble_eq_true rfl) rfl dL_law_1854 (fun r n1 E_3 hp _ => ?_)
  cases hp
  show jv_V l D vwCl kp G 84 99182 n1 E_3 1857 [(3, .int 0), (2, .ref 58), (1, .ref 0), (0, .ref 1000000)] [.int 0, .int 0]
  refine jv_icmp_eq (tgt := 2064) C dL_law_1857 (by decide) (fun _ => ?_) (fun h => absurd (by decide) h)
  exact law_tail C hnl SS QQ 84 99182 n1 (by decide) (by decide) E_3
set_option maxRecDepth 100000 in
set_option maxHeartbeats 8000000 in
theorem law_47_2 {l : Launch} {D : va_G} {kp : Nat → ClassId} {G : jv_G} {xs : Nat → Int32} (C : jv_C D vwCl kp G cL_law RL wsL_law room_1 jx_N) (hnl : jv_nL G = 4) (SS : jv_S G 6 xs) (QQ : jv_end l D vwCl kp G) {E : Nat → jv_E} (hX : jx_F E) {a1 a2 a3 a4 a5 : Int32} (s1 : xs (1 : Int32).toNatClampNeg = 2) (s2 : xs (2 : Int32).toNatClampNeg = a2) (s3 : xs (3 : Int32).toNatClampNeg = a3) (s4 : xs (4 : Int32).toNatClampNeg = a4) (s5 : xs (5 : Int32).toNatClampNeg = a5) : jv_V l D vwCl kp G 84 99182 84 E 1839 [(3, .int 0), (2, .ref 58), (1, .ref 0), (0, .ref 1000000)] [] := by
  refine jv_aload_n C dL_law_1839 2 rfl ?_
  refine jv_aload_n C dL_law_1840 3 rfl ?_
  refine jv_iload_n C dL_law_1841 0 rfl ?_
  refine jv_iconst (v := 1) C dL_law_1842 (by decide) ?_
  refine jv_iadd C dL_law_1843 ?_
  refine jv_ti (y := 1) (by decide) ?_
  refine jv_sld C SS (jv_vi (by decide)) dL_law_1844 ?_
  refine jv_ti (y := 2) s1 ?_
  refine jv_callV (na := 1) (As := [.int 2]) (st := []) C (c_X8_keep_2 l D kp (xf_0 hX) (xf_15 hX) (xf_16 hX) (xf_1 hX) (xf_2 hX) (xf_3 hX) (xf_4 hX) (xf_5 hX) (xf_6 hX) (xf_7 hX) (xf_51 hX) (xf_52 hX) (xf_53 hX) (xf_54 hX) (xf_55 hX) (xf_56 hX) (xf_57 hX)  ) gL_law_X8_keep rfl (by decide) (xf_0 hX) rfl rfl rfl q_X8_keep rfl ⟨by decide, by decide⟩ ⟨by decide, by decide⟩ (fun _ h => absurd h List.not_mem_nil) (Nat.le_of_ble_eq_true rfl) rfl dL_law_1845 (fun r n1 E_1 hp _ => ?_)
  obtain ⟨rfl, hf2⟩ := hp
  show jv_V l D vwCl kp G 84 99182 n1 E_1 1848 [(3, .int 0), (2, .ref 58), (1, .ref 0), (0, .ref 1000000)] [.int 0]
  refine jv_aload_n C dL_law_1848 1 rfl ?_
  refine jv_aload_n C dL_law_1849 3 rfl ?_
  refine jv_iload_n C dL_law_1850 0 rfl ?_
  refine jv_iconst (v := 1) C dL_law_1851 (by decide) ?_
  refine jv_iadd C dL_law_1852 ?_
  refine jv_ti (y := 1) (by decide) ?_
  refine jv_sld C SS (jv_vi (by decide)) dL_law_1853 ?_
  refine jv_ti (y := 2) s1 ?_
  refine jv_callV (na := 1) (As := [.int 2]) (st := [.int 0]) C (c_X9_keep_2 l D kp ((hf2 58 (by decide)).trans (xf_58 hX)) ((hf2 74 (by decide)).trans (xf_74 hX)) ((hf2 64 (by decide)).trans (xf_64 hX)) ((hf2 65 (by decide)).trans (xf_65 hX)) ((hf2 66 (by decide)).trans (xf_66 hX)) ((hf2 67 (by decide)).trans (xf_67 hX)) ((hf2 68 (by decide)).trans (xf_68 hX)) ((hf2 69 (by decide)).trans (xf_69 hX)) ((hf2 70 (by decide)).trans (xf_70 hX)) ((hf2 71 (by decide)).trans (xf_71 hX)) ((hf2 72 (by decide)).trans (xf_72 hX)) ((hf2 73 (by decide)).trans (xf_73 hX))  ) gL_law_X9_keep rfl (by decide) ((hf2 58 (by decide)).trans (xf_58 hX)) rfl rfl rfl q_X9_keep rfl ⟨by decide, by decide⟩ ⟨by decide, by decide⟩ (fun _ h => absurd h List.not_mem_nil) (Nat.le_of_ble_eq_true rfl) rfl dL_law_1854 (fun r n1 E_3 hp _ => ?_)
  cases hp
  show jv_V l D vwCl kp G 84 99182 n1 E_3 1857 [(3, .int 0), (2, .ref 58), (1, .ref 0), (0, .ref 1000000)] [.int 0, .int 0]
  refine jv_icmp_eq (tgt := 2064) C dL_law_1857 (by decide) (fun _ => ?_) (fun h => absurd (by decide) h)
  exact law_tail C hnl SS QQ 84 99182 n1 (by decide) (by decide) E_3
set_option maxRecDepth 100000 in
set_option maxHeartbeats 8000000 in
theorem law_47_neg {l : Launch} {D : va_G} {kp : Nat → ClassId} {G : jv_G} {xs : Nat → Int32} (C : jv_C D vwCl kp G cL_law RL wsL_law room_1 jx_N) (hnl : jv_nL G = 4) (SS : jv_S G 6 xs) (QQ : jv_end l D vwCl kp G) {E : Nat → jv_E} (hX : jx_F E) {a1 a2 a3 a4 a5 : Int32} (s1 : xs (1 : Int32).toNatClampNeg = a1) (s2 : xs (2 : Int32).toNatClampNeg = a2) (s3 : xs (3 : Int32).toNatClampNeg = a3) (s4 : xs (4 : Int32).toNatClampNeg = a4) (s5 : xs (5 : Int32).toNatClampNeg = a5) (ho : a1.toInt < 0) : jv_V l D vwCl kp G 84 99182 84 E 1839 [(3, .int 0), (2, .ref 58), (1, .ref 0), (0, .ref 1000000)] [] := by
  refine jv_aload_n C dL_law_1839 2 rfl ?_
  refine jv_aload_n C dL_law_1840 3 rfl ?_
  refine jv_iload_n C dL_law_1841 0 rfl ?_
  refine jv_iconst (v := 1) C dL_law_1842 (by decide) ?_
  refine jv_iadd C dL_law_1843 ?_
  refine jv_ti (y := 1) (by decide) ?_
  refine jv_sld C SS (jv_vi (by decide)) dL_law_1844 ?_
  refine jv_ti (y := a1) s1 ?_
  refine jv_callV (na := 1) (As := [.int a1]) (st := []) C (c_X8_keep_neg l D kp (xf_0 hX) (xf_15 hX) a1 ho) gL_law_X8_keep rfl (by decide) (xf_0 hX) rfl rfl rfl q_X8_keep rfl ⟨by decide, by decide⟩ ⟨by decide, by decide⟩ (fun _ h => absurd h List.not_mem_nil) (Nat.le_of_ble_eq_true rfl) rfl dL_law_1845 (fun r n1 E_1 hp _ => ?_)
  obtain ⟨rfl, rfl, rfl⟩ := hp
  show jv_V l D vwCl kp G 84 99182 84 E 1848 [(3, .int 0), (2, .ref 58), (1, .ref 0), (0, .ref 1000000)] [.int (-2)]
  refine jv_aload_n C dL_law_1848 1 rfl ?_
  refine jv_aload_n C dL_law_1849 3 rfl ?_
  refine jv_iload_n C dL_law_1850 0 rfl ?_
  refine jv_iconst (v := 1) C dL_law_1851 (by decide) ?_
  refine jv_iadd C dL_law_1852 ?_
  refine jv_ti (y := 1) (by decide) ?_
  refine jv_sld C SS (jv_vi (by decide)) dL_law_1853 ?_
  refine jv_ti (y := a1) s1 ?_
  refine jv_callV (na := 1) (As := [.int a1]) (st := [.int (-2)]) C (c_X9_keep_neg l D kp (xf_58 hX) a1 ho) gL_law_X9_keep rfl (by decide) (xf_58 hX) rfl rfl rfl q_X9_keep rfl ⟨by decide, by decide⟩ ⟨by decide, by decide⟩ (fun _ h => absurd h List.not_mem_nil) (Nat.le_of_ble_eq_true rfl) rfl dL_law_1854 (fun r n1 E_2 hp _ => ?_)
  cases hp
  show jv_V l D vwCl kp G 84 99182 n1 E_2 1857 [(3, .int 0), (2, .ref 58), (1, .ref 0), (0, .ref 1000000)] [.int (-2), .int (-2)]
  refine jv_icmp_eq (tgt := 2064) C dL_law_1857 (by decide) (fun _ => ?_) (fun h => absurd (by decide) h)
  exact law_tail C hnl SS QQ 84 99182 n1 (by decide) (by decide) E_2
set_option maxRecDepth 100000 in
set_option maxHeartbeats 8000000 in
theorem law_47_big {l : Launch} {D : va_G} {kp : Nat → ClassId} {G : jv_G} {xs : Nat → Int32} (C : jv_C D vwCl kp G cL_law RL wsL_law room_1 jx_N) (hnl : jv_nL G = 4) (SS : jv_S G 6 xs) (QQ : jv_end l D vwCl kp G) {E : Nat → jv_E} (hX : jx_F E) {a1 a2 a3 a4 a5 : Int32} (s1 : xs (1 : Int32).toNatClampNeg = a1) (s2 : xs (2 : Int32).toNatClampNeg = a2) (s3 : xs (3 : Int32).toNatClampNeg = a3) (s4 : xs (4 : Int32).toNatClampNeg = a4) (s5 : xs (5 : Int32).toNatClampNeg = a5) (ho : 2 < a1.toInt) : jv_V l D vwCl kp G 84 99182 84 E 1839 [(3, .int 0), (2, .ref 58), (1, .ref 0), (0, .ref 1000000)] [] := by
  refine jv_aload_n C dL_law_1839 2 rfl ?_
  refine jv_aload_n C dL_law_1840 3 rfl ?_
  refine jv_iload_n C dL_law_1841 0 rfl ?_
  refine jv_iconst (v := 1) C dL_law_1842 (by decide) ?_
  refine jv_iadd C dL_law_1843 ?_
  refine jv_ti (y := 1) (by decide) ?_
  refine jv_sld C SS (jv_vi (by decide)) dL_law_1844 ?_
  refine jv_ti (y := a1) s1 ?_
  refine jv_callV (na := 1) (As := [.int a1]) (st := []) C (c_X8_keep_big l D kp (xf_0 hX) (xf_15 hX) a1 ho) gL_law_X8_keep rfl (by decide) (xf_0 hX) rfl rfl rfl q_X8_keep rfl ⟨by decide, by decide⟩ ⟨by decide, by decide⟩ (fun _ h => absurd h List.not_mem_nil) (Nat.le_of_ble_eq_true rfl) rfl dL_law_1845 (fun r n1 E_1 hp _ => ?_)
  obtain ⟨rfl, rfl, rfl⟩ := hp
  show jv_V l D vwCl kp G 84 99182 84 E 1848 [(3, .int 0), (2, .ref 58), (1, .ref 0), (0, .ref 1000000)] [.int (-2)]
  refine jv_aload_n C dL_law_1848 1 rfl ?_
  refine jv_aload_n C dL_law_1849 3 rfl ?_
  refine jv_iload_n C dL_law_1850 0 rfl ?_
  refine jv_iconst (v := 1) C dL_law_1851 (by decide) ?_
  refine jv_iadd C dL_law_1852 ?_
  refine jv_ti (y := 1) (by decide) ?_
  refine jv_sld C SS (jv_vi (by decide)) dL_law_1853 ?_
  refine jv_ti (y := a1) s1 ?_
  refine jv_callV (na := 1) (As := [.int a1]) (st := [.int (-2)]) C (c_X9_keep_big l D kp (xf_58 hX) a1 ho) gL_law_X9_keep rfl (by decide) (xf_58 hX) rfl rfl rfl q_X9_keep rfl ⟨by decide, by decide⟩ ⟨by decide, by decide⟩ (fun _ h => absurd h List.not_mem_nil) (Nat.le_of_ble_eq_true rfl) rfl dL_law_1854 (fun r n1 E_2 hp _ => ?_)
  cases hp
  show jv_V l D vwCl kp G 84 99182 n1 E_2 1857 [(3, .int 0), (2, .ref 58), (1, .ref 0), (0, .ref 1000000)] [.int (-2), .int (-2)]
  refine jv_icmp_eq (tgt := 2064) C dL_law_1857 (by decide) (fun _ => ?_) (fun h => absurd (by decide) h)
  exact law_tail C hnl SS QQ 84 99182 n1 (by decide) (by decide) E_2
theorem q_X8_back : yX8_back.cls ≠ "java/lang/invoke/MethodHandle" ∧ yX8_back.cls ≠ "java/lang/invoke/VarHandle" ∧ (parseMethodDescriptor yX8_back.desc).map (fun d => d.parameters.length) = some 1 := by decide +kernel
theorem q_X9_back : yX9_back.cls ≠ "java/lang/invoke/MethodHandle" ∧ yX9_back.cls ≠ "java/lang/invoke/VarHandle" ∧ (parseMethodDescriptor yX9_back.desc).map (fun d => d.parameters.length) = some 1 := by decide +kernel
set_option maxRecDepth 100000 in
set_option maxHeartbeats 8000000 in
theorem law_48_0 {l : Launch} {D : va_G} {kp : Nat → ClassId} {G : jv_G} {xs : Nat → Int32} (C : jv_C D vwCl kp G cL_law RL wsL_law room_1 jx_N) (hnl : jv_nL G = 4) (SS : jv_S G 6 xs) (QQ : jv_end l D vwCl kp G) {E : Nat → jv_E} (hX : jx_F E) {a1 a2 a3 a4 a5 : Int32} (s1 : xs (1 : Int32).toNatClampNeg = 0) (s2 : xs (2 : Int32).toNatClampNeg = a2) (s3 : xs (3 : Int32).toNatClampNeg = a3) (s4 : xs (4 : Int32).toNatClampNeg = a4) (s5 : xs (5 : Int32).toNatClampNeg = a5) : jv_V l D vwCl kp G 84 99182 84 E 1862 [(3, .int 0), (2, .ref 58), (1, .ref 0), (0, .ref 1000000)] [] := by
  refine jv_aload_n C dL_law_1862 2 rfl ?_
  refine jv_aload_n C dL_law_1863 3 rfl ?_
  refine jv_iload_n C dL_law_1864 0 rfl ?_
  refine jv_iconst (v := 1) C dL_law_1865 (by decide) ?_
  refine jv_iadd C dL_law_1866 ?_
  refine jv_ti (y := 1) (by decide) ?_
  refine jv_sld C SS (jv_vi (by decide)) dL_law_1867 ?_
  refine jv_ti (y := 0) s1 ?_
  refine jv_callV (na := 1) (As := [.int 0]) (st := []) C (c_X8_back_0 l D kp (xf_0 hX) (xf_15 hX) (xf_16 hX)  ) gL_law_X8_back rfl (by decide) (xf_0 hX) rfl rfl rfl q_X8_back rfl ⟨by decide, by decide⟩ ⟨by decide, by decide⟩ (fun _ h => absurd h List.not_mem_nil) (Nat.le_of_ble_eq_true rfl) rfl dL_law_1868 (fun r n1 E_1 hp _ => ?_)
  obtain ⟨rfl, rfl, rfl⟩ := hp
  show jv_V l D vwCl kp G 84 99182 84 E 1871 [(3, .int 0), (2, .ref 58), (1, .ref 0), (0, .ref 1000000)] [.int (-6)]
  refine jv_aload_n C dL_law_1871 1 rfl ?_
  refine jv_aload_n C dL_law_1872 3 rfl ?_
  refine jv_iload_n C dL_law_1873 0 rfl ?_
  refine jv_iconst (v := 1) C dL_law_1874 (by decide) ?_
  refine jv_iadd C dL_law_1875 ?_
  refine jv_ti (y := 1) (by decide) ?_
  refine jv_sld C SS (jv_vi (by decide)) dL_law_1876 ?_
  refine jv_ti (y := 0) s1 ?_
  refine jv_callV (na := 1) (As := [.int 0]) (st := [.int (-6)]) C (c_X9_back_0 l D kp (xf_58 hX) (xf_74 hX)  ) gL_law_X9_back rfl (by decide) (xf_58 hX) rfl rfl rfl q_X9_back rfl ⟨by decide, by decide⟩ ⟨by decide, by decide⟩ (fun _ h => absurd h List.not_mem_nil) (Nat.le_of_ble_eq_true rfl) rfl dL_law_1877 (fun r n1 E_2 hp _ => ?_)
  cases hp
  show jv_V l D vwCl kp G 84 99182 n1 E_2 1880 [(3, .int 0), (2, .ref 58), (1, .ref 0), (0, .ref 1000000)] [.int (-6), .int (-6)]
  refine jv_icmp_eq (tgt := 2064) C dL_law_1880 (by decide) (fun _ => ?_) (fun h => absurd (by decide) h)
  exact law_tail C hnl SS QQ 84 99182 n1 (by decide) (by decide) E_2
set_option maxRecDepth 100000 in
set_option maxHeartbeats 8000000 in
theorem law_48_1 {l : Launch} {D : va_G} {kp : Nat → ClassId} {G : jv_G} {xs : Nat → Int32} (C : jv_C D vwCl kp G cL_law RL wsL_law room_1 jx_N) (hnl : jv_nL G = 4) (SS : jv_S G 6 xs) (QQ : jv_end l D vwCl kp G) {E : Nat → jv_E} (hX : jx_F E) {a1 a2 a3 a4 a5 : Int32} (s1 : xs (1 : Int32).toNatClampNeg = 1) (s2 : xs (2 : Int32).toNatClampNeg = a2) (s3 : xs (3 : Int32).toNatClampNeg = a3) (s4 : xs (4 : Int32).toNatClampNeg = a4) (s5 : xs (5 : Int32).toNatClampNeg = a5) : jv_V l D vwCl kp G 84 99182 84 E 1862 [(3, .int 0), (2, .ref 58), (1, .ref 0), (0, .ref 1000000)] [] := by
  refine jv_aload_n C dL_law_1862 2 rfl ?_
  refine jv_aload_n C dL_law_1863 3 rfl ?_
  refine jv_iload_n C dL_law_1864 0 rfl ?_
  refine jv_iconst (v := 1) C dL_law_1865 (by decide) ?_
  refine jv_iadd C dL_law_1866 ?_
  refine jv_ti (y := 1) (by decide) ?_
  refine jv_sld C SS (jv_vi (by decide)) dL_law_1867 ?_
  refine jv_ti (y := 1) s1 ?_
  refine jv_callV (na := 1) (As := [.int 1]) (st := []) C (c_X8_back_1 l D kp (xf_0 hX) (xf_15 hX) (xf_16 hX)  ) gL_law_X8_back rfl (by decide) (xf_0 hX) rfl rfl rfl q_X8_back rfl ⟨by decide, by decide⟩ ⟨by decide, by decide⟩ (fun _ h => absurd h List.not_mem_nil) (Nat.le_of_ble_eq_true rfl) rfl dL_law_1868 (fun r n1 E_1 hp _ => ?_)
  obtain ⟨rfl, rfl, rfl⟩ := hp
  show jv_V l D vwCl kp G 84 99182 84 E 1871 [(3, .int 0), (2, .ref 58), (1, .ref 0), (0, .ref 1000000)] [.int (-6)]
  refine jv_aload_n C dL_law_1871 1 rfl ?_
  refine jv_aload_n C dL_law_1872 3 rfl ?_
  refine jv_iload_n C dL_law_1873 0 rfl ?_
  refine jv_iconst (v := 1) C dL_law_1874 (by decide) ?_
  refine jv_iadd C dL_law_1875 ?_
  refine jv_ti (y := 1) (by decide) ?_
  refine jv_sld C SS (jv_vi (by decide)) dL_law_1876 ?_
  refine jv_ti (y := 1) s1 ?_
  refine jv_callV (na := 1) (As := [.int 1]) (st := [.int (-6)]) C (c_X9_back_1 l D kp (xf_58 hX) (xf_74 hX)  ) gL_law_X9_back rfl (by decide) (xf_58 hX) rfl rfl rfl q_X9_back rfl ⟨by decide, by decide⟩ ⟨by decide, by decide⟩ (fun _ h => absurd h List.not_mem_nil) (Nat.le_of_ble_eq_true rfl) rfl dL_law_1877 (fun r n1 E_2 hp _ => ?_)
  cases hp
  show jv_V l D vwCl kp G 84 99182 n1 E_2 1880 [(3, .int 0), (2, .ref 58), (1, .ref 0), (0, .ref 1000000)] [.int (-6), .int (-6)]
  refine jv_icmp_eq (tgt := 2064) C dL_law_1880 (by decide) (fun _ => ?_) (fun h => absurd (by decide) h)
  exact law_tail C hnl SS QQ 84 99182 n1 (by decide) (by decide) E_2
set_option maxRecDepth 100000 in
set_option maxHeartbeats 8000000 in
theorem law_48_2 {l : Launch} {D : va_G} {kp : Nat → ClassId} {G : jv_G} {xs : Nat → Int32} (C : jv_C D vwCl kp G cL_law RL wsL_law room_1 jx_N) (hnl : jv_nL G = 4) (SS : jv_S G 6 xs) (QQ : jv_end l D vwCl kp G) {E : Nat → jv_E} (hX : jx_F E) {a1 a2 a3 a4 a5 : Int32} (s1 : xs (1 : Int32).toNatClampNeg = 2) (s2 : xs (2 : Int32).toNatClampNeg = a2) (s3 : xs (3 : Int32).toNatClampNeg = a3) (s4 : xs (4 : Int32).toNatClampNeg = a4) (s5 : xs (5 : Int32).toNatClampNeg = a5) : jv_V l D vwCl kp G 84 99182 84 E 1862 [(3, .int 0), (2, .ref 58), (1, .ref 0), (0, .ref 1000000)] [] := by
  refine jv_aload_n C dL_law_1862 2 rfl ?_
  refine jv_aload_n C dL_law_1863 3 rfl ?_
  refine jv_iload_n C dL_law_1864 0 rfl ?_
  refine jv_iconst (v := 1) C dL_law_1865 (by decide) ?_
  refine jv_iadd C dL_law_1866 ?_
  refine jv_ti (y := 1) (by decide) ?_
  refine jv_sld C SS (jv_vi (by decide)) dL_law_1867 ?_
  refine jv_ti (y := 2) s1 ?_
  refine jv_callV (na := 1) (As := [.int 2]) (st := []) C (c_X8_back_2 l D kp (xf_0 hX) (xf_15 hX) (xf_16 hX)  ) gL_law_X8_back rfl (by decide) (xf_0 hX) rfl rfl rfl q_X8_back rfl ⟨by decide, by decide⟩ ⟨by decide, by decide⟩ (fun _ h => absurd h List.not_mem_nil) (Nat.le_of_ble_eq_true rfl) rfl dL_law_1868 (fun r n1 E_1 hp _ => ?_)
  obtain ⟨rfl, rfl, rfl⟩ := hp
  show jv_V l D vwCl kp G 84 99182 84 E 1871 [(3, .int 0), (2, .ref 58), (1, .ref 0), (0, .ref 1000000)] [.int (-6)]
  refine jv_aload_n C dL_law_1871 1 rfl ?_
  refine jv_aload_n C dL_law_1872 3 rfl ?_
  refine jv_iload_n C dL_law_1873 0 rfl ?_
  refine jv_iconst (v := 1) C dL_law_1874 (by decide) ?_
  refine jv_iadd C dL_law_1875 ?_
  refine jv_ti (y := 1) (by decide) ?_
  refine jv_sld C SS (jv_vi (by decide)) dL_law_1876 ?_
  refine jv_ti (y := 2) s1 ?_
  refine jv_callV (na := 1) (As := [.int 2]) (st := [.int (-6)]) C (c_X9_back_2 l D kp (xf_58 hX) (xf_74 hX)  ) gL_law_X9_back rfl (by decide) (xf_58 hX) rfl rfl rfl q_X9_back rfl ⟨by decide, by decide⟩ ⟨by decide, by decide⟩ (fun _ h => absurd h List.not_mem_nil) (Nat.le_of_ble_eq_true rfl) rfl dL_law_1877 (fun r n1 E_2 hp _ => ?_)
  cases hp
  show jv_V l D vwCl kp G 84 99182 n1 E_2 1880 [(3, .int 0), (2, .ref 58), (1, .ref 0), (0, .ref 1000000)] [.int (-6), .int (-6)]
  refine jv_icmp_eq (tgt := 2064) C dL_law_1880 (by decide) (fun _ => ?_) (fun h => absurd (by decide) h)
  exact law_tail C hnl SS QQ 84 99182 n1 (by decide) (by decide) E_2
set_option maxRecDepth 100000 in
set_option maxHeartbeats 8000000 in
theorem law_48_neg {l : Launch} {D : va_G} {kp : Nat → ClassId} {G : jv_G} {xs : Nat → Int32} (C : jv_C D vwCl kp G cL_law RL wsL_law room_1 jx_N) (hnl : jv_nL G = 4) (SS : jv_S G 6 xs) (QQ : jv_end l D vwCl kp G) {E : Nat → jv_E} (hX : jx_F E) {a1 a2 a3 a4 a5 : Int32} (s1 : xs (1 : Int32).toNatClampNeg = a1) (s2 : xs (2 : Int32).toNatClampNeg = a2) (s3 : xs (3 : Int32).toNatClampNeg = a3) (s4 : xs (4 : Int32).toNatClampNeg = a4) (s5 : xs (5 : Int32).toNatClampNeg = a5) (ho : a1.toInt < 0) : jv_V l D vwCl kp G 84 99182 84 E 1862 [(3, .int 0), (2, .ref 58), (1, .ref 0), (0, .ref 1000000)] [] := by
  refine jv_aload_n C dL_law_1862 2 rfl ?_
  refine jv_aload_n C dL_law_1863 3 rfl ?_
  refine jv_iload_n C dL_law_1864 0 rfl ?_
  refine jv_iconst (v := 1) C dL_law_1865 (by decide) ?_
  refine jv_iadd C dL_law_1866 ?_
  refine jv_ti (y := 1) (by decide) ?_
  refine jv_sld C SS (jv_vi (by decide)) dL_law_1867 ?_
  refine jv_ti (y := a1) s1 ?_
  refine jv_callV (na := 1) (As := [.int a1]) (st := []) C (c_X8_back_neg l D kp (xf_0 hX) (xf_15 hX) a1 ho) gL_law_X8_back rfl (by decide) (xf_0 hX) rfl rfl rfl q_X8_back rfl ⟨by decide, by decide⟩ ⟨by decide, by decide⟩ (fun _ h => absurd h List.not_mem_nil) (Nat.le_of_ble_eq_true rfl) rfl dL_law_1868 (fun r n1 E_1 hp _ => ?_)
  obtain ⟨rfl, rfl, rfl⟩ := hp
  show jv_V l D vwCl kp G 84 99182 84 E 1871 [(3, .int 0), (2, .ref 58), (1, .ref 0), (0, .ref 1000000)] [.int (-2)]
  refine jv_aload_n C dL_law_1871 1 rfl ?_
  refine jv_aload_n C dL_law_1872 3 rfl ?_
  refine jv_iload_n C dL_law_1873 0 rfl ?_
  refine jv_iconst (v := 1) C dL_law_1874 (by decide) ?_
  refine jv_iadd C dL_law_1875 ?_
  refine jv_ti (y := 1) (by decide) ?_
  refine jv_sld C SS (jv_vi (by decide)) dL_law_1876 ?_
  refine jv_ti (y := a1) s1 ?_
  refine jv_callV (na := 1) (As := [.int a1]) (st := [.int (-2)]) C (c_X9_back_neg l D kp (xf_58 hX) a1 ho) gL_law_X9_back rfl (by decide) (xf_58 hX) rfl rfl rfl q_X9_back rfl ⟨by decide, by decide⟩ ⟨by decide, by decide⟩ (fun _ h => absurd h List.not_mem_nil) (Nat.le_of_ble_eq_true rfl) rfl dL_law_1877 (fun r n1 E_2 hp _ => ?_)
  cases hp
  show jv_V l D vwCl kp G 84 99182 n1 E_2 1880 [(3, .int 0), (2, .ref 58), (1, .ref 0), (0, .ref 1000000)] [.int (-2), .int (-2)]
  refine jv_icmp_eq (tgt := 2064) C dL_law_1880 (by decide) (fun _ => ?_) (fun h => absurd (by decide) h)
  exact law_tail C hnl SS QQ 84 99182 n1 (by decide) (by decide) E_2
set_option maxRecDepth 100000 in
set_option maxHeartbeats 8000000 in
theorem law_48_big {l : Launch} {D : va_G} {kp : Nat → ClassId} {G : jv_G} {xs : Nat → Int32} (C : jv_C D vwCl kp G cL_law RL wsL_law room_1 jx_N) (hnl : jv_nL G = 4) (SS : jv_S G 6 xs) (QQ : jv_end l D vwCl kp G) {E : Nat → jv_E} (hX : jx_F E) {a1 a2 a3 a4 a5 : Int32} (s1 : xs (1 : Int32).toNatClampNeg = a1) (s2 : xs (2 : Int32).toNatClampNeg = a2) (s3 : xs (3 : Int32).toNatClampNeg = a3) (s4 : xs (4 : Int32).toNatClampNeg = a4) (s5 : xs (5 : Int32).toNatClampNeg = a5) (ho : 2 < a1.toInt) : jv_V l D vwCl kp G 84 99182 84 E 1862 [(3, .int 0), (2, .ref 58), (1, .ref 0), (0, .ref 1000000)] [] := by
  refine jv_aload_n C dL_law_1862 2 rfl ?_
  refine jv_aload_n C dL_law_1863 3 rfl ?_
  refine jv_iload_n C dL_law_1864 0 rfl ?_
  refine jv_iconst (v := 1) C dL_law_1865 (by decide) ?_
  refine jv_iadd C dL_law_1866 ?_
  refine jv_ti (y := 1) (by decide) ?_
  refine jv_sld C SS (jv_vi (by decide)) dL_law_1867 ?_
  refine jv_ti (y := a1) s1 ?_
  refine jv_callV (na := 1) (As := [.int a1]) (st := []) C (c_X8_back_big l D kp (xf_0 hX) (xf_15 hX) a1 ho) gL_law_X8_back rfl (by decide) (xf_0 hX) rfl rfl rfl q_X8_back rfl ⟨by decide, by decide⟩ ⟨by decide, by decide⟩ (fun _ h => absurd h List.not_mem_nil) (Nat.le_of_ble_eq_true rfl) rfl dL_law_1868 (fun r n1 E_1 hp _ => ?_)
  obtain ⟨rfl, rfl, rfl⟩ := hp
  show jv_V l D vwCl kp G 84 99182 84 E 1871 [(3, .int 0), (2, .ref 58), (1, .ref 0), (0, .ref 1000000)] [.int (-2)]
  refine jv_aload_n C dL_law_1871 1 rfl ?_
  refine jv_aload_n C dL_law_1872 3 rfl ?_
  refine jv_iload_n C dL_law_1873 0 rfl ?_
  refine jv_iconst (v := 1) C dL_law_1874 (by decide) ?_
  refine jv_iadd C dL_law_1875 ?_
  refine jv_ti (y := 1) (by decide) ?_
  refine jv_sld C SS (jv_vi (by decide)) dL_law_1876 ?_
  refine jv_ti (y := a1) s1 ?_
  refine jv_callV (na := 1) (As := [.int a1]) (st := [.int (-2)]) C (c_X9_back_big l D kp (xf_58 hX) a1 ho) gL_law_X9_back rfl (by decide) (xf_58 hX) rfl rfl rfl q_X9_back rfl ⟨by decide, by decide⟩ ⟨by decide, by decide⟩ (fun _ h => absurd h List.not_mem_nil) (Nat.le_of_ble_eq_true rfl) rfl dL_law_1877 (fun r n1 E_2 hp _ => ?_)
  cases hp
  show jv_V l D vwCl kp G 84 99182 n1 E_2 1880 [(3, .int 0), (2, .ref 58), (1, .ref 0), (0, .ref 1000000)] [.int (-2), .int (-2)]
  refine jv_icmp_eq (tgt := 2064) C dL_law_1880 (by decide) (fun _ => ?_) (fun h => absurd (by decide) h)
  exact law_tail C hnl SS QQ 84 99182 n1 (by decide) (by decide) E_2
theorem q_X8_row : yX8_row.cls ≠ "java/lang/invoke/MethodHandle" ∧ yX8_row.cls ≠ "java/lang/invoke/VarHandle" ∧ (parseMethodDescriptor yX8_row.desc).map (fun d => d.parameters.length) = some 3 := by decide +kernel
theorem q_X9_row : yX9_row.cls ≠ "java/lang/invoke/MethodHandle" ∧ yX9_row.cls ≠ "java/lang/invoke/VarHandle" ∧ (parseMethodDescriptor yX9_row.desc).map (fun d => d.parameters.length) = some 3 := by decide +kernel
set_option maxRecDepth 100000 in
set_option maxHeartbeats 8000000 in
theorem law_49 {l : Launch} {D : va_G} {kp : Nat → ClassId} {G : jv_G} {xs : Nat → Int32} (C : jv_C D vwCl kp G cL_law RL wsL_law room_1 jx_N) (hnl : jv_nL G = 4) (SS : jv_S G 6 xs) (QQ : jv_end l D vwCl kp G) {E : Nat → jv_E} (hX : jx_F E) {a1 a2 a3 a4 a5 : Int32} (s1 : xs (1 : Int32).toNatClampNeg = a1) (s2 : xs (2 : Int32).toNatClampNeg = a2) (s3 : xs (3 : Int32).toNatClampNeg = a3) (s4 : xs (4 : Int32).toNatClampNeg = a4) (s5 : xs (5 : Int32).toNatClampNeg = a5) : jv_V l D vwCl kp G 84 99182 84 E 1885 [(3, .int 0), (2, .ref 58), (1, .ref 0), (0, .ref 1000000)] [] := by
  refine jv_aload_n C dL_law_1885 2 rfl ?_
  refine jv_aload_n C dL_law_1886 3 rfl ?_
  refine jv_iload_n C dL_law_1887 0 rfl ?_
  refine jv_iconst (v := 1) C dL_law_1888 (by decide) ?_
  refine jv_iadd C dL_law_1889 ?_
  refine jv_ti (y := 1) (by decide) ?_
  refine jv_sld C SS (jv_vi (by decide)) dL_law_1890 ?_
  refine jv_ti (y := a1) s1 ?_
  refine jv_aload_n C dL_law_1891 3 rfl ?_
  refine jv_iload_n C dL_law_1892 0 rfl ?_
  refine jv_iconst (v := 2) C dL_law_1893 (by decide) ?_
  refine jv_iadd C dL_law_1894 ?_
  refine jv_ti (y := 2) (by decide) ?_
  refine jv_sld C SS (jv_vi (by decide)) dL_law_1895 ?_
  refine jv_ti (y := a2) s2 ?_
  refine jv_aload_n C dL_law_1896 3 rfl ?_
  refine jv_iload_n C dL_law_1897 0 rfl ?_
  refine jv_iconst (v := 3) C dL_law_1898 (by decide) ?_
  refine jv_iadd C dL_law_1899 ?_
  refine jv_ti (y := 3) (by decide) ?_
  refine jv_sld C SS (jv_vi (by decide)) dL_law_1900 ?_
  refine jv_ti (y := a3) s3 ?_
  refine jv_callV (na := 3) (As := [.int a1, .int a2, .int a3]) (st := []) C (c_X8_row l D kp (xf_0 hX) (xf_33 hX) (xf_34 hX) (xf_35 hX) (xf_36 hX) a1 a2 a3 ) gL_law_X8_row rfl (by decide) (xf_0 hX) rfl rfl rfl q_X8_row rfl ⟨by decide, by decide⟩ ⟨by decide, by decide⟩ (fun _ h => absurd h List.not_mem_nil) (Nat.le_of_ble_eq_true rfl) rfl dL_law_1901 (fun r n1 E_1 hp _ => ?_)
  obtain ⟨rfl, hf2⟩ := hp
  show jv_V l D vwCl kp G 84 99182 n1 E_1 1904 [(3, .int 0), (2, .ref 58), (1, .ref 0), (0, .ref 1000000)] [.int (jr_row a1 a2 a3)]
  refine jv_aload_n C dL_law_1904 1 rfl ?_
  refine jv_aload_n C dL_law_1905 3 rfl ?_
  refine jv_iload_n C dL_law_1906 0 rfl ?_
  refine jv_iconst (v := 1) C dL_law_1907 (by decide) ?_
  refine jv_iadd C dL_law_1908 ?_
  refine jv_ti (y := 1) (by decide) ?_
  refine jv_sld C SS (jv_vi (by decide)) dL_law_1909 ?_
  refine jv_ti (y := a1) s1 ?_
  refine jv_aload_n C dL_law_1910 3 rfl ?_
  refine jv_iload_n C dL_law_1911 0 rfl ?_
  refine jv_iconst (v := 2) C dL_law_1912 (by decide) ?_
  refine jv_iadd C dL_law_1913 ?_
  refine jv_ti (y := 2) (by decide) ?_
  refine jv_sld C SS (jv_vi (by decide)) dL_law_1914 ?_
  refine jv_ti (y := a2) s2 ?_
  refine jv_aload_n C dL_law_1915 3 rfl ?_
  refine jv_iload_n C dL_law_1916 0 rfl ?_
  refine jv_iconst (v := 3) C dL_law_1917 (by decide) ?_
  refine jv_iadd C dL_law_1918 ?_
  refine jv_ti (y := 3) (by decide) ?_
  refine jv_sld C SS (jv_vi (by decide)) dL_law_1919 ?_
  refine jv_ti (y := a3) s3 ?_
  refine jv_callV (na := 3) (As := [.int a1, .int a2, .int a3]) (st := [.int (jr_row a1 a2 a3)]) C (c_X9_row l D kp ((hf2 58 (by decide)).trans (xf_58 hX)) ((hf2 59 (by decide)).trans (xf_59 hX)) ((hf2 60 (by decide)).trans (xf_60 hX)) ((hf2 61 (by decide)).trans (xf_61 hX)) a1 a2 a3 ) gL_law_X9_row rfl (by decide) ((hf2 58 (by decide)).trans (xf_58 hX)) rfl rfl rfl q_X9_row rfl ⟨by decide, by decide⟩ ⟨by decide, by decide⟩ (fun _ h => absurd h List.not_mem_nil) (Nat.le_of_ble_eq_true rfl) rfl dL_law_1920 (fun r n1 E_3 hp _ => ?_)
  cases hp
  show jv_V l D vwCl kp G 84 99182 n1 E_3 1923 [(3, .int 0), (2, .ref 58), (1, .ref 0), (0, .ref 1000000)] [.int (jr_row a1 a2 a3), .int (jr_row a1 a2 a3)]
  refine jv_icmp_eq (tgt := 2064) C dL_law_1923 (by decide) (fun _ => ?_) (fun h => absurd rfl h)
  exact law_tail C hnl SS QQ 84 99182 n1 (by decide) (by decide) E_3
theorem q_X8_write : yX8_write.cls ≠ "java/lang/invoke/MethodHandle" ∧ yX8_write.cls ≠ "java/lang/invoke/VarHandle" ∧ (parseMethodDescriptor yX8_write.desc).map (fun d => d.parameters.length) = some 3 := by decide +kernel
theorem q_X9_write : yX9_write.cls ≠ "java/lang/invoke/MethodHandle" ∧ yX9_write.cls ≠ "java/lang/invoke/VarHandle" ∧ (parseMethodDescriptor yX9_write.desc).map (fun d => d.parameters.length) = some 3 := by decide +kernel
set_option maxRecDepth 100000 in
set_option maxHeartbeats 8000000 in
theorem law_50 {l : Launch} {D : va_G} {kp : Nat → ClassId} {G : jv_G} {xs : Nat → Int32} (C : jv_C D vwCl kp G cL_law RL wsL_law room_1 jx_N) (hnl : jv_nL G = 4) (SS : jv_S G 6 xs) (QQ : jv_end l D vwCl kp G) {E : Nat → jv_E} (hX : jx_F E) {a1 a2 a3 a4 a5 : Int32} (s1 : xs (1 : Int32).toNatClampNeg = a1) (s2 : xs (2 : Int32).toNatClampNeg = a2) (s3 : xs (3 : Int32).toNatClampNeg = a3) (s4 : xs (4 : Int32).toNatClampNeg = a4) (s5 : xs (5 : Int32).toNatClampNeg = a5) : jv_V l D vwCl kp G 84 99182 84 E 1928 [(3, .int 0), (2, .ref 58), (1, .ref 0), (0, .ref 1000000)] [] := by
  refine jv_aload_n C dL_law_1928 2 rfl ?_
  refine jv_aload_n C dL_law_1929 3 rfl ?_
  refine jv_iload_n C dL_law_1930 0 rfl ?_
  refine jv_iconst (v := 1) C dL_law_1931 (by decide) ?_
  refine jv_iadd C dL_law_1932 ?_
  refine jv_ti (y := 1) (by decide) ?_
  refine jv_sld C SS (jv_vi (by decide)) dL_law_1933 ?_
  refine jv_ti (y := a1) s1 ?_
  refine jv_aload_n C dL_law_1934 3 rfl ?_
  refine jv_iload_n C dL_law_1935 0 rfl ?_
  refine jv_iconst (v := 2) C dL_law_1936 (by decide) ?_
  refine jv_iadd C dL_law_1937 ?_
  refine jv_ti (y := 2) (by decide) ?_
  refine jv_sld C SS (jv_vi (by decide)) dL_law_1938 ?_
  refine jv_ti (y := a2) s2 ?_
  refine jv_aload_n C dL_law_1939 3 rfl ?_
  refine jv_iload_n C dL_law_1940 0 rfl ?_
  refine jv_iconst (v := 3) C dL_law_1941 (by decide) ?_
  refine jv_iadd C dL_law_1942 ?_
  refine jv_ti (y := 3) (by decide) ?_
  refine jv_sld C SS (jv_vi (by decide)) dL_law_1943 ?_
  refine jv_ti (y := a3) s3 ?_
  refine jv_i2l C dL_law_1944 ?_
  refine jv_bipush (v := 32) C dL_law_1945 (by decide) ?_
  refine jv_lshl C dL_law_1947 ?_
  refine jv_aload_n C dL_law_1948 3 rfl ?_
  refine jv_iload_n C dL_law_1949 0 rfl ?_
  refine jv_iconst (v := 4) C dL_law_1950 (by decide) ?_
  refine jv_iadd C dL_law_1951 ?_
  refine jv_ti (y := 4) (by decide) ?_
  refine jv_sld C SS (jv_vi (by decide)) dL_law_1952 ?_
  refine jv_ti (y := a4) s4 ?_
  refine jv_i2l C dL_law_1953 ?_
  refine jv_ldc2 (v := 4294967295) C dL_law_1954 (by decide +kernel) ?_
  refine jv_land C dL_law_1957 ?_
  refine jv_lor C dL_law_1958 ?_
  refine jv_callV (na := 3) (As := [.int a1, .int a2, .long ((a3.toInt64 <<< ((32 : Int32).toInt64 &&& 63)) ||| (a4.toInt64 &&& 4294967295))]) (st := []) C (c_X8_write l D kp (xf_0 hX) (xf_33 hX) (xf_35 hX) a1 a2 ((a3.toInt64 <<< ((32 : Int32).toInt64 &&& 63)) ||| (a4.toInt64 &&& 4294967295)) ) gL_law_X8_write rfl (by decide) (xf_0 hX) rfl rfl rfl q_X8_write rfl ⟨by decide, by decide⟩ ⟨by decide, by decide⟩ (fun _ h => absurd h List.not_mem_nil) (Nat.le_of_ble_eq_true rfl) rfl dL_law_1959 (fun r n1 E_1 hp _ => ?_)
  obtain ⟨rfl, rfl, rfl⟩ := hp
  show jv_V l D vwCl kp G 84 99182 84 E 1962 [(3, .int 0), (2, .ref 58), (1, .ref 0), (0, .ref 1000000)] [.int (jr_slot a1)]
  refine jv_aload_n C dL_law_1962 1 rfl ?_
  refine jv_aload_n C dL_law_1963 3 rfl ?_
  refine jv_iload_n C dL_law_1964 0 rfl ?_
  refine jv_iconst (v := 1) C dL_law_1965 (by decide) ?_
  refine jv_iadd C dL_law_1966 ?_
  refine jv_ti (y := 1) (by decide) ?_
  refine jv_sld C SS (jv_vi (by decide)) dL_law_1967 ?_
  refine jv_ti (y := a1) s1 ?_
  refine jv_aload_n C dL_law_1968 3 rfl ?_
  refine jv_iload_n C dL_law_1969 0 rfl ?_
  refine jv_iconst (v := 2) C dL_law_1970 (by decide) ?_
  refine jv_iadd C dL_law_1971 ?_
  refine jv_ti (y := 2) (by decide) ?_
  refine jv_sld C SS (jv_vi (by decide)) dL_law_1972 ?_
  refine jv_ti (y := a2) s2 ?_
  refine jv_aload_n C dL_law_1973 3 rfl ?_
  refine jv_iload_n C dL_law_1974 0 rfl ?_
  refine jv_iconst (v := 3) C dL_law_1975 (by decide) ?_
  refine jv_iadd C dL_law_1976 ?_
  refine jv_ti (y := 3) (by decide) ?_
  refine jv_sld C SS (jv_vi (by decide)) dL_law_1977 ?_
  refine jv_ti (y := a3) s3 ?_
  refine jv_i2l C dL_law_1978 ?_
  refine jv_bipush (v := 32) C dL_law_1979 (by decide) ?_
  refine jv_lshl C dL_law_1981 ?_
  refine jv_aload_n C dL_law_1982 3 rfl ?_
  refine jv_iload_n C dL_law_1983 0 rfl ?_
  refine jv_iconst (v := 4) C dL_law_1984 (by decide) ?_
  refine jv_iadd C dL_law_1985 ?_
  refine jv_ti (y := 4) (by decide) ?_
  refine jv_sld C SS (jv_vi (by decide)) dL_law_1986 ?_
  refine jv_ti (y := a4) s4 ?_
  refine jv_i2l C dL_law_1987 ?_
  refine jv_ldc2 (v := 4294967295) C dL_law_1988 (by decide +kernel) ?_
  refine jv_land C dL_law_1991 ?_
  refine jv_lor C dL_law_1992 ?_
  refine jv_callV (na := 3) (As := [.int a1, .int a2, .long ((a3.toInt64 <<< ((32 : Int32).toInt64 &&& 63)) ||| (a4.toInt64 &&& 4294967295))]) (st := [.int (jr_slot a1)]) C (c_X9_write l D kp (xf_58 hX) (xf_59 hX) a1 a2 ((a3.toInt64 <<< ((32 : Int32).toInt64 &&& 63)) ||| (a4.toInt64 &&& 4294967295)) ) gL_law_X9_write rfl (by decide) (xf_58 hX) rfl rfl rfl q_X9_write rfl ⟨by decide, by decide⟩ ⟨by decide, by decide⟩ (fun _ h => absurd h List.not_mem_nil) (Nat.le_of_ble_eq_true rfl) rfl dL_law_1993 (fun r n1 E_2 hp _ => ?_)
  cases hp
  show jv_V l D vwCl kp G 84 99182 n1 E_2 1996 [(3, .int 0), (2, .ref 58), (1, .ref 0), (0, .ref 1000000)] [.int (jr_slot a1), .int (jr_slot a1)]
  refine jv_icmp_eq (tgt := 2064) C dL_law_1996 (by decide) (fun _ => ?_) (fun h => absurd rfl h)
  exact law_tail C hnl SS QQ 84 99182 n1 (by decide) (by decide) E_2
theorem q_X8_paste : yX8_paste.cls ≠ "java/lang/invoke/MethodHandle" ∧ yX8_paste.cls ≠ "java/lang/invoke/VarHandle" ∧ (parseMethodDescriptor yX8_paste.desc).map (fun d => d.parameters.length) = some 5 := by decide +kernel
theorem q_X9_paste : yX9_paste.cls ≠ "java/lang/invoke/MethodHandle" ∧ yX9_paste.cls ≠ "java/lang/invoke/VarHandle" ∧ (parseMethodDescriptor yX9_paste.desc).map (fun d => d.parameters.length) = some 5 := by decide +kernel
set_option maxRecDepth 100000 in
set_option maxHeartbeats 8000000 in
theorem law_51 {l : Launch} {D : va_G} {kp : Nat → ClassId} {G : jv_G} {xs : Nat → Int32} (C : jv_C D vwCl kp G cL_law RL wsL_law room_1 jx_N) (hnl : jv_nL G = 4) (SS : jv_S G 6 xs) (QQ : jv_end l D vwCl kp G) {E : Nat → jv_E} (hX : jx_F E) {a1 a2 a3 a4 a5 : Int32} (s1 : xs (1 : Int32).toNatClampNeg = a1) (s2 : xs (2 : Int32).toNatClampNeg = a2) (s3 : xs (3 : Int32).toNatClampNeg = a3) (s4 : xs (4 : Int32).toNatClampNeg = a4) (s5 : xs (5 : Int32).toNatClampNeg = a5) : jv_V l D vwCl kp G 84 99182 84 E 2001 [(3, .int 0), (2, .ref 58), (1, .ref 0), (0, .ref 1000000)] [] := by
  refine jv_aload_n C dL_law_2001 2 rfl ?_
  refine jv_aload_n C dL_law_2002 3 rfl ?_
  refine jv_iload_n C dL_law_2003 0 rfl ?_
  refine jv_iconst (v := 1) C dL_law_2004 (by decide) ?_
  refine jv_iadd C dL_law_2005 ?_
  refine jv_ti (y := 1) (by decide) ?_
  refine jv_sld C SS (jv_vi (by decide)) dL_law_2006 ?_
  refine jv_ti (y := a1) s1 ?_
  refine jv_aload_n C dL_law_2007 3 rfl ?_
  refine jv_iload_n C dL_law_2008 0 rfl ?_
  refine jv_iconst (v := 2) C dL_law_2009 (by decide) ?_
  refine jv_iadd C dL_law_2010 ?_
  refine jv_ti (y := 2) (by decide) ?_
  refine jv_sld C SS (jv_vi (by decide)) dL_law_2011 ?_
  refine jv_ti (y := a2) s2 ?_
  refine jv_aload_n C dL_law_2012 3 rfl ?_
  refine jv_iload_n C dL_law_2013 0 rfl ?_
  refine jv_iconst (v := 3) C dL_law_2014 (by decide) ?_
  refine jv_iadd C dL_law_2015 ?_
  refine jv_ti (y := 3) (by decide) ?_
  refine jv_sld C SS (jv_vi (by decide)) dL_law_2016 ?_
  refine jv_ti (y := a3) s3 ?_
  refine jv_aload_n C dL_law_2017 3 rfl ?_
  refine jv_iload_n C dL_law_2018 0 rfl ?_
  refine jv_iconst (v := 4) C dL_law_2019 (by decide) ?_
  refine jv_iadd C dL_law_2020 ?_
  refine jv_ti (y := 4) (by decide) ?_
  refine jv_sld C SS (jv_vi (by decide)) dL_law_2021 ?_
  refine jv_ti (y := a4) s4 ?_
  refine jv_aload_n C dL_law_2022 3 rfl ?_
  refine jv_iload_n C dL_law_2023 0 rfl ?_
  refine jv_iconst (v := 5) C dL_law_2024 (by decide) ?_
  refine jv_iadd C dL_law_2025 ?_
  refine jv_ti (y := 5) (by decide) ?_
  refine jv_sld C SS (jv_vi (by decide)) dL_law_2026 ?_
  refine jv_ti (y := a5) s5 ?_
  refine jv_callV (na := 5) (As := [.int a1, .int a2, .int a3, .int a4, .int a5]) (st := []) C (c_X8_paste l D kp (xf_0 hX) (xf_33 hX) (xf_35 hX) a1 a2 a3 a4 a5 ) gL_law_X8_paste rfl (by decide) (xf_0 hX) rfl rfl rfl q_X8_paste rfl ⟨by decide, by decide⟩ ⟨by decide, by decide⟩ (fun _ h => absurd h List.not_mem_nil) (Nat.le_of_ble_eq_true rfl) rfl dL_law_2027 (fun r n1 E_1 hp _ => ?_)
  obtain ⟨rfl, rfl, rfl⟩ := hp
  show jv_V l D vwCl kp G 84 99182 84 E 2030 [(3, .int 0), (2, .ref 58), (1, .ref 0), (0, .ref 1000000)] [.int (jr_paste a1 a3)]
  refine jv_aload_n C dL_law_2030 1 rfl ?_
  refine jv_aload_n C dL_law_2031 3 rfl ?_
  refine jv_iload_n C dL_law_2032 0 rfl ?_
  refine jv_iconst (v := 1) C dL_law_2033 (by decide) ?_
  refine jv_iadd C dL_law_2034 ?_
  refine jv_ti (y := 1) (by decide) ?_
  refine jv_sld C SS (jv_vi (by decide)) dL_law_2035 ?_
  refine jv_ti (y := a1) s1 ?_
  refine jv_aload_n C dL_law_2036 3 rfl ?_
  refine jv_iload_n C dL_law_2037 0 rfl ?_
  refine jv_iconst (v := 2) C dL_law_2038 (by decide) ?_
  refine jv_iadd C dL_law_2039 ?_
  refine jv_ti (y := 2) (by decide) ?_
  refine jv_sld C SS (jv_vi (by decide)) dL_law_2040 ?_
  refine jv_ti (y := a2) s2 ?_
  refine jv_aload_n C dL_law_2041 3 rfl ?_
  refine jv_iload_n C dL_law_2042 0 rfl ?_
  refine jv_iconst (v := 3) C dL_law_2043 (by decide) ?_
  refine jv_iadd C dL_law_2044 ?_
  refine jv_ti (y := 3) (by decide) ?_
  refine jv_sld C SS (jv_vi (by decide)) dL_law_2045 ?_
  refine jv_ti (y := a3) s3 ?_
  refine jv_aload_n C dL_law_2046 3 rfl ?_
  refine jv_iload_n C dL_law_2047 0 rfl ?_
  refine jv_iconst (v := 4) C dL_law_2048 (by decide) ?_
  refine jv_iadd C dL_law_2049 ?_
  refine jv_ti (y := 4) (by decide) ?_
  refine jv_sld C SS (jv_vi (by decide)) dL_law_2050 ?_
  refine jv_ti (y := a4) s4 ?_
  refine jv_aload_n C dL_law_2051 3 rfl ?_
  refine jv_iload_n C dL_law_2052 0 rfl ?_
  refine jv_iconst (v := 5) C dL_law_2053 (by decide) ?_
  refine jv_iadd C dL_law_2054 ?_
  refine jv_ti (y := 5) (by decide) ?_
  refine jv_sld C SS (jv_vi (by decide)) dL_law_2055 ?_
  refine jv_ti (y := a5) s5 ?_
  refine jv_callV (na := 5) (As := [.int a1, .int a2, .int a3, .int a4, .int a5]) (st := [.int (jr_paste a1 a3)]) C (c_X9_paste l D kp (xf_58 hX) (xf_59 hX) a1 a2 a3 a4 a5 ) gL_law_X9_paste rfl (by decide) (xf_58 hX) rfl rfl rfl q_X9_paste rfl ⟨by decide, by decide⟩ ⟨by decide, by decide⟩ (fun _ h => absurd h List.not_mem_nil) (Nat.le_of_ble_eq_true rfl) rfl dL_law_2056 (fun r n1 E_2 hp _ => ?_)
  cases hp
  show jv_V l D vwCl kp G 84 99182 n1 E_2 2059 [(3, .int 0), (2, .ref 58), (1, .ref 0), (0, .ref 1000000)] [.int (jr_paste a1 a3), .int (jr_paste a1 a3)]
  refine jv_icmp_eq (tgt := 2064) C dL_law_2059 (by decide) (fun _ => ?_) (fun h => absurd rfl h)
  exact law_tail C hnl SS QQ 84 99182 n1 (by decide) (by decide) E_2
