/-! THE CHECKER 13b: rows copied -/
theorem ck_good {w : Cond} (h : w ∈ ck_AW) : (w.onTables && w.keeps) = true ∨ ∃ ty, w = .arrayClass ty := good_of_word (List.mem_filter.mp h).2
theorem ck_wsin {i : Nat} {w : Cond} (h : w ∈ ck_AW) : w ∈ ck_ws i := List.mem_cons_of_mem _ h
theorem ck_goodw {i : Nat} {w : Cond} (h : w ∈ ck_AW) : w ∈ ck_ws i ∧ ((w.onTables && w.keeps) = true ∨ ∃ ty, w = .arrayClass ty) := ⟨ck_wsin h, ck_good h⟩
theorem ck_goodws {i j : Nat} (hm : Cond.code (ck_my j) (ck_mc j) (ck_ml j) (ck_mr j) ∈ ck_AW) : GoodIn (ck_ws i) (ck_ws j) := fun w hw => by
  rcases List.mem_cons.mp hw with rfl | hw
  · exact ck_goodw hm
  · exact ck_goodw hw
theorem jv_copyL {l : Launch} {D : va_G} {cl : List vw_C} {kp : Nat → ClassId} {G : jv_G} {cc : ByteArray} {own : String} {Ts : List Cond} {rm : Room} {N : jv_N} {cs ss n : Nat} {E : Nat → jv_E} {pc : Nat} {lv : List (Nat × Value)} {st : List Value} (C : jv_C D cl kp G cc own Ts rm N) {k0 k1 z0 z1 index : Nat} {g0 g1 : Nat → Int64} {sp dp cn : Int32} (hk0 : k0 < 1000000) (hk1 : k1 < 1000000) (he0 : E k0 = .inl (3, z0, .inr (.inl g0))) (he1 : E k1 = .inl (3, z1, .inr (.inl g1))) (hw1 : Cond.methodLink own index arraycopyName ∈ Ts) (hw2 : Cond.native arraycopyName ∈ Ts) (hw3 : Cond.static arraycopyName ∈ Ts) (hw4 : Cond.initialized "java/lang/System" ∈ Ts) (h1 : ¬ sp < 0) (h2 : ¬ dp < 0) (h3 : ¬ cn < 0) (h4 : sp.toNatClampNeg + cn.toNatClampNeg ≤ z0) (h5 : dp.toNatClampNeg + cn.toNatClampNeg ≤ z1) (hfr : 1 ≤ rm.frames) (hlo : (st.map fun v => v.category).sum + (nativeFrameWords "java/lang/System" "arraycopy" 5 + 11) ≤ rm.locals) (hd : decode cc pc = .ok (.invokestatic index, 3)) (kk : jv_V l D cl kp G cs ss n (va_up E k1 (.inl (3, z1, .inr (.inl (va_cpy g0 g1 sp.toNatClampNeg dp.toNatClampNeg cn.toNatClampNeg))))) (pc + 3) lv st) : jv_V l D cl kp G cs ss n E pc lv (.int cn :: .int dp :: .ref k1 :: .int sp :: .ref k0 :: st) := by
  obtain ⟨p, e, R, s, m, args, below, meth, c, A, nL, n0, f0, Q⟩ := G
  intro f H locs ls hP hD hS hE hL hs hn hf hl
  obtain ⟨hx, hb, hml, hown, hts, hK, hA, hlk, hRm, hNw⟩ := C
  subst hRm
  have hs1 := jv_sd (jv_sd hs)
  have hs3 := jv_sd (jv_sd hs1)
  have hkn0 : k0 < n := jv_lt (jv_sh hs3) hk0
  have hkn1 : k1 < n := jv_lt (jv_sh hs1) hk1
  have hg0 : (jv_W n f kp E)[k0]? = some (f k0, .inl (kp 3, z0, .inr (.inl g0))) := by rw [jv_get hkn0, he0]; rfl
  have hg1 : (jv_W n f kp E)[k1]? = some (f k1, .inl (kp 3, z1, .inr (.inl g1))) := by rw [jv_get hkn1, he1]; rfl
  refine va_copyl (ty := .long) hx hb (hml.trans hl.1.symm) hown (hts _ hw1) (hts _ hw2) (hts _ hw3) (hts _ hw4) hK hP hD hS k0 k1 3 3 hg0 hg1 rfl rfl rfl h1 h2 h3 h4 h5 (fun _ _ => rfl) hfr (by rw [List.map_map, show ((fun v : Value => v.category) ∘ jv_v f) = (fun v : Value => v.category) from funext (jv_v_cat f)]; exact hlo) hd (fun H1 locs1 hP1 hD1 hS1 => ?_)
  have hset := jv_set (f := f) (kp := kp) (E := E) hkn1 (.inl (3, z1, .inr (.inl (va_cpy g0 g1 sp.toNatClampNeg dp.toNatClampNeg cn.toNatClampNeg))))
  have hset2 : (jv_W n f kp E).set k1 (f k1, .inl (kp 3, z1, .inr (.inl (va_cpy g0 g1 sp.toNatClampNeg dp.toNatClampNeg cn.toNatClampNeg)))) = _ := hset
  rw [hset2] at hP1 hD1
  exact kk f H1 locs1 ls hP1 hD1 hS1 (jv_okset hE (fun g h => by cases h)) hL (jv_sd hs3) hn hf hl
theorem ck_bd1 {B : List (Int × Int)} (h : B.length = 1) (i j : Nat) : ck_bd B i = ck_bd B j := by
  unfold ck_bd
  rw [h, Nat.mod_one, Nat.mod_one]
theorem ck_cpy_ok {l : Launch} {D : va_G} {kp : Nat → ClassId} {G : jv_G} {cs ss : Nat} {rm : Room} {cc : ByteArray} {m0 : Nat} {σ0 : Nat → Int} {E0 : Nat → jv_E} {mods : List Nat} {σ : Nat → Int} {S : ck_S} {E : Nat → jv_E} {lv : List (Nat × Value)} {st : List Value} {its r : List ck_I} {su : List (Nat × ck_S)} {pc fr lo o i x9 index : Nat} (C : jv_C D vwCl kp G cc (ck_nm o) (ck_ws i) rm ck_NN) (hrm : rm.frames = fr ∧ rm.locals = lo) (hr : ck_rok (o, index, 3, x9)) (hd : decode cc pc = .ok (.invokestatic index, 3)) (h : ck_cpy fr lo mods pc S its = some (su, r)) (kk : ∀ q ∈ su, ck_Pr l D kp G cs ss m0 σ0 E0 mods q.1 q.2) (H : ck_H m0 σ0 E0 mods σ S E lv st) : jv_V l D vwCl kp G cs ss 84 E pc lv st := by
  obtain ⟨w1, w2, w3, w4⟩ := hr
  have hs := ck_hS H
  unfold ck_cpy at h
  split at h
  · rename_i n dp k1 sp k0 K it r0 hK
    rw [hK] at hs
    have hs0 := hs
    clear hs
    obtain ⟨v1, s1, rfl, ⟨wn, xn, rfl, hn⟩, hs⟩ := ck_rs_cons hs0
    clear hs0
    have hs0 := hs
    clear hs
    obtain ⟨v2, s2, rfl, ⟨wd, xd, rfl, hdp⟩, hs⟩ := ck_rs_cons hs0
    clear hs0
    have hs0 := hs
    clear hs
    obtain ⟨v3, s3, rfl, hv3, hs⟩ := ck_rs_cons hs0
    clear hs0
    have hs0 := hs
    clear hs
    obtain ⟨v4, s4, rfl, ⟨wsp, xs, rfl, hsp⟩, hs⟩ := ck_rs_cons hs0
    clear hs0
    have hs0 := hs
    clear hs
    obtain ⟨v5, s5, rfl, hv5, hs⟩ := ck_rs_cons hs0
    clear hs0
    have hv3 : v3 = .ref k1 := hv3
    have hv5 : v5 = .ref k0 := hv5
    subst hv3
    subst hv5
    split at h
    · rename_i a b ha hb
      obtain ⟨ta, za, Ba⟩ := a
      obtain ⟨tb, zb, Bb⟩ := b
      split at h
      · rename_i hc
        obtain ⟨⟨h1, h2, hm, hdp9, hfr, hlo⟩, ht, hB, hcc⟩ := hc
        simp only [Bool.and_eq_true_iff] at hcc
        obtain ⟨⟨⟨⟨c0, c1⟩, c2⟩, c3⟩, c4⟩ := hcc
        have e0 := ck_ent_ok (ck_hF H) c0
        have e1 := ck_ent_ok (ck_hF H) c1
        have e2 := ck_ent_ok (ck_hF H) c2
        have e3 := ck_ent_ok (ck_hF H) c3
        have e4 := ck_ent_ok (ck_hF H) c4
        rw [ck_sub_ev, ck_c_ev, ck_add_ev] at e3 e4
        have e3 : 0 ≤ (za : Int) - (ck_ev σ sp + ck_ev σ n) := e3
        have e4 : 0 ≤ (zb : Int) - (ck_ev σ dp + ck_ev σ n) := e4
        have h1 : ta = tb := h1
        have h2 : Ba = Bb := h2
        subst h1
        subst h2
        cases h
        have cN : xn.toNatClampNeg = (ck_ev σ n).toNat := by rw [cn_clamp, hn]
        have cS : xs.toNatClampNeg = (ck_ev σ sp).toNat := by rw [cn_clamp, hsp]
        have cD : xd.toNatClampNeg = (ck_ev σ dp).toNat := by rw [cn_clamp, hdp]
        have hfr : 1 ≤ rm.frames := by rw [hrm.1]; exact hfr
        have n1 : ¬ xs < 0 := jv_r_nlt (by show (0 : Int) ≤ xs.toInt; omega)
        have n2 : ¬ xd < 0 := jv_r_nlt (by show (0 : Int) ≤ xd.toInt; omega)
        have n3 : ¬ xn < 0 := jv_r_nlt (by show (0 : Int) ≤ xn.toInt; omega)
        have hlo2 : (s5.map fun v => v.category).sum + (nativeFrameWords "java/lang/System" "arraycopy" 5 + 11) ≤ rm.locals := by rw [ck_rs_sum hs, hrm.2]; exact hlo
        have hbd : ∀ j : Nat, (ck_ev σ dp).toNat ≤ j → ck_bd Ba j = ck_bd Ba ((ck_ev σ sp).toNat + (j - (ck_ev σ dp).toNat)) := fun j hj => by
          rcases hB with hB | hB
          · exact ck_bd1 hB _ _
          · rw [hB]; congr 1; omega
        have fin : ∀ e' : jv_E, ck_okc (.inr (.inl (ta, zb, Ba))) e' → jv_V l D vwCl kp G cs ss 84 (va_up E k1 e') (pc + 3) lv s5 := fun e' hok =>
          kk _ List.mem_cons_self _ _ _ _ ⟨H.1, H.2.1, ⟨ck_gi_up H.2.2.1.1 hb hok, H.2.2.1.2.1, H.2.2.1.2.2.1, hs, ck_gp_no H.2.2.1.2.2.2.2.1, ck_gf_up hdp9 H.2.2.1.2.2.2.2.2⟩, fun j hj => by
            have hjk : ¬ j = k1 := fun q => hj (by rw [q]; exact hm)
            rw [va_up_ne _ _ hjk]; exact H.2.2.2 j hj⟩
        rcases ht with ht | ht
        · have ht : ta = 0 := ht
          subst ht
          obtain ⟨g0, he0, hb0⟩ := ((ck_okI (by decide)).mp (H.2.2.1.1 k0 _ ha))
          obtain ⟨g1, he1, hb1⟩ := ((ck_okI (by decide)).mp (H.2.2.1.1 k1 _ hb))
          refine jv_copyI C (ck_k6 ha) (ck_k6 hb) he0 he1 (ck_wsin w1) (ck_wsin w2) (ck_wsin w3) (ck_wsin w4) n1 n2 n3 (by omega) (by omega) hfr hlo2 hd (fin _ ?_)
          refine (ck_okI (by decide)).mpr ⟨_, rfl, fun j hj => ?_⟩
          unfold va_cpy
          split
          · rename_i hj2
            rw [hbd j (by omega), cS, cD]
            exact hb0 _ (by omega)
          · exact hb1 j hj
        · have ht : ta = 3 := ht
          subst ht
          obtain ⟨g0, he0, hb0⟩ := (ck_okJ.mp (H.2.2.1.1 k0 _ ha))
          obtain ⟨g1, he1, hb1⟩ := (ck_okJ.mp (H.2.2.1.1 k1 _ hb))
          refine jv_copyL C (ck_k6 ha) (ck_k6 hb) he0 he1 (ck_wsin w1) (ck_wsin w2) (ck_wsin w3) (ck_wsin w4) n1 n2 n3 (by omega) (by omega) hfr hlo2 hd (fin _ ?_)
          refine ck_okJ.mpr ⟨_, rfl, fun j hj => ?_⟩
          unfold va_cpy
          split
          · rename_i hj2
            rw [hbd j (by omega), cS, cD]
            exact hb0 _ (by omega)
          · exact hb1 j hj
      · cases h
    · cases h
  · cases h
