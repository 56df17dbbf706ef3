/-! THE CHECKER 15: the law's loop -/
def jv_S (G : jv_G) (L : Nat) (xs : Nat → Int32) : Prop := match G with
  | (_, _, _, s, _, _, _, _, _, A, _, _, f0, _) => va_X (f0 1000000) L xs s s.heap ∧ f0 1000000 < s.heap.size ∧ ¬ A (f0 1000000)
def jv_end (l : Launch) (D : va_G) (cl : List vw_C) (kp : Nat → ClassId) (G : jv_G) : Prop := ∀ (cs ss n : Nat) (E : Nat → jv_E) (pc : Nat) (lv : List (Nat × Value)), cs ≤ 600000 → ss ≤ 7302250 → decode cL_law pc = .ok (.ireturn, 1) → jv_V l D cl kp G cs ss n E pc lv [.int 1]
theorem jv_slen {l : Launch} {D : va_G} {cl : List vw_C} {kp : Nat → ClassId} {G : jv_G} {cc : ByteArray} {own : String} {Ts : List Cond} {rm : Room} {N : jv_N} {cs ss n : Nat} {E : Nat → jv_E} {pc : Nat} {lv : List (Nat × Value)} {st : List Value} {L : Nat} {xs : Nat → Int32} (C : jv_C D cl kp G cc own Ts rm N) (S : jv_S G L xs) (hd : decode cc pc = .ok (.arraylength, 1)) (k : jv_V l D cl kp G cs ss n E (pc + 1) lv (.int (Int32.ofNat L) :: st)) : jv_V l D cl kp G cs ss n E pc lv (.ref 1000000 :: st) := by
  obtain ⟨p, e, R, s, m, args, below, meth, c, A, nL, n0, f0, Q⟩ := G
  intro f H locs ls hP hD hS hE hL hs hn hf hl
  obtain ⟨hx, hb, hml, hown, hts, hK, hA, hlk, hRm, hNw⟩ := C
  obtain ⟨hX, hbl, hbA⟩ := S
  have e1 : f 1000000 = f0 1000000 := hf _ (Or.inr (Nat.le_refl _))
  have e2 : (Value.ref 1000000 :: st).map (jv_v f) = .ref (f0 1000000) :: st.map (jv_v f) := by
    show Value.ref (f 1000000) :: _ = _
    rw [e1]
  rw [e2]
  refine va_slen hx hb hX hbl hbA hS hd ?_
  exact k f H locs ls hP hD hS hE hL (jv_s1 hs jv_ok_i) hn hf hl
theorem jv_sld {l : Launch} {D : va_G} {cl : List vw_C} {kp : Nat → ClassId} {G : jv_G} {cc : ByteArray} {own : String} {Ts : List Cond} {rm : Room} {N : jv_N} {cs ss n : Nat} {E : Nat → jv_E} {pc : Nat} {lv : List (Nat × Value)} {st : List Value} {L : Nat} {xs : Nat → Int32} {i : Int32} (C : jv_C D cl kp G cc own Ts rm N) (S : jv_S G L xs) (hin : vp_in i L) (hd : decode cc pc = .ok (.iaload, 1)) (k : jv_V l D cl kp G cs ss n E (pc + 1) lv (.int (xs i.toNatClampNeg) :: st)) : jv_V l D cl kp G cs ss n E pc lv (.int i :: .ref 1000000 :: st) := by
  obtain ⟨p, e, R, s, m, args, below, meth, c, A, nL, n0, f0, Q⟩ := G
  intro f H locs ls hP hD hS hE hL hs hn hf hl
  obtain ⟨hx, hb, hml, hown, hts, hK, hA, hlk, hRm, hNw⟩ := C
  obtain ⟨hX, hbl, hbA⟩ := S
  have e1 : f 1000000 = f0 1000000 := hf _ (Or.inr (Nat.le_refl _))
  have e2 : (Value.int i :: Value.ref 1000000 :: st).map (jv_v f) = .int i :: .ref (f0 1000000) :: st.map (jv_v f) := by
    show Value.int i :: Value.ref (f 1000000) :: _ = _
    rw [e1]
  rw [e2]
  refine va_sld hx hb hX hbl hbA hS hin hd ?_
  exact k f H locs ls hP hD hS hE hL (jv_s1 (jv_sd hs) jv_ok_i) hn hf hl
theorem jv_pop2 {l : Launch} {D : va_G} {cl : List vw_C} {kp : Nat → ClassId} {G : jv_G} {cc : ByteArray} {own : String} {Ts : List Cond} {rm : Room} {N : jv_N} {cs ss n : Nat} {E : Nat → jv_E} {pc : Nat} {lv : List (Nat × Value)} {st : List Value} (C : jv_C D cl kp G cc own Ts rm N) {v : Value} (hd : decode cc pc = .ok (.pop2, 1)) (hc : v.category = 2) (k : jv_V l D cl kp G cs ss n E (pc + 1) lv st) : jv_V l D cl kp G cs ss n E (pc) lv (v :: st) := by
  obtain ⟨p, e, R, s, m, args, below, meth, c, A, nL, n0, f0, Q⟩ := G
  intro f H locs ls hP hD hS hE hL hs hn hf hl
  obtain ⟨hx, hb, hml, hown, hts, hK, hA, hlk, hRm, hNw⟩ := C
  refine lv_pop2_2 hx hb hd ((jv_v_cat f v).trans hc) ?_
  exact k f H locs ls hP hD hS hE hL (jv_sd hs) hn hf hl
section CK15
variable {l : Launch} {D : va_G} {kp : Nat → ClassId} {G : jv_G} {cs ss : Nat} {cc : ByteArray} {m0 : Nat} {σ0 : Nat → Int} {E0 : Nat → jv_E} {mods : List Nat} {Γ : List ck_N}
variable {σ : Nat → Int} {S : ck_S} {E : Nat → jv_E} {lv : List (Nat × Value)} {st : List Value} {its r : List ck_I} {su : List (Nat × ck_S)} {pc : Nat}
theorem ck_lwx_ok {e : ck_N} {ins : Instr} {len L : Nat} {xs : Nat → Int32} {own : String} {Ts : List Cond} {rm : Room} {N : jv_N} (C : jv_C D vwCl kp G cc own Ts rm N) (SS : jv_S G L xs) (hL : L ≤ 3072) (hσ : σ0 0 = (L : Int)) (hm : 1 ≤ m0) (h300 : 300 ∉ mods) (hE0 : E0 300 = .inl (0, L, .inl xs)) (hd : decode cc pc = .ok (ins, len)) (h : ck_lwx e pc ins len S its = some (su, r)) (kk : ∀ q ∈ su, ck_Pr l D kp G cs ss m0 σ0 E0 mods q.1 q.2) (H : ck_H m0 σ0 E0 mods σ S E lv st) : jv_V l D vwCl kp G cs ss 84 E pc lv st := by
  have hs := ck_hS H
  have h0 : 0 < S.1 := Nat.lt_of_lt_of_le hm H.1
  have hσ2 : σ 0 = (L : Int) := (H.2.1 0 hm).trans hσ
  unfold ck_lwx at h
  split at h
  · split at h
    · rename_i K hK
      rw [hK] at hs
      obtain ⟨u1, s1, rfl, hu1, hs1⟩ := ck_rs_cons hs
      have hu1 : u1 = .ref 1000000 := hu1
      subst hu1
      cases h
      refine jv_slen C SS hd (kk _ List.mem_cons_self _ _ _ _ (ck_H_stk H ⟨⟨ck_w_x h0, _, rfl, ?_⟩, hs1⟩))
      rw [ck_x_ev, hσ2]
      exact nI_toInt (by omega)
    · rename_i a K hK
      rw [hK] at hs
      obtain ⟨u1, s1, rfl, ⟨wa, x, rfl, hx⟩, hs1⟩ := ck_rs_cons hs
      obtain ⟨u2, s2, rfl, hu2, hs2⟩ := ck_rs_cons hs1
      have hu2 : u2 = .ref 1000000 := hu2
      subst hu2
      split at h
      · rename_i it r0
        split at h
        · rename_i hc
          obtain ⟨c1, c2⟩ := Bool.and_eq_true_iff.mp hc
          have e1 := ck_ent_ok (ck_hF H) c1
          have e2 := ck_ent_ok (ck_hF H) c2
          rw [ck_ac_ev, ck_sub_ev, ck_x_ev, hσ2] at e2
          have hE9 : E 300 = .inl (0, L, .inl xs) := (H.2.2.2 300 h300).trans hE0
          have en : x.toNatClampNeg = (ck_ev σ a).toNat := by rw [cn_clamp, hx]
          have lk : ck_lk E 300 (ck_ev σ a) = (xs x.toNatClampNeg).toInt := by
            rw [ck_lk_v (by decide)]
            show ck_loc (E 300) (ck_ev σ a) = _
            rw [hE9, en]
            rfl
          refine jv_sld C SS (ck_vi ⟨by omega, by omega⟩) hd ?_
          split at h
          · refine ck_nwIP h kk H hs2 ck_topI (fun p hp => ?_)
            have hp := List.mem_singleton.mp hp
            subst hp
            refine ⟨⟨ck_wu wa, ck_wx⟩, ?_, ?_⟩
            · show 0 ≤ ck_ev (va_up σ S.1 _) a
              rw [ck_up_a wa]; exact e1
            · show ck_lk E 300 (ck_ev (va_up σ S.1 _) a) = ck_ev (va_up σ S.1 _) (ck_x S.1)
              rw [ck_up_a wa, ck_up_x]; exact lk
          · split at h
            · rename_i p hp
              split at h
              · rename_i hc9
                obtain ⟨hc1, hc2⟩ := hc9
                cases h
                obtain ⟨⟨w1, w2⟩, p0, pl⟩ := H.2.2.1.2.2.2.2.1 p (List.mem_of_getElem? hp)
                rw [hc1, hc2] at pl
                exact kk _ List.mem_cons_self _ _ _ _ (ck_H_stk H ⟨⟨w2, _, rfl, by rw [← pl, lk]⟩, hs2⟩)
              · cases h
            · cases h
        · cases h
      · cases h
    · rename_i a b K hK
      rw [hK] at hs
      obtain ⟨u1, s1, rfl, ⟨wa, x, rfl, hx⟩, hs1⟩ := ck_rs_cons hs
      obtain ⟨u2, s2, rfl, ⟨wb, y, rfl, hy⟩, hs2⟩ := ck_rs_cons hs1
      exact jv_lshl C hd (ck_nwJ h kk H hs2 ck_topJ)
    · rename_i a b K hK
      rw [hK] at hs
      obtain ⟨u1, s1, rfl, ⟨wa, x, rfl, hx⟩, hs1⟩ := ck_rs_cons hs
      obtain ⟨u2, s2, rfl, ⟨wb, y, rfl, hy⟩, hs2⟩ := ck_rs_cons hs1
      exact jv_land C hd (ck_nwJ h kk H hs2 ck_topJ)
    · rename_i a b K hK
      rw [hK] at hs
      obtain ⟨u1, s1, rfl, ⟨wa, x, rfl, hx⟩, hs1⟩ := ck_rs_cons hs
      obtain ⟨u2, s2, rfl, ⟨wb, y, rfl, hy⟩, hs2⟩ := ck_rs_cons hs1
      exact jv_lor C hd (ck_nwJ h kk H hs2 ck_topJ)
    · rename_i a K hK
      rw [hK] at hs
      obtain ⟨u1, s1, rfl, hu1, hs1⟩ := ck_rs_cons hs
      cases h
      exact jv_pop2 C hd (ck_gv_cat hu1) (kk _ List.mem_cons_self _ _ _ _ (ck_H_stk H hs1))
    · cases h
  · cases h
def ck_chkL (Γ : List ck_N) (e : ck_N) (pg : ck_Pg) (fu : Nat) (ND : List ck_D) (sc : List (List ck_I)) : Bool := decide (e.1 = 9998 ∧ e.2.1.1 = 1 ∧ sc.length = ND.length ∧ 300 ∉ e.2.2.2.1) && (ND.all (ck_dok e.2.1.1 (((ND.head?).map (fun d => d.2.2.length)).getD 0)) && (List.zip ND sc).all (fun q => match ck_ex Γ e pg ND q.1.2.2 fu true q.1.1 q.1.2.1 q.2 with
      | some [] => true
      | _ => false))
/-- THE LAW'S LOOP, where the checker passes it -/
theorem ck_law_ok {e : ck_N} {pg : ck_Pg} {fu : Nat} {ND : List ck_D} {sc : List (List ck_I)} {L : Nat} {xs : Nat → Int32} {rm : Room} (hΓ : ∀ e ∈ Γ, ck_con l D kp ck_NN e) (hpg : ∀ q ∈ pg, decode cc q.1 = .ok (q.2.1, q.2.2)) (C : jv_C D vwCl kp G cc (ck_nm (ck_mo 9998)) (ck_ws 9998) rm ck_NN) (hrm : (rm.frames = e.2.2.2.2.1 ∧ rm.locals = e.2.2.2.2.2) ∧ cs ≤ rm.cells ∧ ss ≤ rm.slots) (hnl : jv_nL G = ck_ml 9998) (SS : jv_S G L xs) (hL : L ≤ 3072) (QQ : ∀ (n : Nat) (E : Nat → jv_E) (pc : Nat) (lv : List (Nat × Value)), decode cc pc = .ok (.ireturn, 1) → jv_V l D vwCl kp G cs ss n E pc lv [.int 1]) (h : ck_chkL Γ e pg fu ND sc = true) : ∀ d ∈ ND, ∀ (σ : Nat → Int) (E : Nat → jv_E) (lv : List (Nat × Value)) (st : List Value), σ 0 = (L : Int) → E 300 = .inl (0, L, .inl xs) → ck_g σ d.2.1 E lv st → jv_V l D vwCl kp G cs ss 84 E d.1 lv st := by
  unfold ck_chkL at h
  obtain ⟨h1, h2⟩ := Bool.and_eq_true_iff.mp h
  obtain ⟨he, hn1, hscl, h300⟩ := of_decide_eq_true h1
  obtain ⟨hok, hall⟩ := Bool.and_eq_true_iff.mp h2
  rw [← he] at C hnl
  intro d0 hd0 σ00 E00 lv00 st00 hσ00 hE00 hg00
  have main : ∀ w : List Nat, w.length = ((ND.head?).map (fun d => d.2.2.length)).getD 0 → ∀ d ∈ ND, ∀ (σ : Nat → Int) (E : Nat → jv_E) (lv : List (Nat × Value)) (st : List Value), d.2.2.map (fun a => (ck_ev σ a).toNat) = w → ck_ag e.2.1.1 σ00 σ → ck_g σ d.2.1 E lv st → (∀ k, k ∉ e.2.2.2.1 → E k = E00 k) → jv_V l D vwCl kp G cs ss 84 E d.1 lv st := by
    refine ck_acc _ _ (fun w hw ih => ?_)
    intro d hdm σ E lv st hwd hag hg hfr
    have hdo := List.all_eq_true.mp hok d hdm
    unfold ck_dok at hdo
    simp only [Bool.and_eq_true_iff] at hdo
    obtain ⟨hmn, ⟨⟨⟨⟨kf, kl⟩, ks⟩, kpn⟩, kr⟩, kn⟩ := hdo
    obtain ⟨j, hj, hdj⟩ := List.getElem_of_mem hdm
    have hz : (d, sc[j]'(by omega)) ∈ List.zip ND sc := by
      have : (List.zip ND sc)[j]'(by rw [List.length_zip]; omega) = (d, sc[j]'(by omega)) := by
        rw [List.getElem_zip, hdj]
      rw [← this]
      exact List.getElem_mem _
    have hx := List.all_eq_true.mp hall _ hz
    dsimp only at hx
    have hm1 : 1 ≤ d.2.1.1 := by have := Nat.le_of_ble_eq_true hmn; omega
    split at hx
    · rename_i hex
      refine ck_ex_ok C hrm (fun pc S its r ins σ9 E9 lv9 st9 hd9 hr9 H9 => ?_) (fun pc len S its r su ins σ9 E9 lv9 st9 hd9 hx9 k9 H9 => ck_lwx_ok C SS hL ((hag 0 (by omega)).trans hσ00) hm1 h300 hE00 hd9 hx9 k9 H9) hnl hΓ hpg hok (Nat.le_of_ble_eq_true hmn) hag (fun a ha => ck_wb_ok (List.all_eq_true.mp kr a ha)) ?_ fu true d.1 d.2.1 _ _ hex σ E lv st ⟨Nat.le_refl _, ck_ag_rf, hg, hfr⟩
      · unfold ck_ret at hr9
        rw [if_pos he] at hr9
        have hs := ck_hS H9
        split at hr9
        · rename_i a it r0 hK
          rw [hK] at hs
          obtain ⟨u1, s1, rfl, ⟨wa, x, rfl, hx⟩, hs1⟩ := ck_rs_cons hs
          have e2 := ck_rs_nil hs1
          subst e2
          split at hr9
          · rename_i hc
            obtain ⟨c1, c2⟩ := Bool.and_eq_true_iff.mp hc
            have e1 := ck_ent_ok (ck_hF H9) c1
            have e2 := ck_ent_ok (ck_hF H9) c2
            rw [ck_ac_ev] at e1
            rw [ck_sub_ev, ck_c_ev] at e2
            have e3 : x = 1 := jv_r_eq (by show x.toInt = 1; omega)
            rw [e3]
            exact QQ _ _ _ _ hd9
          · cases hr9
        · cases hr9
      · intro d2 hd2 σ2 E2 lv2 st2 hlx hag2 hg2 hfr2
        have hdo2 := List.all_eq_true.mp hok d2 hd2
        unfold ck_dok at hdo2
        simp only [Bool.and_eq_true_iff] at hdo2
        exact ih (d2.2.2.map fun a => (ck_ev σ2 a).toNat) (by rw [List.length_map]; exact Nat.eq_of_beq_eq_true hdo2.2.2) (by rw [← hwd]; exact hlx) d2 hd2 σ2 E2 lv2 st2 rfl hag2 hg2 hfr2
    · cases hx
  have hdo := List.all_eq_true.mp hok d0 hd0
  unfold ck_dok at hdo
  simp only [Bool.and_eq_true_iff] at hdo
  exact main (d0.2.2.map fun a => (ck_ev σ00 a).toNat) (by rw [List.length_map]; exact Nat.eq_of_beq_eq_true hdo.2.2) d0 hd0 σ00 E00 lv00 st00 rfl ck_ag_rf hg00 (fun _ _ => rfl)
end CK15
/-- a fact taken as it stands; none -/
def ckq (j : Nat) : ck_K := (0, [(j, 1)])
def ckq0 : ck_K := (0, [])
