/-! THE CHECKER 10: one instruction, over the machine -/
def ck_isT (ins : Instr) : Bool := match ins with
  | .tableswitch _ _ _ _ => true
  | _ => false
section CK10
variable {l : Launch} {D : va_G} {kp : Nat → ClassId} {G : jv_G} {cs ss : Nat} {cc : ByteArray} {Ts : List Cond} {rm : Room} {N : jv_N} {m0 : Nat} {σ0 : Nat → Int} {E0 : Nat → jv_E} {mods : List Nat}
variable {σ : Nat → Int} {S : ck_S} {E : Nat → jv_E} {lv : List (Nat × Value)} {st : List Value} {its r : List ck_I} {su : List (Nat × ck_S)} {pc o nl : Nat}
theorem ck_soI_ok {i pc' : Nat} (h : ck_soI pc' i nl S its = some (su, r)) (kk : ∀ q ∈ su, ck_Pr l D kp G cs ss m0 σ0 E0 mods q.1 q.2) (H : ck_H m0 σ0 E0 mods σ S E lv st) : ∃ (x : Int32) (st' : List Value), st = .int x :: st' ∧ i < nl ∧ jv_V l D vwCl kp G cs ss 84 E pc' ((i, .int x) :: lv.filter (fun q => !(q.1 == i) && !(q.1 + 1 == i && q.2.category == 2))) st' := by
  have hs := ck_hS H
  unfold ck_soI at h
  split at h
  · rename_i a K hK
    rw [hK] at hs
    have hs0 := hs
    clear hs
    obtain ⟨v2, s2, rfl, hv, hs⟩ := ck_rs_cons hs0
    clear hs0
    split at h
    · rename_i hi
      cases h
      have k9 := kk _ List.mem_cons_self _ _ _ _ (ck_H_sts (lv' := (i, v2) :: lv.filter (fun q => !(q.1 == i) && !(q.1 + 1 == i && q.2.category == 2))) H ⟨rfl, hv, ck_f1 (ck_hL H)⟩ hs)
      obtain ⟨w2, x, rfl, hx⟩ := hv
      exact ⟨x, s2, rfl, hi, k9⟩
    · cases h
  · cases h
theorem ck_soJ_ok {i pc' : Nat} (h : ck_soJ pc' i nl S its = some (su, r)) (kk : ∀ q ∈ su, ck_Pr l D kp G cs ss m0 σ0 E0 mods q.1 q.2) (H : ck_H m0 σ0 E0 mods σ S E lv st) : ∃ (x : Int64) (st' : List Value), st = .long x :: st' ∧ i + 1 < nl ∧ jv_V l D vwCl kp G cs ss 84 E pc' ((i, .long x) :: lv.filter (fun q => !(q.1 == i) && (!(q.1 == i + 1) && !(q.1 + 1 == i && q.2.category == 2)))) st' := by
  have hs := ck_hS H
  unfold ck_soJ at h
  split at h
  · rename_i a K hK
    rw [hK] at hs
    have hs0 := hs
    clear hs
    obtain ⟨v2, s2, rfl, hv, hs⟩ := ck_rs_cons hs0
    clear hs0
    split at h
    · rename_i hi
      cases h
      have k9 := kk _ List.mem_cons_self _ _ _ _ (ck_H_sts (lv' := (i, v2) :: lv.filter (fun q => !(q.1 == i) && (!(q.1 == i + 1) && !(q.1 + 1 == i && q.2.category == 2)))) H ⟨rfl, hv, ck_f2 (ck_hL H)⟩ hs)
      obtain ⟨w2, x, rfl, hx⟩ := hv
      exact ⟨x, s2, rfl, hi, k9⟩
    · cases h
  · cases h
theorem ck_soA_ok {i pc' : Nat} (h : ck_soA pc' i nl S its = some (su, r)) (kk : ∀ q ∈ su, ck_Pr l D kp G cs ss m0 σ0 E0 mods q.1 q.2) (H : ck_H m0 σ0 E0 mods σ S E lv st) : ∃ (v : Value) (st' : List Value), st = v :: st' ∧ i < nl ∧ ((∃ x, v = .ref x) ∨ v = .null) ∧ jv_V l D vwCl kp G cs ss 84 E pc' ((i, v) :: lv.filter (fun q => !(q.1 == i) && !(q.1 + 1 == i && q.2.category == 2))) st' := by
  have hs := ck_hS H
  unfold ck_soA at h
  split at h
  · rename_i a K hK
    rw [hK] at hs
    have hs0 := hs
    clear hs
    obtain ⟨v2, s2, rfl, hv, hs⟩ := ck_rs_cons hs0
    clear hs0
    split at h
    · rename_i hi
      cases h
      have k9 := kk _ List.mem_cons_self _ _ _ _ (ck_H_sts (lv' := (i, v2) :: lv.filter (fun q => !(q.1 == i) && !(q.1 + 1 == i && q.2.category == 2))) H ⟨rfl, hv, ck_f1 (ck_hL H)⟩ hs)
      refine ⟨v2, s2, rfl, hi, ?_, k9⟩
      cases a with
      | none => exact Or.inr hv
      | some k => exact Or.inl ⟨k, hv⟩
    · cases h
  · cases h
theorem ck_ps_ok {z : Int} {x : Int32} {pc' : Nat} (h : ck_ps pc' z S its = some (su, r)) (kk : ∀ q ∈ su, ck_Pr l D kp G cs ss m0 σ0 E0 mods q.1 q.2) (H : ck_H m0 σ0 E0 mods σ S E lv st) (hx : x.toInt = z) : jv_V l D vwCl kp G cs ss 84 E pc' lv (.int x :: st) := by
  cases h
  exact kk _ List.mem_cons_self _ _ _ _ (ck_H_stk H ⟨⟨ck_w_c, x, rfl, by rw [ck_c_ev]; exact hx⟩, ck_hS H⟩)
theorem cn_i8 {z : Int} (h1 : -128 ≤ z) (h2 : z ≤ 127) : ((Int8.ofInt z).toInt32).toInt = z := by
  rw [Int8.toInt_toInt32, Int8.toInt_ofInt]
  exact Int.bmod_eq_of_le (by show -((256 : Nat) / 2 : Int) ≤ z; omega) (by show z < ((256 : Nat) + 1 : Int) / 2; omega)
theorem cn_i16 {z : Int} (h1 : -32768 ≤ z) (h2 : z ≤ 32767) : ((Int16.ofInt z).toInt32).toInt = z := by
  rw [Int16.toInt_toInt32, Int16.toInt_ofInt]
  exact Int.bmod_eq_of_le (by show -((65536 : Nat) / 2 : Int) ≤ z; omega) (by show z < ((65536 : Nat) + 1 : Int) / 2; omega)
theorem ck_inc_ok {i : Nat} {z : Int} (C : jv_C D vwCl kp G cc (ck_nm o) Ts rm N) (hnl : jv_nL G = nl) (hd : decode cc pc = .ok (.iinc i z, 3)) (h : ck_inc (pc + 3) i nl z S its = some (su, r)) (kk : ∀ q ∈ su, ck_Pr l D kp G cs ss m0 σ0 E0 mods q.1 q.2) (H : ck_H m0 σ0 E0 mods σ S E lv st) : jv_V l D vwCl kp G cs ss 84 E pc lv st := by
  unfold ck_inc at h
  split at h
  · rename_i a it r0 hf
    obtain ⟨j, v, hj, w, x, rfl, hx⟩ := ck_fi_ok (ck_hL H) hf
    split at h
    · rename_i hi
      obtain ⟨hi, z1, z2⟩ := hi
      refine jv_iinc (lv2 := _) C hd hnl j hj rfl hi rfl ?_
      have ez : (x + Int32.ofInt z).toInt = (ck_ev σ (ck_ac a z)).bmod (2 ^ 32) := by
        rw [Int32.toInt_add, cn_ofInt z1 z2, ck_ac_ev, hx]
      split at h
      · split at h
        · rename_i hc
          obtain ⟨c1, c2⟩ := Bool.and_eq_true_iff.mp hc
          have e1 := ck_ent_ok (ck_hF H) c1
          have e2 := ck_ent_ok (ck_hF H) c2
          rw [ck_ac_ev] at e1
          rw [ck_sub_ev, ck_c_ev] at e2
          cases h
          exact kk _ List.mem_cons_self _ _ _ _ (ck_H_sts H ⟨rfl, ⟨ck_w_ac w, _, rfl, ez.trans (cn_in32 (by omega) (by omega))⟩, ck_f1 (ck_hL H)⟩ (ck_hS H))
        · cases h
      · cases h
        have hag : ck_ag S.1 σ (va_up σ S.1 (x + Int32.ofInt z).toInt) := ck_ag_up (Nat.le_refl _)
        have hg := ck_H_frs (z := (x + Int32.ofInt z).toInt) (P := []) H (ck_b2_ok (cn_lo _) (cn_hi _)) (ck_up_K (ck_hS H)) ck_no_P
        exact kk _ List.mem_cons_self _ _ _ _ ⟨hg.1, hg.2.1, ⟨hg.2.2.1.1, hg.2.2.1.2.1, ⟨rfl, ⟨ck_wx, _, rfl, ck_up_x.symm⟩, ck_f1 hg.2.2.1.2.2.1⟩, hg.2.2.1.2.2.2⟩, hg.2.2.2⟩
    · cases h
  · cases h
theorem ck_tab_ok {df lo hi : Int} {offs : Array Int} {len : Nat} (C : jv_C D vwCl kp G cc (ck_nm o) Ts rm N) (hd : decode cc pc = .ok (.tableswitch df lo hi offs, len)) (h : ck_tab pc df lo hi offs S its = some (su, r)) (kk : ∀ q ∈ su, ck_Pr l D kp G cs ss m0 σ0 E0 mods q.1 q.2) (H : ck_H m0 σ0 E0 mods σ S E lv st) : jv_V l D vwCl kp G cs ss 84 E pc lv st := by
  have hs := ck_hS H
  unfold ck_tab at h
  split at h
  · rename_i a K it r0 hK
    rw [hK] at hs
    have hs0 := hs
    clear hs
    obtain ⟨v2, s2, rfl, ⟨w2, x, rfl, hx⟩, hs⟩ := ck_rs_cons hs0
    clear hs0
    split at h
    · rename_i hc
      obtain ⟨hsz, hdf⟩ := hc
      split at h
      · rename_i q y1 y2 h1 h2 h3
        cases h
        by_cases hlo : x.toInt < lo
        · refine jv_tabOut C hd (Or.inl hlo) (Int.toNat_of_nonneg hdf).symm ?_
          refine ck_side_ok h2 (fun p hp => kk p (List.mem_append_right _ (List.mem_append_left _ hp))) H hs (ck_w_ac w2) ?_
          show ck_ev σ (ck_ac a (-lo)) < 0
          rw [ck_ac_ev]; omega
        · by_cases hhi : hi < x.toInt
          · refine jv_tabOut C hd (Or.inr hhi) (Int.toNat_of_nonneg hdf).symm ?_
            refine ck_side_ok h3 (fun p hp => kk p (List.mem_append_right _ (List.mem_append_right _ hp))) H hs (ck_w_ac w2) ?_
            show 0 < ck_ev σ (ck_ac a (-hi))
            rw [ck_ac_ev]; omega
          · have hlt : (x.toInt - lo).toNat < offs.size := by omega
            have ho : offs[(x.toInt - lo).toNat]? = some offs[(x.toInt - lo).toNat] := Array.getElem?_eq_getElem hlt
            obtain ⟨tgt, ht, k9⟩ := ck_tb_ok H hs w2 offs.toList 2 lo q h1 (fun p hp => kk p (List.mem_append_left _ hp)) (x.toInt - lo).toNat _ (by rw [Array.getElem?_toList]; exact ho) (by omega)
            exact jv_tabIn C hd hlo hhi ho ht k9
      · cases h
    · cases h
  · cases h

theorem ck_lds_ok {i : Nat} (C : jv_C D vwCl kp G cc (ck_nm o) Ts rm N) (hAW : ∀ w ∈ ck_AW, w ∈ Ts) (hd : decode cc pc = .ok (.ldc i, 2)) (h : ck_lds o pc i S its = some (su, r)) (kk : ∀ q ∈ su, ck_Pr l D kp G cs ss m0 σ0 E0 mods q.1 q.2) (H : ck_H m0 σ0 E0 mods σ S E lv st) : jv_V l D vwCl kp G cs ss 84 E pc lv st := by
  unfold ck_lds at h
  split at h
  · rename_i z hz
    obtain ⟨hw, z1, z2⟩ := ck_kil_ok hz
    exact jv_ldc C hd (hAW _ hw) (ck_ps_ok h kk H (cn_ofInt z1 z2))
  · split at h
    · rename_i j hj
      obtain ⟨hn, hj15, t, ht⟩ := ck_ksl_ok hj
      have hn : ck_nm o = "JuggledPost$Scribe" := hn
      rw [hn] at C
      cases h
      exact jz_ldc C hj15 ht hd (kk _ List.mem_cons_self _ _ _ _ (ck_H_stk H ⟨rfl, ck_hS H⟩))
    · cases h
theorem ck_gfd_ok {i : Nat} (C : jv_C D vwCl kp G cc (ck_nm o) Ts rm N) (hAW : ∀ w ∈ ck_AW, w ∈ Ts) (hd : decode cc pc = .ok (.getfield i, 3)) (h : ck_gfd o pc i S its = some (su, r)) (kk : ∀ q ∈ su, ck_Pr l D kp G cs ss m0 σ0 E0 mods q.1 q.2) (H : ck_H m0 σ0 E0 mods σ S E lv st) : jv_V l D vwCl kp G cs ss 84 E pc lv st := by
  have hs := ck_hS H
  unfold ck_gfd at h
  split at h
  · rename_i k K hK
    rw [hK] at hs
    have hs0 := hs
    clear hs
    obtain ⟨v, s2, rfl, hv, hs⟩ := ck_rs_cons hs0
    clear hs0
    have hv : v = .ref k := hv
    subst hv
    split at h
    · rename_i q hq
      exact ck_get_ok C hAW (ck_ftl_ok hq) hd h kk H hs
    · split at h
      · rename_i hk
        obtain ⟨j, rfl⟩ : ∃ j, k = 1000001 + j := ⟨k - 1000001, by omega⟩
        split at h
        · rename_i hq
          cases h
          refine jz_getv C (by omega) (hAW _ (ck_sfl_ok hq)) hd ?_
          have k9 := kk _ List.mem_cons_self _ _ _ _ (ck_H_stk (st' := .ref (1000001 + j + 1000000) :: s2) H ⟨rfl, hs⟩)
          rw [show 1000001 + j + 1000000 = 2000001 + j by omega] at k9
          exact k9
        · rename_i hq
          cases h
          exact jz_getc C (by omega) (hAW _ (ck_sfl_ok hq)) hd (kk _ List.mem_cons_self _ _ _ _ (ck_H_stk H ⟨⟨ck_w_c, 0, rfl, by rw [ck_c_ev]; rfl⟩, hs⟩))
        · cases h
      · cases h
  · cases h
theorem ck_gst_ok {i : Nat} (C : jv_C D vwCl kp G cc (ck_nm o) Ts rm N) (hAW : ∀ w ∈ ck_AW, w ∈ Ts) (hd : decode cc pc = .ok (.getstatic i, 3)) (h : ck_gst o pc i S its = some (su, r)) (kk : ∀ q ∈ su, ck_Pr l D kp G cs ss m0 σ0 E0 mods q.1 q.2) (H : ck_H m0 σ0 E0 mods σ S E lv st) : jv_V l D vwCl kp G cs ss 84 E pc lv st := by
  unfold ck_gst at h
  split at h
  · rename_i hq
    cases h
    exact jz_gets C (hAW _ (ck_sfl_ok hq)) hd (kk _ List.mem_cons_self _ _ _ _ (ck_H_stk H ⟨⟨ck_w_c, 1, rfl, by rw [ck_c_ev]; rfl⟩, ck_hS H⟩))
  · rename_i hq
    cases h
    exact jz_getq C (hAW _ (ck_sfl_ok hq)) hd (kk _ List.mem_cons_self _ _ _ _ (ck_H_stk H ⟨rfl, ck_hS H⟩)) (kk _ (List.mem_cons_of_mem _ List.mem_cons_self) _ _ _ _ (ck_H_stk H ⟨rfl, ck_hS H⟩))
  · cases h
theorem ck_bld_ok (C : jv_C D vwCl kp G cc (ck_nm o) Ts rm N) (hd : decode cc pc = .ok (.baload, 1)) (h : ck_bld pc S its = some (su, r)) (kk : ∀ q ∈ su, ck_Pr l D kp G cs ss m0 σ0 E0 mods q.1 q.2) (H : ck_H m0 σ0 E0 mods σ S E lv st) : jv_V l D vwCl kp G cs ss 84 E pc lv st := by
  have hs := ck_hS H
  unfold ck_bld at h
  split at h
  · rename_i a k K hK
    rw [hK] at hs
    have hs0 := hs
    clear hs
    obtain ⟨u, s2, rfl, ⟨wa, x, rfl, hx⟩, hs⟩ := ck_rs_cons hs0
    clear hs0
    have hs0 := hs
    clear hs
    obtain ⟨v, s3, rfl, hv, hs⟩ := ck_rs_cons hs0
    clear hs0
    have hv : v = .ref k := hv
    subst hv
    split at h
    · rename_i hk
      obtain ⟨j, rfl⟩ : ∃ j, k = 2000001 + j := ⟨k - 2000001, by omega⟩
      split at h
      · rename_i it r0
        split at h
        · rename_i hc
          obtain ⟨c1, c2⟩ := Bool.and_eq_true_iff.mp hc
          have e1 := ck_ent_ok (ck_hF H) c1
          have e2 := ck_ent_ok (ck_hF H) c2
          rw [ck_sub_ev, ck_c_ev, show 2000001 + j - 2000001 = j by omega] at e2
          exact jz_bald C (by omega) (ck_vi ⟨by omega, by omega⟩) hd (ck_nwI h kk H hs ck_topI)
        · cases h
      · cases h
    · exact ck_bald_ok C hd h kk H wa hx hs
  · cases h
theorem ck_aln_ok (C : jv_C D vwCl kp G cc (ck_nm o) Ts rm N) (hd : decode cc pc = .ok (.arraylength, 1)) (h : ck_aln pc S its = some (su, r)) (kk : ∀ q ∈ su, ck_Pr l D kp G cs ss m0 σ0 E0 mods q.1 q.2) (H : ck_H m0 σ0 E0 mods σ S E lv st) : jv_V l D vwCl kp G cs ss 84 E pc lv st := by
  have hs := ck_hS H
  unfold ck_aln at h
  split at h
  · rename_i k K hK
    rw [hK] at hs
    have hs0 := hs
    clear hs
    obtain ⟨v, s3, rfl, hv, hs⟩ := ck_rs_cons hs0
    clear hs0
    have hv : v = .ref k := hv
    subst hv
    split at h
    · rename_i hk
      obtain ⟨j, rfl⟩ : ∃ j, k = 2000001 + j := ⟨k - 2000001, by omega⟩
      rw [show 2000001 + j - 2000001 = j by omega] at h
      have hj : j < 15 := by omega
      have hlen : jz_len.getD j 0 < 2147483648 := (by decide : ∀ j, j < 15 → jz_len.getD j 0 < 2147483648) j hj
      exact jz_alen C hj rfl hd (ck_ps_ok (x := Int32.ofNat (jz_len.getD j 0)) h kk (ck_H_stk H hs) (Int32.toInt_ofNat_of_lt (by omega)))
    · split at h
      · rename_i a ha
        obtain ⟨t, z, B⟩ := a
        split at h
        · rename_i hz
          obtain ⟨ht, hz⟩ := hz
          have hz : z < 2147483648 := hz
          have fin := ck_ps_ok (x := Int32.ofNat z) h kk (ck_H_stk H hs) (Int32.toInt_ofNat_of_lt (by omega))
          have hok := H.2.2.1.1 k _ ha
          by_cases h3 : t = 3
          · subst h3
            obtain ⟨g, he, hb⟩ := ck_okJ.mp hok
            exact jv_alen C (ck_k6 ha) he .long (fun _ => rfl) rfl hd fin
          · obtain ⟨g, he, hb⟩ := (ck_okI h3).mp hok
            have ht : t < 4 := ht
            match t, ht, he with
            | 0, _, he => exact jv_alen C (ck_k6 ha) he .int (fun _ => rfl) rfl hd fin
            | 1, _, he => exact jv_alen C (ck_k6 ha) he .byte (fun _ => rfl) rfl hd fin
            | 2, _, he => exact jv_alen C (ck_k6 ha) he .boolean (fun _ => rfl) rfl hd fin
            | 3, _, he => exact absurd rfl h3
        · cases h
      · cases h
  · cases h
theorem ck_aal_ok (C : jv_C D vwCl kp G cc (ck_nm o) Ts rm N) (hd : decode cc pc = .ok (.aaload, 1)) (h : ck_aal pc S its = some (su, r)) (kk : ∀ q ∈ su, ck_Pr l D kp G cs ss m0 σ0 E0 mods q.1 q.2) (H : ck_H m0 σ0 E0 mods σ S E lv st) : jv_V l D vwCl kp G cs ss 84 E pc lv st := by
  have hs := ck_hS H
  unfold ck_aal at h
  split at h
  · rename_i a k K it r0 hK
    rw [hK] at hs
    have hs0 := hs
    clear hs
    obtain ⟨u, s2, rfl, ⟨wa, x, rfl, hx⟩, hs⟩ := ck_rs_cons hs0
    clear hs0
    have hs0 := hs
    clear hs
    obtain ⟨v, s3, rfl, hv, hs⟩ := ck_rs_cons hs0
    clear hs0
    have hv : v = .ref k := hv
    subst hv
    split at h
    · rename_i ks hks
      split at h
      · rename_i y hy
        split at h
        · rename_i hc
          obtain ⟨c1, c2⟩ := Bool.and_eq_true_iff.mp hc
          have e1 := ck_ent_ok (ck_hF H) c1
          have e2 := ck_ent_ok (ck_hF H) c2
          rw [ck_ac_ev] at e1
          rw [ck_sub_ev, ck_c_ev] at e2
          cases h
          obtain ⟨gq, he, hg⟩ := H.2.2.1.1 k _ hks
          have hlt := (List.getElem?_eq_some_iff.mp hy).1
          exact jv_aald C (ck_k6 hks) he (ck_vi ⟨by omega, by omega⟩) (r := y) (by rw [cn_clamp, hx, show (ck_ev σ a).toNat = ck_nr it 0 by omega]; exact hg _ _ hy) hd (kk _ List.mem_cons_self _ _ _ _ (ck_H_stk H ⟨rfl, hs⟩))
        · cases h
      · cases h
    · cases h
  · cases h

set_option maxHeartbeats 4000000 in
theorem ck_step_ok {ins : Instr} {len : Nat} (C : jv_C D vwCl kp G cc (ck_nm o) Ts rm N) (hAW : ∀ w ∈ ck_AW, w ∈ Ts) (hnl : jv_nL G = nl) (hd : decode cc pc = .ok (ins, len)) (hl : ck_isT ins = true ∨ len = ck_len ins) (h : ck_step o nl mods pc ins S its = some (su, r)) (kk : ∀ q ∈ su, ck_Pr l D kp G cs ss m0 σ0 E0 mods q.1 q.2) (H : ck_H m0 σ0 E0 mods σ S E lv st) : jv_V l D vwCl kp G cs ss 84 E pc lv st := by
  have hs := ck_hS H
  cases ins with
  | aconst_null =>
    have e : len = 1 := hl.resolve_left (fun q => nomatch q)
    subst e
    cases h
    exact jv_null C hd (kk _ List.mem_cons_self _ _ _ _ (ck_H_stk H ⟨rfl, hs⟩))
  | aload i =>
    have e : len = 2 := hl.resolve_left (fun q => nomatch q)
    subst e
    obtain ⟨j, v, hj, hv, k9⟩ := ck_ldA_ok h kk H
    rcases hv with ⟨x, rfl⟩ | rfl
    · exact jv_aload C hd j hj k9
    · exact jv_aloadN C hd j hj k9
  | aload_n i =>
    have e : len = 1 := hl.resolve_left (fun q => nomatch q)
    subst e
    obtain ⟨j, v, hj, hv, k9⟩ := ck_ldA_ok h kk H
    rcases hv with ⟨x, rfl⟩ | rfl
    · exact jv_aload_n C hd j hj k9
    · exact jv_aload_nN C hd j hj k9
  | iload i =>
    have e : len = 2 := hl.resolve_left (fun q => nomatch q)
    subst e
    obtain ⟨j, x, hj, k9⟩ := ck_ldI_ok h kk H
    exact jv_iload C hd j hj k9
  | iload_n i =>
    have e : len = 1 := hl.resolve_left (fun q => nomatch q)
    subst e
    obtain ⟨j, x, hj, k9⟩ := ck_ldI_ok h kk H
    exact jv_iload_n C hd j hj k9
  | lload i =>
    have e : len = 2 := hl.resolve_left (fun q => nomatch q)
    subst e
    obtain ⟨j, x, hj, k9⟩ := ck_ldJ_ok h kk H
    exact jv_lload C hd j hj k9
  | lload_n i =>
    have e : len = 1 := hl.resolve_left (fun q => nomatch q)
    subst e
    obtain ⟨j, x, hj, k9⟩ := ck_ldJ_ok h kk H
    exact jv_lload_n C hd j hj k9
  | astore i =>
    have e : len = 2 := hl.resolve_left (fun q => nomatch q)
    subst e
    obtain ⟨v, st', rfl, hi, ⟨x, rfl⟩ | rfl, k9⟩ := ck_soA_ok h kk H
    · exact jv_astore C hd hnl hi rfl k9
    · exact jv_astoreN C hd hnl hi rfl k9
  | astore_n i =>
    have e : len = 1 := hl.resolve_left (fun q => nomatch q)
    subst e
    obtain ⟨v, st', rfl, hi, ⟨x, rfl⟩ | rfl, k9⟩ := ck_soA_ok h kk H
    · exact jv_astore_n C hd rfl hnl hi rfl k9
    · exact jv_astore_nN C hd rfl hnl hi rfl k9
  | istore i =>
    have e : len = 2 := hl.resolve_left (fun q => nomatch q)
    subst e
    obtain ⟨x, st', rfl, hi, k9⟩ := ck_soI_ok h kk H
    exact jv_istore C hd hnl hi rfl k9
  | istore_n i =>
    have e : len = 1 := hl.resolve_left (fun q => nomatch q)
    subst e
    obtain ⟨x, st', rfl, hi, k9⟩ := ck_soI_ok h kk H
    exact jv_istore_n C hd rfl hnl hi rfl k9
  | lstore i =>
    have e : len = 2 := hl.resolve_left (fun q => nomatch q)
    subst e
    obtain ⟨x, st', rfl, hi, k9⟩ := ck_soJ_ok h kk H
    exact jv_lstore C hd hnl hi rfl k9
  | lstore_n i =>
    have e : len = 1 := hl.resolve_left (fun q => nomatch q)
    subst e
    obtain ⟨x, st', rfl, hi, k9⟩ := ck_soJ_ok h kk H
    exact jv_lstore_n C hd rfl hnl hi rfl k9
  | iconst z =>
    have e : len = 1 := hl.resolve_left (fun q => nomatch q)
    subst e
    have h : (if -128 ≤ z ∧ z ≤ 127 then ck_ps (pc + 1) z S its else none) = some (su, r) := h
    split at h
    · rename_i hz
      exact jv_iconst C hd rfl (ck_ps_ok h kk H (cn_ofInt (by omega) (by omega)))
    · cases h
  | bipush z =>
    have e : len = 2 := hl.resolve_left (fun q => nomatch q)
    subst e
    have h : (if -128 ≤ z ∧ z ≤ 127 then ck_ps (pc + 2) z S its else none) = some (su, r) := h
    split at h
    · rename_i hz
      exact jv_bipush C hd rfl (ck_ps_ok h kk H (cn_i8 hz.1 hz.2))
    · cases h
  | sipush z =>
    have e : len = 3 := hl.resolve_left (fun q => nomatch q)
    subst e
    have h : (if -32768 ≤ z ∧ z ≤ 32767 then ck_ps (pc + 3) z S its else none) = some (su, r) := h
    split at h
    · rename_i hz
      exact jv_sipush C hd rfl (ck_ps_ok h kk H (cn_i16 hz.1 hz.2))
    · cases h
  | lconst z =>
    have e : len = 1 := hl.resolve_left (fun q => nomatch q)
    subst e
    cases h
    refine jv_lconst C hd rfl (kk _ List.mem_cons_self _ _ _ _ (ck_H_stk H ⟨⟨ck_w_c, _, rfl, ?_⟩, hs⟩))
    rw [ck_c_ev]
    match z with
    | 0 => rfl
    | 1 => rfl
  | ldc i =>
    have e : len = 2 := hl.resolve_left (fun q => nomatch q)
    subst e
    exact ck_lds_ok C hAW hd h kk H
  | ldc_w i =>
    have e : len = 3 := hl.resolve_left (fun q => nomatch q)
    subst e
    have h : (match ck_kil o i with | some z => ck_ps (pc + 3) z S its | none => none) = some (su, r) := h
    split at h
    · rename_i z hz
      obtain ⟨hw, z1, z2⟩ := ck_kil_ok hz
      exact jv_ldcw C hd (hAW _ hw) (ck_ps_ok h kk H (cn_ofInt z1 z2))
    · cases h
  | ldc2_w i =>
    have e : len = 3 := hl.resolve_left (fun q => nomatch q)
    subst e
    have h : (match ck_kjl o i with | some z => some ([(pc + 3, ck_stk S (ck_jv (ck_c z) :: S.2.2.2.1))], its) | none => none) = some (su, r) := h
    split at h
    · rename_i z hz
      obtain ⟨hw, z1, z2⟩ := ck_kjl_ok hz
      cases h
      refine jv_ldc2 C hd (hAW _ hw) (kk _ List.mem_cons_self _ _ _ _ (ck_H_stk H ⟨⟨ck_w_c, _, rfl, ?_⟩, hs⟩))
      rw [ck_c_ev, Int64.toInt_ofInt]
      exact cn_in64 z1 z2
    · cases h
  | dup =>
    have e : len = 1 := hl.resolve_left (fun q => nomatch q)
    subst e
    have h : (match S.2.2.2.1 with | a :: K => if ck_cat a = 1 then some ([(pc + 1, ck_stk S (a :: a :: K))], its) else none | _ => none) = some (su, r) := h
    split at h
    · rename_i a K hK
      rw [hK] at hs
      have hs0 := hs
      clear hs
      obtain ⟨v, s2, rfl, hv, hs⟩ := ck_rs_cons hs0
      clear hs0
      split at h
      · rename_i hc
        cases h
        exact jv_dup C hd ((ck_gv_cat hv).trans hc) (kk _ List.mem_cons_self _ _ _ _ (ck_H_stk H ⟨hv, hv, hs⟩))
      · cases h
    · cases h
  | dup2 =>
    have e : len = 1 := hl.resolve_left (fun q => nomatch q)
    subst e
    have h : (match S.2.2.2.1 with | a :: b :: K => if ck_cat a = 1 ∧ ck_cat b = 1 then some ([(pc + 1, ck_stk S (a :: b :: a :: b :: K))], its) else none | _ => none) = some (su, r) := h
    split at h
    · rename_i a b K hK
      rw [hK] at hs
      have hs0 := hs
      clear hs
      obtain ⟨v, s2, rfl, hv, hs⟩ := ck_rs_cons hs0
      clear hs0
      have hs0 := hs
      clear hs
      obtain ⟨u, s3, rfl, hu, hs⟩ := ck_rs_cons hs0
      clear hs0
      split at h
      · rename_i hc
        cases h
        exact jv_dup2 C hd ((ck_gv_cat hv).trans hc.1) ((ck_gv_cat hu).trans hc.2) (kk _ List.mem_cons_self _ _ _ _ (ck_H_stk H ⟨hv, hu, hv, hu, hs⟩))
      · cases h
    · cases h
  | pop =>
    have e : len = 1 := hl.resolve_left (fun q => nomatch q)
    subst e
    have h : (match S.2.2.2.1 with | a :: K => if ck_cat a = 1 then some ([(pc + 1, ck_stk S K)], its) else none | _ => none) = some (su, r) := h
    split at h
    · rename_i a K hK
      rw [hK] at hs
      have hs0 := hs
      clear hs
      obtain ⟨v, s2, rfl, hv, hs⟩ := ck_rs_cons hs0
      clear hs0
      split at h
      · rename_i hc
        cases h
        exact jv_pop C hd ((ck_gv_cat hv).trans hc) (kk _ List.mem_cons_self _ _ _ _ (ck_H_stk H hs))
      · cases h
    · cases h
  | goto off =>
    have e : len = 3 := hl.resolve_left (fun q => nomatch q)
    subst e
    have h : (if 0 ≤ (pc : Int) + off then some ([(((pc : Int) + off).toNat, S)], its) else none) = some (su, r) := h
    split at h
    · rename_i ho
      cases h
      exact jv_goto C hd (Int.toNat_of_nonneg ho).symm (kk _ List.mem_cons_self _ _ _ _ H)
    · cases h
  | iadd =>
    have e : len = 1 := hl.resolve_left (fun q => nomatch q)
    subst e
    obtain ⟨K, a, b, hf, x, y, st', rfl, hx, hy, wa, wb, hK⟩ := ck_bin_ok h H
    exact jv_iadd C hd (ck_ari_ok hf kk H hK (ck_w_add wa wb) (by rw [Int32.toInt_add, hx, hy, ck_add_ev]))
  | isub =>
    have e : len = 1 := hl.resolve_left (fun q => nomatch q)
    subst e
    obtain ⟨K, a, b, hf, x, y, st', rfl, hx, hy, wa, wb, hK⟩ := ck_bin_ok h H
    exact jv_isub C hd (ck_ari_ok hf kk H hK (ck_w_sub wa wb) (by rw [Int32.toInt_sub, hx, hy, ck_sub_ev]))
  | imul =>
    have e : len = 1 := hl.resolve_left (fun q => nomatch q)
    subst e
    obtain ⟨K, a, b, hf, x, y, st', rfl, hx, hy, wa, wb, hK⟩ := ck_bin_ok h H
    exact jv_imul C hd (ck_mx_ok hf kk H hK wa wb hx hy)
  | idiv =>
    have e : len = 1 := hl.resolve_left (fun q => nomatch q)
    subst e
    obtain ⟨K, a, b, hf, x, y, st', rfl, hx, hy, wa, wb, hK⟩ := ck_bin_ok h H
    obtain ⟨h1, ex, r0, hn, hex⟩ := ck_div_gen hf (ck_hF H) wa wb
    exact jv_idiv C hd (cn_ne0 (by omega)) (ck_nwI hn kk H hK (hex _ (by rw [cn_tdiv (by omega), hx, hy]) ck_topI))
  | irem =>
    have e : len = 1 := hl.resolve_left (fun q => nomatch q)
    subst e
    obtain ⟨K, a, b, hf, x, y, st', rfl, hx, hy, wa, wb, hK⟩ := ck_bin_ok h H
    obtain ⟨h1, ex, r0, hn, hex⟩ := ck_rem_gen hf (ck_hF H) wa wb
    have bx := cn_lo x
    have by9 := cn_hi y
    exact jv_irem C hd (cn_ne0 (by omega)) (ck_nwIP hn kk H hK (hex _ (by rw [cn_rem (by omega), hx, hy])) (ck_rpn_ok wa wb (by omega) h1 (by omega) (by rw [cn_rem (by omega), hx, hy])))
  | iand =>
    have e : len = 1 := hl.resolve_left (fun q => nomatch q)
    subst e
    obtain ⟨K, a, b, hf, x, y, st', rfl, hx, hy, wa, wb, hK⟩ := ck_bin_ok h H
    exact jv_iand C hd (ck_and_ok hf kk H hK wa wb hx hy)
  | ior =>
    have e : len = 1 := hl.resolve_left (fun q => nomatch q)
    subst e
    obtain ⟨K, a, b, hf, x, y, st', rfl, hx, hy, wa, wb, hK⟩ := ck_bin_ok h H
    exact jv_ior C hd (ck_or_ok hf kk H hK wa wb hx hy)
  | ixor =>
    have e : len = 1 := hl.resolve_left (fun q => nomatch q)
    subst e
    obtain ⟨K, a, b, hf, x, y, st', rfl, hx, hy, wa, wb, hK⟩ := ck_bin_ok h H
    exact jv_ixor C hd (ck_xor_ok hf kk H hK hx hy)
  | ishl =>
    have e : len = 1 := hl.resolve_left (fun q => nomatch q)
    subst e
    obtain ⟨K, a, b, hf, x, y, st', rfl, hx, hy, wa, wb, hK⟩ := ck_bin_ok h H
    exact jv_ishl C hd (ck_shl_ok hf kk H hK wa wb hx hy)
  | ishr =>
    have e : len = 1 := hl.resolve_left (fun q => nomatch q)
    subst e
    obtain ⟨K, a, b, hf, x, y, st', rfl, hx, hy, wa, wb, hK⟩ := ck_bin_ok h H
    exact jv_ishr C hd (ck_shr_ok hf kk H hK wa hx hy)
  | iushr =>
    have e : len = 1 := hl.resolve_left (fun q => nomatch q)
    subst e
    obtain ⟨K, a, b, hf, x, y, st', rfl, hx, hy, wa, wb, hK⟩ := ck_bin_ok h H
    exact jv_iushr C hd (ck_nwI hf kk H hK ck_topI)
  | ineg =>
    have e : len = 1 := hl.resolve_left (fun q => nomatch q)
    subst e
    obtain ⟨K, a, hf, x, st', rfl, hx, wa, hK⟩ := ck_un_ok h H
    exact jv_ineg C hd (ck_ari_ok hf kk H hK (ck_w_mul wa) (by rw [Int32.toInt_neg, hx, ck_mul_ev, Int.neg_one_mul]))
  | ladd =>
    have e : len = 1 := hl.resolve_left (fun q => nomatch q)
    subst e
    obtain ⟨K, a, b, hf, x, y, st', rfl, hx, hy, wa, wb, hK⟩ := ck_bij_ok h H
    exact jv_ladd C hd (ck_arj_ok hf kk H hK (ck_w_add wa wb) (by rw [Int64.toInt_add, hx, hy, ck_add_ev]))
  | lsub =>
    have e : len = 1 := hl.resolve_left (fun q => nomatch q)
    subst e
    obtain ⟨K, a, b, hf, x, y, st', rfl, hx, hy, wa, wb, hK⟩ := ck_bij_ok h H
    exact jv_lsub C hd (ck_arj_ok hf kk H hK (ck_w_sub wa wb) (by rw [Int64.toInt_sub, hx, hy, ck_sub_ev]))
  | lmul =>
    have e : len = 1 := hl.resolve_left (fun q => nomatch q)
    subst e
    obtain ⟨K, a, b, hf, x, y, st', rfl, hx, hy, wa, wb, hK⟩ := ck_bij_ok h H
    exact jv_lmul C hd (ck_mj_ok hf kk H hK wa wb hx hy)
  | ldiv =>
    have e : len = 1 := hl.resolve_left (fun q => nomatch q)
    subst e
    obtain ⟨K, a, b, hf, x, y, st', rfl, hx, hy, wa, wb, hK⟩ := ck_bij_ok h H
    obtain ⟨h1, ex, r0, hn, hex⟩ := ck_div_gen hf (ck_hF H) wa wb
    exact jv_ldiv C hd (cn_ne0L (by omega)) (ck_nwJ hn kk H hK (hex _ (by rw [cn_tdivL (by omega), hx, hy]) ck_topJ))
  | lrem =>
    have e : len = 1 := hl.resolve_left (fun q => nomatch q)
    subst e
    obtain ⟨K, a, b, hf, x, y, st', rfl, hx, hy, wa, wb, hK⟩ := ck_bij_ok h H
    obtain ⟨h1, ex, r0, hn, hex⟩ := ck_rem_gen hf (ck_hF H) wa wb
    have bx := cn_loL x
    have by9 := cn_hiL y
    exact jv_lrem C hd (cn_ne0L (by omega)) (ck_nwJP hn kk H hK (hex _ (by rw [cn_remL (by omega), hx, hy])) (ck_rpl_ok wa wb (by omega) h1 (by omega) (by rw [cn_remL (by omega), hx, hy])))
  | lcmp =>
    have e : len = 1 := hl.resolve_left (fun q => nomatch q)
    subst e
    obtain ⟨K, a, b, hf, x, y, st', rfl, hx, hy, wa, wb, hK⟩ := ck_bij_ok h H
    cases hf
    exact jv_lcmp C hd (kk _ List.mem_cons_self _ _ _ _ (ck_H_stk H ⟨⟨wa, wb, x, y, rfl, hx, hy⟩, hK⟩))
  | i2l =>
    have e : len = 1 := hl.resolve_left (fun q => nomatch q)
    subst e
    obtain ⟨K, a, hf, x, st', rfl, hx, wa, hK⟩ := ck_un_ok h H
    cases hf
    exact jv_i2l C hd (kk _ List.mem_cons_self _ _ _ _ (ck_H_stk H ⟨⟨wa, _, rfl, by rw [Int32.toInt_toInt64]; exact hx⟩, hK⟩))
  | l2i =>
    have e : len = 1 := hl.resolve_left (fun q => nomatch q)
    subst e
    obtain ⟨K, a, hf, x, st', rfl, hx, wa, hK⟩ := ck_unj_ok h H
    exact jv_l2i C hd (ck_ari_ok hf kk H hK wa (by rw [Int64.toInt_toInt32, hx]))
  | i2b =>
    have e : len = 1 := hl.resolve_left (fun q => nomatch q)
    subst e
    obtain ⟨K, a, hf, x, st', rfl, hx, wa, hK⟩ := ck_un_ok h H
    exact jv_i2b C hd (ck_nwI hf kk H hK (ck_b2_ok (cn_b x).1 (cn_b x).2))
  | i2s =>
    have e : len = 1 := hl.resolve_left (fun q => nomatch q)
    subst e
    obtain ⟨K, a, hf, x, st', rfl, hx, wa, hK⟩ := ck_un_ok h H
    exact jv_i2s C hd (ck_nwI hf kk H hK (ck_b2_ok (cn_s x).1 (cn_s x).2))
  | iinc i z =>
    have e : len = 3 := hl.resolve_left (fun q => nomatch q)
    subst e
    exact ck_inc_ok C hnl hd h kk H
  | ifCond c off =>
    have e : len = 3 := hl.resolve_left (fun q => nomatch q)
    subst e
    cases c with
    | eq =>
      obtain ⟨x, st', tgt, rfl, ht, k1, k2⟩ := ck_if_ok (c := 0) (by decide) h kk H
      refine jv_if_eq C hd ht (fun q => k1 ((ck_cdI (x := x) 0 (by decide)).mpr q)) (fun q => k2 ?_)
      have h0 : (0 : Int32).toInt = 0 := rfl
      show ¬ x.toInt = 0; exact jv_i_ne q
    | ne =>
      obtain ⟨x, st', tgt, rfl, ht, k1, k2⟩ := ck_if_ok (c := 1) (by decide) h kk H
      refine jv_if_ne C hd ht (fun q => k1 ((ck_cdI (x := x) 1 (by decide)).mpr q)) (fun q => k2 ?_)
      have h0 : (0 : Int32).toInt = 0 := rfl
      show x.toInt = 0; exact jv_i_eq q
    | lt =>
      obtain ⟨x, st', tgt, rfl, ht, k1, k2⟩ := ck_if_ok (c := 2) (by decide) h kk H
      refine jv_if_lt C hd ht (fun q => k1 ((ck_cdI (x := x) 2 (by decide)).mpr q)) (fun q => k2 ?_)
      have h0 : (0 : Int32).toInt = 0 := rfl
      show 0 ≤ x.toInt; exact jv_i_nlt q
    | ge =>
      obtain ⟨x, st', tgt, rfl, ht, k1, k2⟩ := ck_if_ok (c := 3) (by decide) h kk H
      refine jv_if_ge C hd ht (fun q => k1 ((ck_cdI (x := x) 3 (by decide)).mpr q)) (fun q => k2 ?_)
      have h0 : (0 : Int32).toInt = 0 := rfl
      show x.toInt < 0; exact jv_i_nle q
    | gt =>
      obtain ⟨x, st', tgt, rfl, ht, k1, k2⟩ := ck_if_ok (c := 4) (by decide) h kk H
      refine jv_if_gt C hd ht (fun q => k1 ((ck_cdI (x := x) 4 (by decide)).mpr q)) (fun q => k2 ?_)
      have h0 : (0 : Int32).toInt = 0 := rfl
      show x.toInt ≤ 0; exact jv_i_nlt q
    | le =>
      obtain ⟨x, st', tgt, rfl, ht, k1, k2⟩ := ck_if_ok (c := 5) (by decide) h kk H
      refine jv_if_le C hd ht (fun q => k1 ((ck_cdI (x := x) 5 (by decide)).mpr q)) (fun q => k2 ?_)
      have h0 : (0 : Int32).toInt = 0 := rfl
      show 0 < x.toInt; exact jv_i_nle q
  | if_icmp c off =>
    have e : len = 3 := hl.resolve_left (fun q => nomatch q)
    subst e
    cases c with
    | eq =>
      obtain ⟨x, y, st', tgt, rfl, ht, k1, k2⟩ := ck_ic_ok (c := 0) h kk H
      exact jv_icmp_eq C hd ht (fun q => k1 (by show x.toInt - y.toInt = 0; have := jv_i_eq q; omega)) (fun q => k2 (by show ¬ x.toInt - y.toInt = 0; have := jv_i_ne q; omega))
    | ne =>
      obtain ⟨x, y, st', tgt, rfl, ht, k1, k2⟩ := ck_ic_ok (c := 1) h kk H
      exact jv_icmp_ne C hd ht (fun q => k1 (by show ¬ x.toInt - y.toInt = 0; have := jv_i_ne q; omega)) (fun q => k2 (by show x.toInt - y.toInt = 0; have := jv_i_eq q; omega))
    | lt =>
      obtain ⟨x, y, st', tgt, rfl, ht, k1, k2⟩ := ck_ic_ok (c := 2) h kk H
      exact jv_icmp_lt C hd ht (fun q => k1 (by show x.toInt - y.toInt < 0; have := jv_i_lt q; omega)) (fun q => k2 (by show 0 ≤ x.toInt - y.toInt; have := jv_i_nlt q; omega))
    | ge =>
      obtain ⟨x, y, st', tgt, rfl, ht, k1, k2⟩ := ck_ic_ok (c := 3) h kk H
      exact jv_icmp_ge C hd ht (fun q => k1 (by show 0 ≤ x.toInt - y.toInt; have := jv_i_le q; omega)) (fun q => k2 (by show x.toInt - y.toInt < 0; have := jv_i_nle q; omega))
    | gt =>
      obtain ⟨x, y, st', tgt, rfl, ht, k1, k2⟩ := ck_ic_ok (c := 4) h kk H
      exact jv_icmp_gt C hd ht (fun q => k1 (by show 0 < x.toInt - y.toInt; have := jv_i_lt q; omega)) (fun q => k2 (by show x.toInt - y.toInt ≤ 0; have := jv_i_nlt q; omega))
    | le =>
      obtain ⟨x, y, st', tgt, rfl, ht, k1, k2⟩ := ck_ic_ok (c := 5) h kk H
      exact jv_icmp_le C hd ht (fun q => k1 (by show x.toInt - y.toInt ≤ 0; have := jv_i_le q; omega)) (fun q => k2 (by show 0 < x.toInt - y.toInt; have := jv_i_nle q; omega))
  | ifnonnull off =>
    have e : len = 3 := hl.resolve_left (fun q => nomatch q)
    subst e
    have h : (match S.2.2.2.1 with | .inr (.inl (some _)) :: K => if 0 ≤ (pc : Int) + off then some ([(((pc : Int) + off).toNat, ck_stk S K)], its) else none | .inr (.inl none) :: K => some ([(pc + 3, ck_stk S K)], its) | _ => none) = some (su, r) := h
    split at h
    · rename_i k K hK
      rw [hK] at hs
      have hs0 := hs
      clear hs
      obtain ⟨v, s2, rfl, hv, hs⟩ := ck_rs_cons hs0
      clear hs0
      have hv : v = .ref k := hv
      subst hv
      split at h
      · rename_i ho
        cases h
        exact jv_ifnonnull C hd (Int.toNat_of_nonneg ho).symm (kk _ List.mem_cons_self _ _ _ _ (ck_H_stk H hs))
      · cases h
    · rename_i K hK
      rw [hK] at hs
      have hs0 := hs
      clear hs
      obtain ⟨v, s2, rfl, hv, hs⟩ := ck_rs_cons hs0
      clear hs0
      have hv : v = .null := hv
      subst hv
      cases h
      exact jv_ifnonnullN C hd (kk _ List.mem_cons_self _ _ _ _ (ck_H_stk H hs))
    · cases h
  | tableswitch df lo hi offs =>
    exact ck_tab_ok C hd h kk H
  | getfield i =>
    have e : len = 3 := hl.resolve_left (fun q => nomatch q)
    subst e
    exact ck_gfd_ok C hAW hd h kk H
  | getstatic i =>
    have e : len = 3 := hl.resolve_left (fun q => nomatch q)
    subst e
    exact ck_gst_ok C hAW hd h kk H
  | i2c =>
    have e : len = 1 := hl.resolve_left (fun q => nomatch q)
    subst e
    obtain ⟨K, a, hf, x, st', rfl, hx, wa, hK⟩ := ck_un_ok h H
    exact jv_i2c C hd (ck_nwI hf kk H hK (ck_b2_ok (cn_c x).1 (cn_c x).2))
  | putfield i =>
    have e : len = 3 := hl.resolve_left (fun q => nomatch q)
    subst e
    have h : (match ck_ftl o i, S.2.2.2.1 with | some q, v :: .inr (.inl (some k)) :: K => ck_put q mods pc S K k v its | _, _ => none) = some (su, r) := h
    split at h
    · rename_i q a k K hq hK
      rw [hK] at hs
      have hs0 := hs
      clear hs
      obtain ⟨u, s2, rfl, hu, hs⟩ := ck_rs_cons hs0
      clear hs0
      have hs0 := hs
      clear hs
      obtain ⟨v, s3, rfl, hv, hs⟩ := ck_rs_cons hs0
      clear hs0
      have hv : v = .ref k := hv
      subst hv
      exact ck_put_ok C hAW (ck_ftl_ok hq) hd h kk H hu hs
    · cases h
  | baload =>
    have e : len = 1 := hl.resolve_left (fun q => nomatch q)
    subst e
    exact ck_bld_ok C hd h kk H
  | iaload =>
    have e : len = 1 := hl.resolve_left (fun q => nomatch q)
    subst e
    have h : (match S.2.2.2.1 with | .inl (.inl a) :: .inr (.inl (some k)) :: K => ck_ald 0 pc S K k a its | _ => none) = some (su, r) := h
    split at h
    · rename_i a k K hK
      rw [hK] at hs
      have hs0 := hs
      clear hs
      obtain ⟨u, s2, rfl, ⟨wa, x, rfl, hx⟩, hs⟩ := ck_rs_cons hs0
      clear hs0
      have hs0 := hs
      clear hs
      obtain ⟨v, s3, rfl, hv, hs⟩ := ck_rs_cons hs0
      clear hs0
      have hv : v = .ref k := hv
      subst hv
      exact ck_iald_ok C hd h kk H wa hx hs
    · cases h
  | laload =>
    have e : len = 1 := hl.resolve_left (fun q => nomatch q)
    subst e
    have h : (match S.2.2.2.1 with | .inl (.inl a) :: .inr (.inl (some k)) :: K => ck_ald 3 pc S K k a its | _ => none) = some (su, r) := h
    split at h
    · rename_i a k K hK
      rw [hK] at hs
      have hs0 := hs
      clear hs
      obtain ⟨u, s2, rfl, ⟨wa, x, rfl, hx⟩, hs⟩ := ck_rs_cons hs0
      clear hs0
      have hs0 := hs
      clear hs
      obtain ⟨v, s3, rfl, hv, hs⟩ := ck_rs_cons hs0
      clear hs0
      have hv : v = .ref k := hv
      subst hv
      exact ck_lald_ok C hd h kk H wa hx hs
    · cases h
  | iastore =>
    have e : len = 1 := hl.resolve_left (fun q => nomatch q)
    subst e
    have h : (match S.2.2.2.1 with | .inl (.inl v) :: .inl (.inl a) :: .inr (.inl (some k)) :: K => ck_ast 0 mods pc S K k a v its | _ => none) = some (su, r) := h
    split at h
    · rename_i b a k K hK
      rw [hK] at hs
      have hs0 := hs
      clear hs
      obtain ⟨u0, s1, rfl, ⟨wb, y, rfl, hy⟩, hs⟩ := ck_rs_cons hs0
      clear hs0
      have hs0 := hs
      clear hs
      obtain ⟨u, s2, rfl, ⟨wa, x, rfl, hx⟩, hs⟩ := ck_rs_cons hs0
      clear hs0
      have hs0 := hs
      clear hs
      obtain ⟨v, s3, rfl, hv, hs⟩ := ck_rs_cons hs0
      clear hs0
      have hv : v = .ref k := hv
      subst hv
      exact ck_iast_ok C hd h kk H wa wb hx hy hs
    · cases h
  | bastore =>
    have e : len = 1 := hl.resolve_left (fun q => nomatch q)
    subst e
    have h : (match S.2.2.2.1 with | .inl (.inl _) :: .inl (.inl a) :: .inr (.inl (some k)) :: K => ck_bst mods pc S K k a its | _ => none) = some (su, r) := h
    split at h
    · rename_i b a k K hK
      rw [hK] at hs
      have hs0 := hs
      clear hs
      obtain ⟨u0, s1, rfl, ⟨wb, y, rfl, hy⟩, hs⟩ := ck_rs_cons hs0
      clear hs0
      have hs0 := hs
      clear hs
      obtain ⟨u, s2, rfl, ⟨wa, x, rfl, hx⟩, hs⟩ := ck_rs_cons hs0
      clear hs0
      have hs0 := hs
      clear hs
      obtain ⟨v, s3, rfl, hv, hs⟩ := ck_rs_cons hs0
      clear hs0
      have hv : v = .ref k := hv
      subst hv
      exact ck_bast_ok C hd h kk H hx hs
    · cases h
  | lastore =>
    have e : len = 1 := hl.resolve_left (fun q => nomatch q)
    subst e
    have h : (match S.2.2.2.1 with | .inl (.inr v) :: .inl (.inl a) :: .inr (.inl (some k)) :: K => ck_ast 3 mods pc S K k a v its | _ => none) = some (su, r) := h
    split at h
    · rename_i b a k K hK
      rw [hK] at hs
      have hs0 := hs
      clear hs
      obtain ⟨u0, s1, rfl, ⟨wb, y, rfl, hy⟩, hs⟩ := ck_rs_cons hs0
      clear hs0
      have hs0 := hs
      clear hs
      obtain ⟨u, s2, rfl, ⟨wa, x, rfl, hx⟩, hs⟩ := ck_rs_cons hs0
      clear hs0
      have hs0 := hs
      clear hs
      obtain ⟨v, s3, rfl, hv, hs⟩ := ck_rs_cons hs0
      clear hs0
      have hv : v = .ref k := hv
      subst hv
      exact ck_last_ok C hd h kk H wa wb hx hy hs
    · cases h
  | aaload =>
    have e : len = 1 := hl.resolve_left (fun q => nomatch q)
    subst e
    exact ck_aal_ok C hd h kk H
  | arraylength =>
    have e : len = 1 := hl.resolve_left (fun q => nomatch q)
    subst e
    exact ck_aln_ok C hd h kk H
  | _ => exact nomatch (h : (none : ck_R) = some (su, r))
end CK10
