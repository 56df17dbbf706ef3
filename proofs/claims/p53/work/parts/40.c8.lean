/-! THE CHECKER 8: arrays, over the machine -/
section CK8
variable {l : Launch} {D : va_G} {kp : Nat → ClassId} {G : jv_G} {cs ss : Nat} {cc : ByteArray} {own : String} {Ts : List Cond} {rm : Room} {N : jv_N} {m0 : Nat} {σ0 : Nat → Int} {E0 : Nat → jv_E} {mods : List Nat}
variable {σ : Nat → Int} {S : ck_S} {E : Nat → jv_E} {lv : List (Nat × Value)} {st st' : List Value} {K : List ck_V} {its r : List ck_I} {su : List (Nat × ck_S)} {pc k : Nat}
theorem ck_vi {i : Int32} {z : Nat} (h : 0 ≤ i.toInt ∧ i.toInt < (z : Int)) : vp_in i z := vp_in_iff.mpr h
theorem ck_cnd_ok {idx : ck_L} {it : ck_I} {f : Nat} (h : ck_cnd S k idx it f = true) (H : ck_H m0 σ0 E0 mods σ S E lv st) : k = 67 ∧ 1 ≤ ck_loc (E 67) (ck_ev σ idx) := by
  unfold ck_cnd at h
  rw [Bool.and_eq_true, Bool.and_eq_true, Bool.and_eq_true, Bool.and_eq_true, Bool.and_eq_true] at h
  obtain ⟨⟨⟨hk, hlt⟩, hf⟩, ⟨c1, c2⟩, hor⟩ := h
  have hlt : f < 20 := Nat.lt_of_lt_of_le (Nat.lt_succ_self _) (Nat.le_of_ble_eq_true hlt)
  have hk : k = 67 := by simpa using hk
  have hf : f ∈ S.2.2.2.2.2 := by simpa using hf
  have hF := H.2.2.1.2.2.2.2.2 f hf
  have e1 := ck_ent_ok (ck_hF H) c1
  have e2 := ck_ent_ok (ck_hF H) c2
  rw [ck_ac_ev] at e1
  rw [ck_sub_ev, ck_c_ev] at e2
  refine ⟨hk, ?_⟩
  unfold ck_FL at hF
  rw [Bool.or_eq_true] at hor
  by_cases h10 : f < 10
  · rw [if_pos h10] at hF
    have em : (f : Int) % 10 = (f : Int) := by omega
    rw [em] at e1 e2 hor
    rcases hor with hb | hp
    · have := Nat.le_of_ble_eq_true hb; omega
    · split at hp
      · rename_i p hpp
        obtain ⟨⟨w1, w2⟩, p0, pl⟩ := H.2.2.1.2.2.2.2.1 p (List.mem_of_getElem? hpp)
        obtain ⟨hw, hv⟩ := Bool.and_eq_true_iff.mp hp
        have ev := ck_ent_ok (ck_hF H) hv
        rw [ck_ac_ev] at ev
        have hR : ∀ r : Int, 0 ≤ r → r < 6 → 1 ≤ ck_loc (E 67) (6 * (f : Int) + r) := by
          rcases hF with ⟨z1, z2⟩ | hR
          · exfalso
            rw [Bool.or_eq_true] at hw
            rcases hw with hw | hw
            · obtain ⟨q1, q2⟩ := Bool.and_eq_true_iff.mp hw
              have q1 : p.1 = 65 := by simpa using q1
              have q2 := of_decide_eq_true q2
              rw [q1, q2, ck_lk_c (by decide)] at pl
              have e3 : ck_ev σ ((f : Int), []) = (f : Int) := Int.add_zero _
              rw [e3, z1] at pl
              omega
            · obtain ⟨q1, q2⟩ := Bool.and_eq_true_iff.mp hw
              have q1 : p.1 = 70 := by simpa using q1
              have q2 := of_decide_eq_true q2
              rw [q1, q2, ck_lk_c (by decide)] at pl
              have e3 : ck_ev σ (2 * (f : Int) + 1, []) = 2 * (f : Int) + 1 := Int.add_zero _
              rw [e3, z2] at pl
              omega
          · exact hR
        have := hR (ck_ev σ idx - 6 * (f : Int)) (by omega) (by omega)
        rw [show 6 * (f : Int) + (ck_ev σ idx - 6 * (f : Int)) = ck_ev σ idx by omega] at this
        exact this
      · cases hp
  · rw [if_neg h10] at hF
    have em : (f : Int) % 10 = (f : Int) - 10 := by omega
    rw [em] at e1 e2
    have := hF (ck_ev σ idx - 6 * ((f : Int) - 10)) (by omega) (by omega)
    rw [show 6 * ((f : Int) - 10) + (ck_ev σ idx - 6 * ((f : Int) - 10)) = ck_ev σ idx by omega] at this
    exact this
theorem ck_ald_core {t : Nat} {idx : ck_L} (h : ck_ald t pc S K k idx its = some (su, r)) (H : ck_H m0 σ0 E0 mods σ S E lv st) : ∃ (a : Nat × Nat × List (Int × Int)) (b : Int × Int), ck_CT[k]? = some (.inr (.inl a)) ∧ (a.1 = t ∨ (t = 1 ∧ a.1 = 2)) ∧ 0 ≤ ck_ev σ idx ∧ ck_ev σ idx < (a.2.1 : Int) ∧ ck_ldn (t == 3) (pc + 1) S K k idx b its = some (su, r) ∧ ∀ z : Int, ck_loc (E k) (ck_ev σ idx) = z → (ck_bd a.2.2 (ck_ev σ idx).toNat).1 ≤ z ∧ z ≤ (ck_bd a.2.2 (ck_ev σ idx).toNat).2 → b.1 ≤ z ∧ z ≤ b.2 := by
  cases its with
  | nil => cases h
  | cons it r0 =>
    unfold ck_ald at h
    dsimp only at h
    split at h
    · rename_i a ha
      split at h
      · rename_i hc
        obtain ⟨ht, hc⟩ := hc
        obtain ⟨c1, c2⟩ := Bool.and_eq_true_iff.mp hc
        have e1 := ck_ent_ok (ck_hF H) c1
        have e2 := ck_ent_ok (ck_hF H) c2
        rw [ck_sub_ev, ck_c_ev] at e2
        have hbd := ck_abl_ok (σ := σ) (B := a.2.2) e1
        split at h
        · exact ⟨a, _, ha, ht, e1, by omega, h, fun z _ hz => by omega⟩
        · split at h
          · rename_i hcn
            obtain ⟨rfl, h1⟩ := ck_cnd_ok hcn H
            exact ⟨a, _, ha, ht, e1, by omega, h, fun z hl hz => ⟨by rw [← hl]; exact h1, by show z ≤ (ck_abl a.2.2 idx).2; omega⟩⟩
          · cases h
      · cases h
    · cases h
theorem ck_iald_ok {idx : ck_L} {x : Int32} (C : jv_C D vwCl kp G cc own Ts rm N) (hd : decode cc pc = .ok (.iaload, 1)) (h : ck_ald 0 pc S K k idx its = some (su, r)) (kk : ∀ q ∈ su, ck_Pr l D kp G cs ss m0 σ0 E0 mods q.1 q.2) (H : ck_H m0 σ0 E0 mods σ S E lv st) (hw : ck_w S.1 idx) (hx : x.toInt = ck_ev σ idx) (hK : ck_rs σ S.1 K st') : jv_V l D vwCl kp G cs ss 84 E pc lv (.int x :: .ref k :: st') := by
  obtain ⟨⟨t, z, B⟩, b, ha, ht, h0, h1, hl, hz⟩ := ck_ald_core h H
  have ht : t = 0 := ht.elim id (fun q => absurd q.1 (by decide))
  subst ht
  obtain ⟨g, he, hb⟩ := ((ck_okI (by decide)).mp (H.2.2.1.1 k _ ha))
  have e : ck_loc (E k) (ck_ev σ idx) = (g x.toNatClampNeg).toInt := by rw [he, cn_clamp, hx]; rfl
  refine jv_iald C (ck_k6 ha) he (ck_vi ⟨by omega, by rw [hx]; exact h1⟩) hd ?_
  exact ck_ldn_I (ck_k84 ha) hl kk H hK hw h0 e (hz _ e (by rw [cn_clamp, hx]; exact hb _ (by have : ck_ev σ idx < (z : Int) := h1; omega)))
theorem ck_bald_ok {idx : ck_L} {x : Int32} (C : jv_C D vwCl kp G cc own Ts rm N) (hd : decode cc pc = .ok (.baload, 1)) (h : ck_ald 1 pc S K k idx its = some (su, r)) (kk : ∀ q ∈ su, ck_Pr l D kp G cs ss m0 σ0 E0 mods q.1 q.2) (H : ck_H m0 σ0 E0 mods σ S E lv st) (hw : ck_w S.1 idx) (hx : x.toInt = ck_ev σ idx) (hK : ck_rs σ S.1 K st') : jv_V l D vwCl kp G cs ss 84 E pc lv (.int x :: .ref k :: st') := by
  obtain ⟨⟨t, z, B⟩, b, ha, ht, h0, h1, hl, hz⟩ := ck_ald_core h H
  have ht : t = 1 ∨ t = 2 := ht.imp id (fun q => q.2)
  rcases ht with ht | ht
  · subst ht
    obtain ⟨g, he, hb⟩ := ((ck_okI (by decide)).mp (H.2.2.1.1 k _ ha))
    have e : ck_loc (E k) (ck_ev σ idx) = (g x.toNatClampNeg).toInt := by rw [he, cn_clamp, hx]; rfl
    refine jv_bald C (ck_k6 ha) he (ck_vi ⟨by omega, by rw [hx]; exact h1⟩) hd ?_
    exact ck_ldn_I (ck_k84 ha) hl kk H hK hw h0 e (hz _ e (by rw [cn_clamp, hx]; exact hb _ (by have : ck_ev σ idx < (z : Int) := h1; omega)))
  · subst ht
    obtain ⟨g, he, hb⟩ := ((ck_okI (by decide)).mp (H.2.2.1.1 k _ ha))
    have e : ck_loc (E k) (ck_ev σ idx) = (g x.toNatClampNeg).toInt := by rw [he, cn_clamp, hx]; rfl
    refine jv_zald C (ck_k6 ha) he (ck_vi ⟨by omega, by rw [hx]; exact h1⟩) hd ?_
    exact ck_ldn_I (ck_k84 ha) hl kk H hK hw h0 e (hz _ e (by rw [cn_clamp, hx]; exact hb _ (by have : ck_ev σ idx < (z : Int) := h1; omega)))
theorem ck_lald_ok {idx : ck_L} {x : Int32} (C : jv_C D vwCl kp G cc own Ts rm N) (hd : decode cc pc = .ok (.laload, 1)) (h : ck_ald 3 pc S K k idx its = some (su, r)) (kk : ∀ q ∈ su, ck_Pr l D kp G cs ss m0 σ0 E0 mods q.1 q.2) (H : ck_H m0 σ0 E0 mods σ S E lv st) (hw : ck_w S.1 idx) (hx : x.toInt = ck_ev σ idx) (hK : ck_rs σ S.1 K st') : jv_V l D vwCl kp G cs ss 84 E pc lv (.int x :: .ref k :: st') := by
  obtain ⟨⟨t, z, B⟩, b, ha, ht, h0, h1, hl, hz⟩ := ck_ald_core h H
  have ht : t = 3 := ht.elim id (fun q => absurd q.1 (by decide))
  subst ht
  obtain ⟨g, he, hb⟩ := (ck_okJ.mp (H.2.2.1.1 k _ ha))
  have e : ck_loc (E k) (ck_ev σ idx) = (g x.toNatClampNeg).toInt := by rw [he, cn_clamp, hx]; rfl
  refine jv_lald C (ck_k6 ha) he (ck_vi ⟨by omega, by rw [hx]; exact h1⟩) hd ?_
  exact ck_ldn_J (ck_k84 ha) hl kk H hK hw h0 e (hz _ e (by rw [cn_clamp, hx]; exact hb _ (by have : ck_ev σ idx < (z : Int) := h1; omega)))
theorem ck_ast_core {t : Nat} {idx v : ck_L} (h : ck_ast t mods pc S K k idx v its = some (su, r)) (H : ck_H m0 σ0 E0 mods σ S E lv st) : ∃ (a : Nat × Nat × List (Int × Int)) (v1 : Bool), ck_CT[k]? = some (.inr (.inl a)) ∧ a.1 = t ∧ k ∈ mods ∧ 0 ≤ ck_ev σ idx ∧ ck_ev σ idx < (a.2.1 : Int) ∧ ((ck_bd a.2.2 (ck_ev σ idx).toNat).1 ≤ ck_ev σ v ∧ ck_ev σ v ≤ (ck_bd a.2.2 (ck_ev σ idx).toNat).2) ∧ (v1 = true → 1 ≤ ck_ev σ v) ∧ su = [(pc + 1, ck_wr S K k idx v (S.2.2.2.2.2.filter (ck_kpf S.2.2.2.2.2 k idx v1)))] := by
  cases its with
  | nil => cases h
  | cons it r0 =>
    unfold ck_ast at h
    dsimp only at h
    split at h
    · rename_i a ha
      split at h
      · rename_i hc
        obtain ⟨⟨ht, hm⟩, hc⟩ := hc
        obtain ⟨c1, c2⟩ := Bool.and_eq_true_iff.mp hc
        have e1 := ck_ent_ok (ck_hF H) c1
        have e2 := ck_ent_ok (ck_hF H) c2
        rw [ck_sub_ev, ck_c_ev] at e2
        split at h
        · rename_i b hb
          have hbd := ck_abd_ok (σ := σ) hb e1
          split at h
          · rename_i hv
            obtain ⟨c3, c4⟩ := Bool.and_eq_true_iff.mp hv
            have e3 := ck_ent_ok (ck_hF H) c3
            have e4 := ck_ent_ok (ck_hF H) c4
            rw [ck_ac_ev] at e3
            rw [ck_sub_ev, ck_c_ev] at e4
            cases h
            refine ⟨a, _, ha, ht, hm, e1, by omega, by rw [hbd]; omega, fun hv1 => ?_, rfl⟩
            have e5 := ck_ent_ok (ck_hF H) hv1
            rw [ck_ac_ev] at e5
            omega
          · cases h
        · cases h
      · cases h
    · cases h
theorem ck_loc_upd {t z n : Nat} {g : Nat → Int32} {x : Int32} {j : Int} (hj : 0 ≤ j) (hn : ¬ j = (n : Int)) : ck_loc (.inl (t, z, .inl (upd g n x))) j = ck_loc (.inl (t, z, .inl g)) j := by
  show (upd g n x j.toNat).toInt = (g j.toNat).toInt
  unfold upd
  rw [if_neg (by omega)]
theorem ck_loc_updL {t z n : Nat} {g : Nat → Int64} {x : Int64} {j : Int} (hj : 0 ≤ j) (hn : ¬ j = (n : Int)) : ck_loc (.inl (t, z, .inr (.inl (vp_updL g n x)))) j = ck_loc (.inl (t, z, .inr (.inl g))) j := by
  show (vp_updL g n x j.toNat).toInt = (g j.toNat).toInt
  unfold vp_updL
  rw [if_neg (by omega)]
theorem ck_iast_ok {idx v : ck_L} {x y : Int32} (C : jv_C D vwCl kp G cc own Ts rm N) (hd : decode cc pc = .ok (.iastore, 1)) (h : ck_ast 0 mods pc S K k idx v its = some (su, r)) (kk : ∀ q ∈ su, ck_Pr l D kp G cs ss m0 σ0 E0 mods q.1 q.2) (H : ck_H m0 σ0 E0 mods σ S E lv st) (hw : ck_w S.1 idx) (hwv : ck_w S.1 v) (hx : x.toInt = ck_ev σ idx) (hy : y.toInt = ck_ev σ v) (hK : ck_rs σ S.1 K st') : jv_V l D vwCl kp G cs ss 84 E pc lv (.int y :: .int x :: .ref k :: st') := by
  obtain ⟨⟨t, z, B⟩, v1, ha, ht, hm, h0, h1, hb, hv1, rfl⟩ := ck_ast_core h H
  have ht : t = 0 := ht
  subst ht
  obtain ⟨g, he, hbb⟩ := ((ck_okI (by decide)).mp (H.2.2.1.1 k _ ha))
  have en : ((x.toNatClampNeg : Nat) : Int) = ck_ev σ idx := by rw [cn_clamp, hx]; exact Int.toNat_of_nonneg h0
  have en2 : x.toNatClampNeg = (ck_ev σ idx).toNat := by rw [cn_clamp, hx]
  refine jv_iast C (ck_k6 ha) he (ck_vi ⟨by omega, by rw [hx]; exact h1⟩) hd ?_
  have l1 : ck_loc (.inl (0, z, .inl (upd g x.toNatClampNeg y))) (ck_ev σ idx) = ck_ev σ v := by
    show (upd g x.toNatClampNeg y (ck_ev σ idx).toNat).toInt = ck_ev σ v
    unfold upd
    rw [if_pos en2.symm, hy]
  have l2 : ∀ j, 0 ≤ j → ¬ j = ck_ev σ idx → ck_loc (.inl (0, z, .inl (upd g x.toNatClampNeg y))) j = ck_loc (E k) j := fun j j0 j1 => by
    rw [ck_loc_upd j0 (by rw [en]; exact j1), he]
  refine kk _ List.mem_cons_self _ _ _ _ (ck_H_wr H ha ?_ hm hK hw hwv h0 l1 l2 (ck_kpf_ok H.2.2.1.2.2.2.2.2 h0 hv1 l1 l2))
  refine (ck_okI (by decide)).mpr ⟨_, rfl, fun i hi => ?_⟩
  unfold upd
  by_cases hi2 : i = x.toNatClampNeg
  · rw [if_pos hi2, hy, hi2, en2]; exact hb
  · rw [if_neg hi2]; exact hbb i hi
theorem ck_last_ok {idx v : ck_L} {x : Int32} {y : Int64} (C : jv_C D vwCl kp G cc own Ts rm N) (hd : decode cc pc = .ok (.lastore, 1)) (h : ck_ast 3 mods pc S K k idx v its = some (su, r)) (kk : ∀ q ∈ su, ck_Pr l D kp G cs ss m0 σ0 E0 mods q.1 q.2) (H : ck_H m0 σ0 E0 mods σ S E lv st) (hw : ck_w S.1 idx) (hwv : ck_w S.1 v) (hx : x.toInt = ck_ev σ idx) (hy : y.toInt = ck_ev σ v) (hK : ck_rs σ S.1 K st') : jv_V l D vwCl kp G cs ss 84 E pc lv (.long y :: .int x :: .ref k :: st') := by
  obtain ⟨⟨t, z, B⟩, v1, ha, ht, hm, h0, h1, hb, hv1, rfl⟩ := ck_ast_core h H
  have ht : t = 3 := ht
  subst ht
  obtain ⟨g, he, hbb⟩ := (ck_okJ.mp (H.2.2.1.1 k _ ha))
  have en : ((x.toNatClampNeg : Nat) : Int) = ck_ev σ idx := by rw [cn_clamp, hx]; exact Int.toNat_of_nonneg h0
  have en2 : x.toNatClampNeg = (ck_ev σ idx).toNat := by rw [cn_clamp, hx]
  refine jv_last C (ck_k6 ha) he (ck_vi ⟨by omega, by rw [hx]; exact h1⟩) hd ?_
  have l1 : ck_loc (.inl (3, z, .inr (.inl (vp_updL g x.toNatClampNeg y)))) (ck_ev σ idx) = ck_ev σ v := by
    show (vp_updL g x.toNatClampNeg y (ck_ev σ idx).toNat).toInt = ck_ev σ v
    unfold vp_updL
    rw [if_pos en2.symm, hy]
  have l2 : ∀ j, 0 ≤ j → ¬ j = ck_ev σ idx → ck_loc (.inl (3, z, .inr (.inl (vp_updL g x.toNatClampNeg y)))) j = ck_loc (E k) j := fun j j0 j1 => by
    rw [ck_loc_updL j0 (by rw [en]; exact j1), he]
  refine kk _ List.mem_cons_self _ _ _ _ (ck_H_wr H ha ?_ hm hK hw hwv h0 l1 l2 (ck_kpf_ok H.2.2.1.2.2.2.2.2 h0 hv1 l1 l2))
  refine ck_okJ.mpr ⟨_, rfl, fun i hi => ?_⟩
  unfold vp_updL
  by_cases hi2 : i = x.toNatClampNeg
  · rw [if_pos hi2, hy, hi2, en2]; exact hb
  · rw [if_neg hi2]; exact hbb i hi
theorem ck_bast_ok {idx : ck_L} {x y : Int32} (C : jv_C D vwCl kp G cc own Ts rm N) (hd : decode cc pc = .ok (.bastore, 1)) (h : ck_bst mods pc S K k idx its = some (su, r)) (kk : ∀ q ∈ su, ck_Pr l D kp G cs ss m0 σ0 E0 mods q.1 q.2) (H : ck_H m0 σ0 E0 mods σ S E lv st) (hx : x.toInt = ck_ev σ idx) (hK : ck_rs σ S.1 K st') : jv_V l D vwCl kp G cs ss 84 E pc lv (.int y :: .int x :: .ref k :: st') := by
  cases its with
  | nil => cases h
  | cons it r0 =>
    unfold ck_bst at h
    dsimp only at h
    split at h
    · rename_i a ha
      obtain ⟨t, z, B⟩ := a
      split at h
      · rename_i hc
        obtain ⟨ht, ⟨hm, hdp⟩, hc⟩ := hc
        obtain ⟨c1, c2⟩ := Bool.and_eq_true_iff.mp hc
        have e1 := ck_ent_ok (ck_hF H) c1
        have e2 := ck_ent_ok (ck_hF H) c2
        rw [ck_sub_ev, ck_c_ev] at e2
        have e2 : 0 ≤ (z : Int) - 1 - ck_ev σ idx := e2
        cases h
        have fin : ∀ e' : jv_E, ck_okc (.inr (.inl (t, z, B))) e' → jv_V l D vwCl kp G cs ss 84 (va_up E k e') (pc + 1) lv st' := fun e' hok =>
          kk _ List.mem_cons_self _ _ _ _ ⟨H.1, H.2.1, ⟨ck_gi_up H.2.2.1.1 ha hok, H.2.2.1.2.1, H.2.2.1.2.2.1, hK, ck_gp_no H.2.2.1.2.2.2.2.1, ck_gf_up hdp H.2.2.1.2.2.2.2.2⟩, fun j hj => by
            have hjk : ¬ j = k := fun q => hj (by rw [q]; exact hm)
            rw [va_up_ne _ _ hjk]; exact H.2.2.2 j hj⟩
        have okI : ∀ (t : Nat) (g : Nat → Int32) (w : Int32) (lo hi : Int), ¬ t = 3 → (∀ i, i < z → lo ≤ (g i).toInt ∧ (g i).toInt ≤ hi) → lo ≤ w.toInt → w.toInt ≤ hi → ck_okc (.inr (.inl (t, z, [(lo, hi)]))) (.inl (t, z, .inl (upd g x.toNatClampNeg w))) := fun t g w lo hi ht hg h1 h2 => by
          refine (ck_okI ht).mpr ⟨_, rfl, fun i hi2 => ?_⟩
          have eb : ck_bd [(lo, hi)] i = (lo, hi) := by
            unfold ck_bd
            rw [show [(lo, hi)].length = 1 from rfl, Nat.mod_one]
            rfl
          rw [eb]
          unfold upd
          by_cases hi3 : i = x.toNatClampNeg
          · rw [if_pos hi3]; exact ⟨h1, h2⟩
          · rw [if_neg hi3]; exact hg i hi2
        have eb : ∀ (lo hi : Int) (i : Nat), ck_bd [(lo, hi)] i = (lo, hi) := fun lo hi i => by
          unfold ck_bd
          rw [show [(lo, hi)].length = 1 from rfl, Nat.mod_one]
          rfl
        rcases ht with ⟨ht, hB⟩ | ⟨ht, hB⟩
        · have ht : t = 1 := ht
          have hB : B = [(-128, 127)] := hB
          subst ht
          subst hB
          obtain ⟨g, he, hbb⟩ := ((ck_okI (by decide)).mp (H.2.2.1.1 k _ ha))
          refine jv_bast C (ck_k6 ha) he (ck_vi ⟨by omega, by omega⟩) hd (fin _ ?_)
          rw [vp_nar_byte]
          exact okI 1 g _ _ _ (by decide) (fun i hi => by have := hbb i hi; rw [eb] at this; exact this) (cn_b y).1 (cn_b y).2
        · have ht : t = 2 := ht
          have hB : B = [(0, 1)] := hB
          subst ht
          subst hB
          obtain ⟨g, he, hbb⟩ := ((ck_okI (by decide)).mp (H.2.2.1.1 k _ ha))
          refine jv_zast C (ck_k6 ha) he (ck_vi ⟨by omega, by omega⟩) hd (fin _ ?_)
          have t1 := cn_and (x := y) (y := 1) (by decide)
          have e1 : (1 : Int32).toInt = 1 := rfl
          rw [e1] at t1
          exact okI 2 g (y &&& 1) _ _ (by decide) (fun i hi => by have := hbb i hi; rw [eb] at this; exact this) t1.1 t1.2
      · cases h
    · cases h
end CK8
