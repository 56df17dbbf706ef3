/-! THE CHECKER 7: cells read and written, over the machine -/
section CK7
variable {l : Launch} {D : va_G} {kp : Nat → ClassId} {G : jv_G} {cs ss : Nat} {cc : ByteArray} {own : String} {Ts : List Cond} {rm : Room} {N : jv_N} {m0 : Nat} {σ0 : Nat → Int} {E0 : Nat → jv_E} {mods : List Nat}
variable {σ : Nat → Int} {S : ck_S} {E : Nat → jv_E} {lv : List (Nat × Value)} {st st' : List Value} {K : List ck_V} {its r : List ck_I} {su : List (Nat × ck_S)} {pc k index : Nat}
theorem ck_k84 {c : ck_C} (h : ck_CT[k]? = some c) : k < 84 := by
  have h1 : k < ck_CT.length := (List.getElem?_eq_some_iff.mp h).1
  have h2 : ck_CT.length = 84 := by decide +kernel
  omega
theorem ck_k6 {c : ck_C} (h : ck_CT[k]? = some c) : k < 1000000 := by
  have h1 : k < ck_CT.length := (List.getElem?_eq_some_iff.mp h).1
  have h2 : ck_CT.length = 84 := by decide +kernel
  omega
theorem ck_ldn_I {idx : ck_L} {b : Int × Int} {z : Int32} (hk84 : k < 84) (h : ck_ldn false pc S K k idx b its = some (su, r)) (kk : ∀ q ∈ su, ck_Pr l D kp G cs ss m0 σ0 E0 mods q.1 q.2) (H : ck_H m0 σ0 E0 mods σ S E lv st) (hK : ck_rs σ S.1 K st') (hw : ck_w S.1 idx) (h0 : 0 ≤ ck_ev σ idx) (hl : ck_loc (E k) (ck_ev σ idx) = z.toInt) (hb : b.1 ≤ z.toInt ∧ z.toInt ≤ b.2) : jv_V l D vwCl kp G cs ss 84 E pc lv (.int z :: st') := by
  cases its with
  | nil => cases h
  | cons it r0 =>
    unfold ck_ldn at h
    dsimp only at h
    split at h
    · cases h
      refine kk _ List.mem_cons_self _ _ _ _ (ck_H_frs (z := z.toInt) H (ck_b2_ok hb.1 hb.2) ⟨⟨ck_wx, z, rfl, ck_up_x.symm⟩, ck_up_K hK⟩ (ck_1 ⟨⟨ck_wu hw, ck_wx⟩, ?_, ?_⟩))
      · show 0 ≤ ck_ev (va_up σ S.1 z.toInt) idx
        rw [ck_up_a hw]; exact h0
      · show ck_lk E k (ck_ev (va_up σ S.1 z.toInt) idx) = ck_ev (va_up σ S.1 z.toInt) (ck_x S.1)
        rw [ck_lk_c hk84, ck_up_a hw, ck_up_x]; exact hl
    · split at h
      · rename_i p hp
        split at h
        · rename_i hc
          obtain ⟨rfl, rfl⟩ := hc
          cases h
          obtain ⟨⟨w1, w2⟩, p0, pl⟩ := H.2.2.1.2.2.2.2.1 p (List.mem_of_getElem? hp)
          rw [ck_lk_c hk84] at pl
          exact kk _ List.mem_cons_self _ _ _ _ (ck_H_stk H ⟨⟨w2, z, rfl, hl.symm.trans pl⟩, hK⟩)
        · cases h
      · cases h
theorem ck_ldn_J {idx : ck_L} {b : Int × Int} {z : Int64} (hk84 : k < 84) (h : ck_ldn true pc S K k idx b its = some (su, r)) (kk : ∀ q ∈ su, ck_Pr l D kp G cs ss m0 σ0 E0 mods q.1 q.2) (H : ck_H m0 σ0 E0 mods σ S E lv st) (hK : ck_rs σ S.1 K st') (hw : ck_w S.1 idx) (h0 : 0 ≤ ck_ev σ idx) (hl : ck_loc (E k) (ck_ev σ idx) = z.toInt) (hb : b.1 ≤ z.toInt ∧ z.toInt ≤ b.2) : jv_V l D vwCl kp G cs ss 84 E pc lv (.long z :: st') := by
  cases its with
  | nil => cases h
  | cons it r0 =>
    unfold ck_ldn at h
    dsimp only at h
    split at h
    · cases h
      refine kk _ List.mem_cons_self _ _ _ _ (ck_H_frs (z := z.toInt) H (ck_b2_ok hb.1 hb.2) ⟨⟨ck_wx, z, rfl, ck_up_x.symm⟩, ck_up_K hK⟩ (ck_1 ⟨⟨ck_wu hw, ck_wx⟩, ?_, ?_⟩))
      · show 0 ≤ ck_ev (va_up σ S.1 z.toInt) idx
        rw [ck_up_a hw]; exact h0
      · show ck_lk E k (ck_ev (va_up σ S.1 z.toInt) idx) = ck_ev (va_up σ S.1 z.toInt) (ck_x S.1)
        rw [ck_lk_c hk84, ck_up_a hw, ck_up_x]; exact hl
    · split at h
      · rename_i p hp
        split at h
        · rename_i hc
          obtain ⟨rfl, rfl⟩ := hc
          cases h
          obtain ⟨⟨w1, w2⟩, p0, pl⟩ := H.2.2.1.2.2.2.2.1 p (List.mem_of_getElem? hp)
          rw [ck_lk_c hk84] at pl
          exact kk _ List.mem_cons_self _ _ _ _ (ck_H_stk H ⟨⟨w2, z, rfl, hl.symm.trans pl⟩, hK⟩)
        · cases h
      · cases h
theorem ck_get_ok {q : Nat × Nat × Nat} {o : Nat} (C : jv_C D vwCl kp G cc (ck_nm o) Ts rm N) (hAW : ∀ w ∈ ck_AW, w ∈ Ts) (hq : ck_fok (o, index, q)) (hd : decode cc pc = .ok (.getfield index, 3)) (h : ck_get q pc S K k its = some (su, r)) (kk : ∀ q ∈ su, ck_Pr l D kp G cs ss m0 σ0 E0 mods q.1 q.2) (H : ck_H m0 σ0 E0 mods σ S E lv st) (hK : ck_rs σ S.1 K st') : jv_V l D vwCl kp G cs ss 84 E pc lv (.ref k :: st') := by
  obtain ⟨C0, T, M, hc, hin, hfk, hw, -⟩ := hq
  unfold ck_get at h
  split at h
  · rename_i ob hob
    obtain ⟨fs, he, hl⟩ := H.2.2.1.1 k _ hob
    split at h
    · rename_i hci
      rw [hci] at he
      have go : ∀ v, fs[q.2.1]? = some v → jv_V l D vwCl kp G cs ss 84 E (pc + 3) lv (v :: st') → jv_V l D vwCl kp G cs ss 84 E pc lv (.ref k :: st') := fun v hv k9 =>
        jv_getf (fk := q.2.1) C (ck_k6 hob) he hc (fun w h9 => hAW w (hin w h9)) hfk (hAW _ hw) rfl hv hd k9
      split at h
      · rename_i b hb
        obtain ⟨v, hv, x, rfl, hx⟩ := ck_okl_get hl hb
        exact go _ hv (ck_ldn_I (ck_k84 hob) h kk H hK ck_w_c (by rw [ck_c_ev]; exact Int.natCast_nonneg _) (by rw [ck_c_ev, he]; exact ck_loc_gI hv) hx)
      · rename_i b hb
        obtain ⟨v, hv, x, rfl, hx⟩ := ck_okl_get hl hb
        exact go _ hv (ck_ldn_J (ck_k84 hob) h kk H hK ck_w_c (by rw [ck_c_ev]; exact Int.natCast_nonneg _) (by rw [ck_c_ev, he]; exact ck_loc_gJ hv) hx)
      · rename_i x hb
        obtain ⟨v, hv, hx⟩ := ck_okl_get hl hb
        have hx : v = .ref x := hx
        subst hx
        cases h
        exact go _ hv (kk _ List.mem_cons_self _ _ _ _ (ck_H_stk H ⟨rfl, hK⟩))
      · cases h
    · cases h
  · cases h
theorem ck_H_wr {e' : jv_E} {c : ck_C} {idx a : ck_L} {Φ : List Nat} (H : ck_H m0 σ0 E0 mods σ S E lv st) (hc : ck_CT[k]? = some c) (hok : ck_okc c e') (hm : k ∈ mods) (hK : ck_rs σ S.1 K st') (hi : ck_w S.1 idx) (ha : ck_w S.1 a) (h0 : 0 ≤ ck_ev σ idx) (h1 : ck_loc e' (ck_ev σ idx) = ck_ev σ a) (h2 : ∀ j, 0 ≤ j → ¬ j = ck_ev σ idx → ck_loc e' j = ck_loc (E k) j) (hΦ : ck_gf Φ (va_up E k e')) : ck_H m0 σ0 E0 mods σ (ck_wr S K k idx a Φ) (va_up E k e') lv st' :=
  ⟨H.1, H.2.1, ⟨ck_gi_up H.2.2.1.1 hc hok, H.2.2.1.2.1, H.2.2.1.2.2.1, hK, ck_gp_wr (ck_k84 hc) H.2.2.1.2.2.2.2.1 hi ha h0 h1 h2, hΦ⟩, fun j hj => by
    have hjk : ¬ j = k := fun q => hj (by rw [q]; exact hm)
    rw [va_up_ne _ _ hjk]; exact H.2.2.2 j hj⟩
theorem ck_bool1 {x : Int32} (h0 : 0 ≤ x.toInt) (h1 : x.toInt ≤ 1) : narrow .boolean (.int x) = .int x ∧ fits .boolean (.int x) = true := by
  have : x = 0 ∨ x = 1 := by
    have h2 : x.toInt = 0 ∨ x.toInt = 1 := by omega
    rcases h2 with h | h
    · exact Or.inl (Int32.toInt_inj.mp (by rw [h]; rfl))
    · exact Or.inr (Int32.toInt_inj.mp (by rw [h]; rfl))
  rcases this with rfl | rfl
  · exact ⟨rfl, rfl⟩
  · exact ⟨rfl, rfl⟩
theorem ck_put_ok {q : Nat × Nat × Nat} {o : Nat} {a : ck_V} {v : Value} (C : jv_C D vwCl kp G cc (ck_nm o) Ts rm N) (hAW : ∀ w ∈ ck_AW, w ∈ Ts) (hq : ck_fok (o, index, q)) (hd : decode cc pc = .ok (.putfield index, 3)) (h : ck_put q mods pc S K k a its = some (su, r)) (kk : ∀ q ∈ su, ck_Pr l D kp G cs ss m0 σ0 E0 mods q.1 q.2) (H : ck_H m0 σ0 E0 mods σ S E lv st) (hv : ck_gv σ S.1 a v) (hK : ck_rs σ S.1 K st') : jv_V l D vwCl kp G cs ss 84 E pc lv (v :: .ref k :: st') := by
  obtain ⟨C0, T, M, hc, hin, hfk, hw, ⟨ty0, hty, hnm⟩, hI, hZ, hJ⟩ := hq
  cases its with
  | nil => cases h
  | cons it r0 =>
  unfold ck_put at h
  dsimp only at h
  split at h
  · rename_i ob hob
    obtain ⟨fs, he, hl⟩ := H.2.2.1.1 k _ hob
    split at h
    · rename_i hcc
      obtain ⟨hci, hmo, hdp⟩ := hcc
      rw [hci] at he
      have go : ∀ (v : Value) (ty : FieldType), (T q.2.1).2.2.2 = false → parseFieldDescriptor (T q.2.1).2.2.1 = some ty → (∀ f, narrow ty (jv_v f v) = jv_v f v) → (∀ f, fits ty (jv_v f v) = true) → q.2.1 < fs.length → jv_V l D vwCl kp G cs ss 84 (va_up E k (.inr (q.1, fs.set q.2.1 v))) (pc + 3) lv st' → jv_V l D vwCl kp G cs ss 84 E pc lv (v :: .ref k :: st') := fun v ty g1 g2 g3 g4 g5 k9 =>
        jv_putf (fk := q.2.1) (ty := ty) C (ck_k6 hob) he hc (fun w h9 => hAW w (hin w h9)) ty0 hty hnm hfk (hAW _ hw) rfl g1 g2 g3 g4 g5 hd rfl k9
      split at h
      · rename_i b a hb
        split at h
        · rename_i hz
          obtain ⟨hz, hz2⟩ := hz
          obtain ⟨c1, c2⟩ := Bool.and_eq_true_iff.mp hz2
          have e1 := ck_ent_ok (ck_hF H) c1
          have e2 := ck_ent_ok (ck_hF H) c2
          rw [ck_ac_ev] at e1
          rw [ck_sub_ev, ck_c_ev] at e2
          obtain ⟨w9, x, rfl, hx⟩ := hv
          have hlen : q.2.1 < fs.length := by rw [ck_okl_len hl]; exact (List.getElem?_eq_some_iff.mp hb).1
          cases h
          have fin : jv_V l D vwCl kp G cs ss 84 (va_up E k (.inr (q.1, fs.set q.2.1 (.int x)))) (pc + 3) lv st' := by
            refine kk _ List.mem_cons_self _ _ _ _ (ck_H_wr (c := .inl ob) H hob ?_ hmo hK ck_w_c w9 (by rw [ck_c_ev]; exact Int.natCast_nonneg _) ?_ ?_ (ck_gf_up hdp H.2.2.1.2.2.2.2.2))
            · exact ⟨_, by rw [hci], ck_okl_set hl hb ⟨x, rfl, by omega, by omega⟩⟩
            · rw [ck_c_ev, ck_loc_oI hlen, hx]
            · intro j j0 j1
              rw [ck_c_ev] at j1
              rw [ck_loc_obj j0 j1, he]
          rcases hz with hz | ⟨hz, hb01⟩
          · exact go _ .int (hI hz).1 (hI hz).2 (fun _ => rfl) (fun _ => rfl) hlen fin
          · subst hb01
            have hbl := ck_bool1 (x := x) (by have : (0 : Int) = ((0, 1) : Int × Int).1 := rfl; omega) (by have : (1 : Int) = ((0, 1) : Int × Int).2 := rfl; omega)
            exact go _ .boolean (hZ hz).1 (hZ hz).2 (fun _ => hbl.1) (fun _ => hbl.2) hlen fin
        · cases h
      · rename_i b a hb
        split at h
        · rename_i hz
          obtain ⟨hz, hz2⟩ := hz
          obtain ⟨c1, c2⟩ := Bool.and_eq_true_iff.mp hz2
          have e1 := ck_ent_ok (ck_hF H) c1
          have e2 := ck_ent_ok (ck_hF H) c2
          rw [ck_ac_ev] at e1
          rw [ck_sub_ev, ck_c_ev] at e2
          obtain ⟨w9, x, rfl, hx⟩ := hv
          have hlen : q.2.1 < fs.length := by rw [ck_okl_len hl]; exact (List.getElem?_eq_some_iff.mp hb).1
          cases h
          refine go _ .long (hJ hz).1 (hJ hz).2 (fun _ => rfl) (fun _ => rfl) hlen ?_
          refine kk _ List.mem_cons_self _ _ _ _ (ck_H_wr (c := .inl ob) H hob ?_ hmo hK ck_w_c w9 (by rw [ck_c_ev]; exact Int.natCast_nonneg _) ?_ ?_ (ck_gf_up hdp H.2.2.1.2.2.2.2.2))
          · exact ⟨_, by rw [hci], ck_okl_set hl hb ⟨x, rfl, by omega, by omega⟩⟩
          · rw [ck_c_ev, ck_loc_oJ hlen, hx]
          · intro j j0 j1
            rw [ck_c_ev] at j1
            rw [ck_loc_obj j0 j1, he]
        · cases h
      · cases h
    · cases h
  · cases h
end CK7
