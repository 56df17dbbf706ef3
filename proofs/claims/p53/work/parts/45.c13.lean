/-! THE CHECKER 13: what a good check gives -/
theorem jv_lvs {l : Launch} {D : va_G} {cl : List vw_C} {kp : Nat → ClassId} {G : jv_G} {cs ss n : Nat} {E : Nat → jv_E} {pc : Nat} {lv lv2 : List (Nat × Value)} {st : List Value} (h : ∀ q ∈ lv2, q ∈ lv) (k : jv_V l D cl kp G cs ss n E pc lv2 st) : jv_V l D cl kp G cs ss n E pc lv st := by
  obtain ⟨p, e, R, s, m, args, below, meth, c, A, nL, n0, f0, Q⟩ := G
  intro f H locs ls hP hD hS hE hL hs hn hf hl
  exact k f H locs ls hP hD hS hE (fun q hq => hL q (h q hq)) hs hn hf ⟨hl.1, hl.2.1, fun q hq => by
    obtain ⟨q0, h0, rfl⟩ := List.mem_map.mp hq
    exact hl.2.2 _ (List.mem_map.mpr ⟨q0, h q0 h0, rfl⟩)⟩
def ck_lx : List Nat → List Nat → Prop
  | a :: s, b :: t => a < b ∨ (a ≤ b ∧ ck_lx s t)
  | _, _ => False
theorem ck_acc : ∀ (N : Nat) (P : List Nat → Prop), (∀ x, x.length = N → (∀ y, y.length = N → ck_lx y x → P y) → P x) → ∀ x, x.length = N → P x
  | 0, P, h, x, hx => h x hx (fun y hy hl => by
      have e1 := List.eq_nil_of_length_eq_zero hx
      have e2 := List.eq_nil_of_length_eq_zero hy
      subst e1
      subst e2
      exact absurd hl (fun h => h))
  | N + 1, P, h, x, hx => by
    have key : ∀ (a : Nat) (s : List Nat), s.length = N → P (a :: s) := by
      intro a
      induction a using Nat.strongRecOn with
      | _ a iha =>
        refine ck_acc N (fun s => P (a :: s)) (fun s hs ih => ?_)
        refine h (a :: s) (by rw [List.length_cons, hs]) (fun y hy hl => ?_)
        cases y with
        | nil => exact absurd hl (fun h => h)
        | cons b t =>
          have ht : t.length = N := by rw [List.length_cons] at hy; omega
          rcases hl with hl | ⟨hl, hl2⟩
          · exact iha b hl t ht
          · by_cases hb : b = a
            · subst hb; exact ih t ht hl2
            · exact iha b (by omega) t ht
    cases x with
    | nil => cases hx
    | cons a s => exact key a s (by rw [List.length_cons] at hx; omega)
section CK13
variable {l : Launch} {D : va_G} {kp : Nat → ClassId} {G : jv_G} {cs ss : Nat} {cc : ByteArray} {m0 : Nat} {σ0 : Nat → Int} {E0 : Nat → jv_E}
variable {σ : Nat → Int} {S : ck_S} {E : Nat → jv_E} {lv : List (Nat × Value)} {st : List Value} {its r : List ck_I} {su : List (Nat × ck_S)} {pc n : Nat}
theorem ck_rkc_ok {F : List ck_L} (h : ck_hs σ F) : ∀ (p : Nat) (R T : List ck_L) (cs : List ck_K), ck_rkc F p R T cs = true → ck_lx (T.map fun a => (ck_ev σ a).toNat) (R.map fun a => (ck_ev σ a).toNat)
  | 0, a :: s, b :: t, c :: d :: cs, hc => by
    obtain ⟨c1, c2⟩ := Bool.and_eq_true_iff.mp hc
    have e1 := ck_ent_ok h c1
    have e2 := ck_ent_ok h c2
    rw [ck_ac_ev, ck_sub_ev] at e1
    rw [ck_ac_ev] at e2
    exact Or.inl (by show (ck_ev σ b).toNat < (ck_ev σ a).toNat; omega)
  | p + 1, a :: s, b :: t, c :: cs, hc => by
    obtain ⟨c1, c2⟩ := Bool.and_eq_true_iff.mp hc
    have e1 := ck_ent_ok h c1
    rw [ck_sub_ev] at e1
    exact Or.inr ⟨by show (ck_ev σ b).toNat ≤ (ck_ev σ a).toNat; omega, ck_rkc_ok h p s t cs c2⟩
  | 0, [], _, _, hc => by cases hc
  | 0, _ :: _, [], _, hc => by cases hc
  | 0, _ :: _, _ :: _, [], hc => by cases hc
  | 0, _ :: _, _ :: _, [_], hc => by cases hc
  | _ + 1, [], _, _, hc => by cases hc
  | _ + 1, _ :: _, [], _, hc => by cases hc
  | _ + 1, _ :: _, _ :: _, [], hc => by cases hc
theorem ck_fi_mem {i : Nat} {a : ck_V} (hr : ck_rl σ n S.2.2.1 lv) (h : ck_fi i S.2.2.1 = some a) : ∃ v, (i, v) ∈ lv ∧ ck_gv σ n a v := by
  obtain ⟨j, v, h1, h2⟩ := ck_fi_ok hr h
  exact ⟨v, List.mem_of_getElem? h1, h2⟩
theorem ck_lo_ok {τ : List ck_L} {m : Nat} (hr : ck_rl σ n S.2.2.1 lv) : ∀ (L : List (Nat × ck_V)), L.all (ck_loO τ S.2.2.1) = true → L.all (fun q => ck_wbV m q.2) = true → ∃ lv2, (∀ q ∈ lv2, q ∈ lv) ∧ ck_rl (ck_tv σ τ) m L lv2
  | [], _, _ => ⟨[], fun q hq => absurd hq List.not_mem_nil, trivial⟩
  | q :: L, h, hw => by
    rw [List.all_cons, Bool.and_eq_true_iff] at h hw
    obtain ⟨lv2, h1, h2⟩ := ck_lo_ok hr L h.2 hw.2
    have h0 := h.1
    unfold ck_loO at h0
    split at h0
    · rename_i a ha
      obtain ⟨v, hv, hg⟩ := ck_fi_mem hr ha
      have e := ck_eqV_ok h0
      subst e
      refine ⟨(q.1, v) :: lv2, fun p hp => ?_, rfl, ck_gv_in hw.1 hg, h2⟩
      rcases List.mem_cons.mp hp with rfl | hp
      · exact hv
      · exact h1 p hp
    · cases h0
theorem ck_idn_ok {τ : List ck_L} {m : Nat} (h : τ.take m = ck_idn m) : ck_ag m σ (ck_tv σ τ) := fun i hi => by
  show ck_ev σ (ck_at τ i) = σ i
  unfold ck_at
  rw [List.getD_eq_getElem?_getD]
  have h1 : (τ.take m)[i]? = τ[i]? := List.getElem?_take_of_lt hi
  rw [← h1, h]
  unfold ck_idn
  rw [List.getElem?_map, List.getElem?_range hi]
  exact ck_x_ev i
theorem ck_pin_in {τ : List ck_L} {m : Nat} {P Q : List ck_P} (hQ : ck_gp σ n Q E) (h : P.all (fun p => Q.contains (ck_sbP τ p)) = true) (hw : P.all (fun p => ck_wb m p.2.1 && ck_wb m p.2.2) = true) : ck_gp (ck_tv σ τ) m P E := fun p hp => by
  have h1 := List.all_eq_true.mp h p hp
  have h2 := List.all_eq_true.mp hw p hp
  obtain ⟨w1, w2⟩ := Bool.and_eq_true_iff.mp h2
  have h3 : ck_sbP τ p ∈ Q := by simpa using h1
  obtain ⟨-, q1, q2⟩ := hQ _ h3
  have e1 : ck_ev σ (ck_sbP τ p).2.1 = ck_ev (ck_tv σ τ) p.2.1 := ck_sb_ev τ p.2.1
  have e2 : ck_ev σ (ck_sbP τ p).2.2 = ck_ev (ck_tv σ τ) p.2.2 := ck_sb_ev τ p.2.2
  rw [e1] at q1 q2
  rw [e2] at q2
  exact ⟨⟨ck_wb_ok w1, ck_wb_ok w2⟩, q1, q2⟩
theorem ck_fac_in {τ : List ck_L} {F Q : List ck_L} {cs : List ck_K} (hQ : ck_hs σ Q) (h : ck_ents Q (F.map (ck_sb τ)) cs = true) : ck_hs (ck_tv σ τ) F := fun f hf => by
  have := ck_ents_ok hQ h (ck_sb τ f) (List.mem_map.mpr ⟨f, hf, rfl⟩)
  rw [ck_sb_ev] at this
  exact this
theorem ck_end_ok {e : ck_N} {v : Option ck_V} {it : ck_I} {rv : Option Value} {σe : Nat → Int} (h : ck_end e S v it = true) (H : ck_H m0 σ0 E0 e.2.2.2.1 σ S E lv st) (hm : e.2.1.1 ≤ m0) (he : ck_ag e.2.1.1 σe σ0) (hv : ck_gr σ S.1 v rv) : ck_post e σe E0 rv 84 E := by
  unfold ck_end at h
  split at h
  · cases h
  · rename_i x hx
    obtain ⟨h1, h2⟩ := Bool.and_eq_true_iff.mp h
    obtain ⟨hlen, hid, hle, hvx⟩ := of_decide_eq_true h1
    have hvx := ck_eqO_ok hvx
    simp only [Bool.and_eq_true_iff] at h2
    obtain ⟨⟨⟨⟨⟨hw, hrw⟩, hf⟩, hfw⟩, hp⟩, hfl⟩ := h2
    have hag := ck_idn_ok (σ := σ) hid
    refine ⟨rfl, H.2.2.1.1, H.2.2.2, x, List.mem_of_getElem? hx, ck_tv σ it.2.2, ck_ag_tr (ck_ag_tr he (ck_ag_le hm H.2.1)) hag, ck_fac_in (ck_hF H) hf, fun f h9 => ck_wb_ok (List.all_eq_true.mp hfw f h9), ?_, ?_, fun f h9 => ?_⟩
    · subst hvx
      cases hxr : x.2.2.1 with
      | none =>
        rw [hxr] at hv
        cases rv with
        | none => trivial
        | some w => exact hv
      | some a =>
        rw [hxr] at hv hrw
        cases rv with
        | none => exact hv
        | some w => exact ck_gv_in hrw hv
    · refine ck_pin_in H.2.2.1.2.2.2.2.1 ?_ ?_
      · exact List.all_eq_true.mpr (fun p h9 => (Bool.and_eq_true_iff.mp (List.all_eq_true.mp hp p h9)).1)
      · exact List.all_eq_true.mpr (fun p h9 => (Bool.and_eq_true_iff.mp (List.all_eq_true.mp hp p h9)).2)
    · exact H.2.2.1.2.2.2.2.2 f (by simpa using List.all_eq_true.mp hfl f h9)
theorem ck_ret_ok {e : ck_N} {ins : Instr} {σe : Nat → Int} {Ts : List Cond} {rm : Room} {N : jv_N} (C : jv_C D vwCl kp G cc (ck_nm (ck_mo e.1)) Ts rm N) (B : jv_R D vwCl kp G E0 (ck_mr e.1) 0 0 (ck_post e σe E0)) (hd : decode cc pc = .ok (ins, 1)) (h98 : ¬ e.1 = 9998) (h : ck_ret e ins S its = some r) (H : ck_H m0 σ0 E0 e.2.2.2.1 σ S E lv st) (hm : e.2.1.1 ≤ m0) (he : ck_ag e.2.1.1 σe σ0) : jv_V l D vwCl kp G 0 0 84 E pc lv st := by
  have hs := ck_hS H
  unfold ck_ret at h
  rw [if_neg h98] at h
  split at h
  · rename_i a it r0 hK
    rw [hK] at hs
    have hs0 := hs
    clear hs
    obtain ⟨v, s2, rfl, hv, hs⟩ := ck_rs_cons hs0
    clear hs0
    have e2 := ck_rs_nil hs
    subst e2
    have hv0 := hv
    obtain ⟨w, x, rfl, hx⟩ := hv
    split at h
    · rename_i hr
      split at h
      · rename_i hc
        rw [hr] at B
        exact jv_iret C B (ck_end_ok hc H hm he (show ck_gr σ S.1 (some (.inl (.inl a))) (some (.int x)) from hv0)) ⟨Nat.le_refl _, Nat.le_refl _⟩ hd
      · cases h
    · rename_i hr
      split at h
      · rename_i hc
        obtain ⟨hc, hb⟩ := Bool.and_eq_true_iff.mp hc
        obtain ⟨c1, c2⟩ := Bool.and_eq_true_iff.mp hb
        have e1 := ck_ent_ok (ck_hF H) c1
        have e2 := ck_ent_ok (ck_hF H) c2
        rw [ck_ac_ev] at e1
        rw [ck_sub_ev, ck_c_ev] at e2
        rw [hr] at B
        exact jv_zret C B (cn_nb (by omega) (by omega)) (ck_end_ok hc H hm he (show ck_gr σ S.1 (some (.inl (.inl a))) (some (.int x)) from hv0)) ⟨Nat.le_refl _, Nat.le_refl _⟩ hd
      · cases h
    · rename_i hr
      split at h
      · rename_i hc
        obtain ⟨hc, hb⟩ := Bool.and_eq_true_iff.mp hc
        obtain ⟨c1, c2⟩ := Bool.and_eq_true_iff.mp hb
        have e1 := ck_ent_ok (ck_hF H) c1
        have e2 := ck_ent_ok (ck_hF H) c2
        rw [ck_sub_ev, ck_c_ev] at e2
        rw [hr] at B
        exact jv_zret C B (cn_nc (by omega) (by omega)) (ck_end_ok hc H hm he (show ck_gr σ S.1 (some (.inl (.inl a))) (some (.int x)) from hv0)) ⟨Nat.le_refl _, Nat.le_refl _⟩ hd
      · cases h
    · rename_i hr
      split at h
      · rename_i hc
        obtain ⟨hc, hb⟩ := Bool.and_eq_true_iff.mp hc
        obtain ⟨c1, c2⟩ := Bool.and_eq_true_iff.mp hb
        have e1 := ck_ent_ok (ck_hF H) c1
        have e2 := ck_ent_ok (ck_hF H) c2
        rw [ck_sub_ev, ck_c_ev] at e2
        rw [hr] at B
        exact jv_zret C B (ck_bool1 (by omega) (by omega)).1 (ck_end_ok hc H hm he (show ck_gr σ S.1 (some (.inl (.inl a))) (some (.int x)) from hv0)) ⟨Nat.le_refl _, Nat.le_refl _⟩ hd
      · cases h
    · cases h
  · rename_i a it r0 hK
    rw [hK] at hs
    have hs0 := hs
    clear hs
    obtain ⟨v, s2, rfl, hv, hs⟩ := ck_rs_cons hs0
    clear hs0
    have e2 := ck_rs_nil hs
    subst e2
    have hv0 := hv
    obtain ⟨w, x, rfl, hx⟩ := hv
    split at h
    · rename_i hr
      split at h
      · rename_i hc
        rw [hr] at B
        exact jv_lret C B (ck_end_ok hc H hm he (show ck_gr σ S.1 (some (.inl (.inr a))) (some (.long x)) from hv0)) ⟨Nat.le_refl _, Nat.le_refl _⟩ hd
      · cases h
    · cases h
  · rename_i a it r0 hK
    rw [hK] at hs
    have hs0 := hs
    clear hs
    obtain ⟨v, s2, rfl, hv, hs⟩ := ck_rs_cons hs0
    clear hs0
    have e2 := ck_rs_nil hs
    subst e2
    split at h
    · rename_i C0 hr
      split at h
      · rename_i hc
        rw [hr] at B
        exact jv_aret C B (by
          cases a with
          | none => exact Or.inl hv
          | some k => exact Or.inr ⟨k, hv⟩) (ck_end_ok hc H hm he (show ck_gr σ S.1 (some (.inr (.inl a))) (some v) from hv)) ⟨Nat.le_refl _, Nat.le_refl _⟩ hd
      · cases h
    · cases h
  · rename_i it r0 hK
    rw [hK] at hs
    have e2 := ck_rs_nil hs
    subst e2
    split at h
    · rename_i hr
      split at h
      · rename_i hc
        rw [hr] at B
        exact jv_vret C B (ck_end_ok hc H hm he (show ck_gr σ S.1 none none from trivial)) ⟨Nat.le_refl _, Nat.le_refl _⟩ hd
      · cases h
    · cases h
  · cases h
/-- what is known of the nodes whose rank is below -/
def ck_IH (l : Launch) (D : va_G) (kp : Nat → ClassId) (G : jv_G) (cs ss : Nat) (E0 : Nat → jv_E) (mods : List Nat) (m : Nat) (σe : Nat → Int) (ND : List ck_D) (w : List Nat) : Prop := ∀ d ∈ ND, ∀ (σ : Nat → Int) (E : Nat → jv_E) (lv : List (Nat × Value)) (st : List Value), ck_lx (d.2.2.map fun a => (ck_ev σ a).toNat) w → ck_ag m σe σ → ck_g σ d.2.1 E lv st → (∀ k, k ∉ mods → E k = E0 k) → jv_V l D vwCl kp G cs ss 84 E d.1 lv st
theorem ck_edg_ok {ND : List ck_D} {m nr : Nat} {R : List ck_L} {it : ck_I} {mods : List Nat} {σe : Nat → Int} (h : ck_edg ND m R pc S it = true) (hok : ND.all (ck_dok m nr) = true) (H : ck_H m0 σ0 E0 mods σ S E lv st) (hm : m ≤ m0) (he : ck_ag m σe σ0) (hR : ∀ a ∈ R, ck_w m0 a) (ih : ck_IH l D kp G cs ss E0 mods m σe ND (R.map fun a => (ck_ev σ0 a).toNat)) : jv_V l D vwCl kp G cs ss 84 E pc lv st := by
  unfold ck_edg at h
  split at h
  · cases h
  · rename_i d hd
    have hdm := List.mem_of_getElem? hd
    obtain ⟨h1, h2⟩ := Bool.and_eq_true_iff.mp h
    obtain ⟨hpc, hlen, hid, hst⟩ := of_decide_eq_true h1
    have hst := ck_eqL_ok hst
    simp only [Bool.and_eq_true_iff] at h2
    obtain ⟨⟨⟨⟨⟨hw, hlo⟩, hf⟩, hp⟩, hfl⟩, hrk⟩ := h2
    have hdo := List.all_eq_true.mp hok d hdm
    unfold ck_dok at hdo
    simp only [Bool.and_eq_true_iff] at hdo
    obtain ⟨hmn, ⟨⟨⟨⟨kf, kl⟩, ks⟩, kpn⟩, kr⟩, kn⟩ := hdo
    obtain ⟨lv2, l1, l2⟩ := ck_lo_ok (S := S) (ck_hL H) _ hlo kl
    refine jv_lvs l1 ?_
    subst hpc
    have hs := ck_hS H
    rw [hst] at hs
    refine ih d hdm (ck_tv σ it.2.2) E lv2 st ?_ (ck_ag_tr (ck_ag_tr he (ck_ag_le hm H.2.1)) (ck_idn_ok hid)) ⟨H.2.2.1.1, ⟨ck_fac_in (ck_hF H) hf, fun f h9 => ck_wb_ok (List.all_eq_true.mp kf f h9)⟩, l2, ck_rs_in ks hs, ck_pin_in H.2.2.1.2.2.2.2.1 hp ?_, fun f h9 => H.2.2.1.2.2.2.2.2 f (by simpa using List.all_eq_true.mp hfl f h9)⟩ H.2.2.2
    · have := ck_rkc_ok (ck_hF H) _ _ _ _ hrk
      have e1 : (d.2.2.map (ck_sb it.2.2)).map (fun a => (ck_ev σ a).toNat) = d.2.2.map fun a => (ck_ev (ck_tv σ it.2.2) a).toNat := by
        rw [List.map_map]
        exact List.map_congr_left (fun a _ => by show (ck_ev σ (ck_sb it.2.2 a)).toNat = _; rw [ck_sb_ev])
      have e2 : (R.map fun a => (ck_ev σ a).toNat) = R.map fun a => (ck_ev σ0 a).toNat := List.map_congr_left (fun a ha => by rw [ck_ev_ag H.2.1 (hR a ha)])
      rw [e1, e2] at this
      exact this
    · exact kpn
theorem ck_gpr_ok {e : ck_N} {it : ck_I} (h : ck_gpr e S it = true) (H : ck_g σ S E lv st) : it.2.2.length = e.2.1.1 ∧ e.2.2.2.1 = [] ∧ (∀ a ∈ it.2.2, ck_w S.1 a) ∧ ck_hs (ck_tv σ it.2.2) e.2.1.2.1 ∧ ck_gp (ck_tv σ it.2.2) e.2.1.1 e.2.1.2.2.2.1 E ∧ ck_gf e.2.1.2.2.2.2 E ∧ ∀ x ∈ e.2.2.1, e.2.1.1 ≤ x.1 := by
  unfold ck_gpr at h
  simp only [Bool.and_eq_true_iff] at h
  obtain ⟨hlen, hmt, hw, hf, hpn, hfl, hle⟩ := h
  exact ⟨of_decide_eq_true hlen, List.isEmpty_iff.mp hmt, fun a ha => ck_wb_ok (List.all_eq_true.mp hw a ha), ck_fac_in H.2.1.1 hf, ck_pin_in H.2.2.2.2.1 (List.all_eq_true.mpr (fun p h9 => (Bool.and_eq_true_iff.mp (List.all_eq_true.mp hpn p h9)).1)) (List.all_eq_true.mpr (fun p h9 => (Bool.and_eq_true_iff.mp (List.all_eq_true.mp hpn p h9)).2)), fun f h9 => H.2.2.2.2.2 f (by simpa using List.all_eq_true.mp hfl f h9), fun x hx => Nat.le_of_ble_eq_true (List.all_eq_true.mp hle x hx)⟩
theorem ck_gap_ok {Γ : List ck_N} {it : ck_I} {l9 : List ck_S} {mods : List Nat} (hΓ : ∀ e ∈ Γ, ck_con l D kp ck_NN e) (h : ck_gap Γ S it = some l9) (kk : ∀ S2 ∈ l9, ck_Pr l D kp G cs ss m0 σ0 E0 mods pc S2) (H : ck_H m0 σ0 E0 mods σ S E lv st) : jv_V l D vwCl kp G cs ss 84 E pc lv st := by
  unfold ck_gap at h
  split at h
  · cases h
  · rename_i e he
    split at h
    · rename_i hc
      obtain ⟨h9, hp⟩ := hc
      have hcon := hΓ e (List.mem_of_getElem? he)
      unfold ck_con at hcon
      rw [if_pos h9] at hcon
      obtain ⟨hlen, hmt, hρ, hf, hpn, hfl, hle⟩ := ck_gpr_ok hp H.2.2.1
      obtain ⟨x, hx, σ', hag, hgx⟩ := hcon (ck_tv σ it.2.2) E H.2.2.1.1 hf hpn hfl
      have H2 := ck_aft_ok (rv := none) (st' := st) H (ck_hS H) hρ hlen (hle x hx) H.2.2.1.1 (fun _ _ => rfl) (fun k hk => by rw [hmt] at hk; cases hk) hag hgx
      exact ck_exg_ok e.2.2.1 0 _ h kk hx H2
    · cases h
theorem ck_gho_ok {Γ : List ck_N} {it : ck_I} {l9 : List ck_S} {mods : List Nat} (hΓ : ∀ e ∈ Γ, ck_con l D kp ck_NN e) (h : ck_gho Γ S it = some l9) (kk : ∀ S2 ∈ l9, ck_Pr l D kp G cs ss m0 σ0 E0 mods pc S2) (H : ck_H m0 σ0 E0 mods σ S E lv st) : jv_V l D vwCl kp G cs ss 84 E pc lv st := by
  unfold ck_gho at h
  split at h
  · exact ck_gap_ok hΓ h kk H
  split at h
  · unfold ck_peq at h
    split at h
    · rename_i p q hp hq
      split at h
      · rename_i hc
        obtain ⟨hpq, hc⟩ := hc
        obtain ⟨c1, c2⟩ := Bool.and_eq_true_iff.mp hc
        have e1 := ck_ent_ok (ck_hF H) c1
        have e2 := ck_ent_ok (ck_hF H) c2
        rw [ck_sub_ev] at e1 e2
        cases h
        obtain ⟨⟨w1, w2⟩, p0, pl⟩ := H.2.2.1.2.2.2.2.1 p (List.mem_of_getElem? hp)
        obtain ⟨⟨w3, w4⟩, q0, ql⟩ := H.2.2.1.2.2.2.2.1 q (List.mem_of_getElem? hq)
        have e3 : ck_ev σ p.2.1 = ck_ev σ q.2.1 := by omega
        rw [hpq, e3, ql] at pl
        exact kk _ List.mem_cons_self _ _ _ _ (ck_H_fct H (ck_2 ⟨ck_w_sub w2 w4, by rw [ck_sub_ev]; omega⟩ ⟨ck_w_sub w4 w2, by rw [ck_sub_ev]; omega⟩) (ck_hS H))
      · cases h
    · cases h
  split at h
  · unfold ck_ppl at h
    split at h
    · rename_i p a hp ha
      split at h
      · rename_i hc
        obtain ⟨hwb, hc⟩ := Bool.and_eq_true_iff.mp hc
        obtain ⟨c1, c2⟩ := Bool.and_eq_true_iff.mp hc
        have e1 := ck_ent_ok (ck_hF H) c1
        have e2 := ck_ent_ok (ck_hF H) c2
        rw [ck_sub_ev] at e1 e2
        cases h
        obtain ⟨⟨w1, w2⟩, p0, pl⟩ := H.2.2.1.2.2.2.2.1 p (List.mem_of_getElem? hp)
        have e3 : ck_ev σ a = ck_ev σ p.2.1 := by omega
        refine kk _ List.mem_cons_self _ _ _ _ ⟨H.1, H.2.1, ⟨H.2.2.1.1, H.2.2.1.2.1, H.2.2.1.2.2.1, H.2.2.1.2.2.2.1, fun q hq => ?_, H.2.2.1.2.2.2.2.2⟩, H.2.2.2⟩
        rcases List.mem_cons.mp hq with rfl | hq
        · refine ⟨⟨ck_wb_ok hwb, w2⟩, ?_, ?_⟩
          · show 0 ≤ ck_ev σ a
            rw [e3]; exact p0
          · show ck_lk E p.1 (ck_ev σ a) = ck_ev σ p.2.2
            rw [e3]; exact pl
        · exact H.2.2.1.2.2.2.2.1 q hq
      · cases h
    · cases h
  split at h
  · unfold ck_ptp at h
    split at h
    · rename_i v K a hK ha
      split at h
      · rename_i hc
        obtain ⟨hwb, hc⟩ := Bool.and_eq_true_iff.mp hc
        obtain ⟨c1, c2⟩ := Bool.and_eq_true_iff.mp hc
        have e1 := ck_ent_ok (ck_hF H) c1
        have e2 := ck_ent_ok (ck_hF H) c2
        rw [ck_sub_ev] at e1 e2
        cases h
        have hs := ck_hS H
        rw [hK] at hs
        obtain ⟨u1, s1, rfl, ⟨wv, y, rfl, hy⟩, hs1⟩ := ck_rs_cons hs
        exact kk _ List.mem_cons_self _ _ _ _ (ck_H_stk H ⟨⟨ck_wb_ok hwb, y, rfl, by omega⟩, hs1⟩)
      · cases h
    · cases h
  split at h
  · split at h
    · rename_i hd
      have := ck_ent_ok (ck_hF H) hd
      rw [ck_c_ev] at this
      omega
    · cases h
  split at h
  · rename_i a ha
    split at h
    · split at h
      · rename_i hwb
        have hw := ck_wb_ok hwb
        split at h
        · rename_i b hb
          cases h
          have key : 0 ≤ ck_ev σ a ∧ b.1 ≤ ck_loc (E (ck_nr it 1)) (ck_ev σ a) ∧ ck_loc (E (ck_nr it 1)) (ck_ev σ a) ≤ b.2 := by
            unfold ck_lcb at hb
            split at hb
            · rename_i ob hob
              obtain ⟨fs, he, hl⟩ := H.2.2.1.1 _ _ hob
              split at hb
              · rename_i hc
                obtain ⟨hi, h0⟩ := Bool.and_eq_true_iff.mp hc
                have h0 := of_decide_eq_true h0
                have ea : ck_ev σ a = (a.1.toNat : Int) := by rw [ck_const hi, Int.toNat_of_nonneg h0]
                split at hb
                · rename_i b2 hb2
                  cases hb
                  obtain ⟨v, hv, x, rfl, hx⟩ := ck_okl_get hl hb2
                  rw [he, ea, ck_loc_gI hv]
                  exact ⟨Int.natCast_nonneg _, hx⟩
                · rename_i b2 hb2
                  cases hb
                  obtain ⟨v, hv, x, rfl, hx⟩ := ck_okl_get hl hb2
                  rw [he, ea, ck_loc_gJ hv]
                  exact ⟨Int.natCast_nonneg _, hx⟩
                · cases hb
              · cases hb
            · rename_i ar har
              obtain ⟨t, z, B⟩ := ar
              split at hb
              · rename_i hc
                obtain ⟨c1, c2⟩ := Bool.and_eq_true_iff.mp hc
                have e1 := ck_ent_ok (ck_hF H) c1
                have e2 := ck_ent_ok (ck_hF H) c2
                rw [ck_sub_ev, ck_c_ev] at e2
                have e2 : 0 ≤ (z : Int) - 1 - ck_ev σ a := e2
                have hbd := ck_abd_ok (σ := σ) hb e1
                have hok := H.2.2.1.1 _ _ har
                by_cases h3 : t = 3
                · subst h3
                  obtain ⟨g, he, hbb⟩ := (ck_okJ.mp (hok))
                  have := hbb (ck_ev σ a).toNat (by omega)
                  rw [hbd] at this
                  rw [he]
                  exact ⟨e1, this⟩
                · obtain ⟨g, he, hbb⟩ := ((ck_okI h3).mp (hok))
                  have := hbb (ck_ev σ a).toNat (by omega)
                  rw [hbd] at this
                  rw [he]
                  exact ⟨e1, this⟩
              · cases hb
            · cases hb
          have h84 : ck_nr it 1 < 84 := by
            unfold ck_lcb at hb
            split at hb
            · rename_i ob hob; exact ck_k84 hob
            · rename_i ar har; exact ck_k84 har
            · cases hb
          refine kk _ List.mem_cons_self _ _ _ _ (ck_H_frs (P := [(ck_nr it 1, a, ck_x S.1)]) (z := ck_loc (E (ck_nr it 1)) (ck_ev σ a)) H (ck_b2_ok key.2.1 key.2.2) (ck_up_K (ck_hS H)) (ck_1 ⟨⟨ck_wu hw, ck_wx⟩, ?_, ?_⟩))
          · show 0 ≤ ck_ev (va_up σ S.1 _) a
            rw [ck_up_a hw]; exact key.1
          · show ck_lk E (ck_nr it 1) (ck_ev (va_up σ S.1 _) a) = ck_ev (va_up σ S.1 _) (ck_x S.1)
            rw [ck_lk_c h84, ck_up_a hw, ck_up_x]
        · cases h
      · cases h
    · split at h
      · split at h
        · rename_i hc
          obtain ⟨hwb, hc⟩ := Bool.and_eq_true_iff.mp hc
          have hw := ck_wb_ok hwb
          obtain ⟨c1, c2⟩ := Bool.and_eq_true_iff.mp hc
          have e1 := ck_ent_ok (ck_hF H) c1
          have e2 := ck_ent_ok (ck_hF H) c2
          rw [ck_ac_ev] at e1
          rw [ck_sub_ev, ck_c_ev] at e2
          cases h
          refine kk _ (List.mem_map.mpr ⟨(ck_ev σ a - (ck_nr it 1 : Int)).toNat, List.mem_range.mpr (by omega), rfl⟩) _ _ _ _ (ck_H_fct H (ck_2 ⟨ck_w_ac hw, ?_⟩ ⟨ck_w_sub ck_w_c hw, ?_⟩) (ck_hS H))
          · rw [ck_ac_ev]; omega
          · rw [ck_sub_ev, ck_c_ev]; omega
        · cases h
      · split at h
        · split at h
          · rename_i hwb
            have hw := ck_wb_ok hwb
            cases h
            by_cases h0 : 0 ≤ ck_ev σ a
            · exact kk _ List.mem_cons_self _ _ _ _ (ck_H_fct H (ck_1 ⟨hw, h0⟩) (ck_hS H))
            · exact kk _ (List.mem_cons_of_mem _ List.mem_cons_self) _ _ _ _ (ck_H_fct H (ck_1 ⟨ck_w_ac (ck_w_mul hw), by rw [ck_ac_ev, ck_mul_ev]; omega⟩) (ck_hS H))
          · cases h
        · cases h
  · cases h
theorem ck_exl_ok {f : Nat → ck_S → List ck_I → Option (List ck_I)} {P : Nat → ck_S → Prop} (hf : ∀ pc S its r, f pc S its = some r → P pc S) : ∀ (su : List (Nat × ck_S)) (r r2 : List ck_I), ck_exl f su r = some r2 → ∀ q ∈ su, P q.1 q.2
  | [], _, _, _, q, hq => absurd hq List.not_mem_nil
  | p :: su, r, r2, h, q, hq => by
    unfold ck_exl at h
    split at h
    · rename_i r3 h3
      rcases List.mem_cons.mp hq with rfl | hq
      · exact hf _ _ _ _ h3
      · exact ck_exl_ok hf su r3 r2 h q hq
    · cases h
/-- a store, with what comes behind it told of the cells themselves -/
theorem ck_iast_gen {own : String} {Ts : List Cond} {rm : Room} {N : jv_N} {mods : List Nat} {k : Nat} {K : List ck_V} {st' : List Value} {idx v : ck_L} {x y : Int32} (C : jv_C D vwCl kp G cc own Ts rm N) (hd : decode cc pc = .ok (.iastore, 1)) (h : ck_ast 0 mods pc S K k idx v its = some (su, r)) (H : ck_H m0 σ0 E0 mods σ S E lv st) (hw : ck_w S.1 idx) (hwv : ck_w S.1 v) (hx : x.toInt = ck_ev σ idx) (hy : y.toInt = ck_ev σ v) (hK : ck_rs σ S.1 K st') (kk : ∀ (e' : jv_E) (S2 : ck_S), su = [(pc + 1, S2)] → 0 ≤ ck_ev σ idx → ck_loc e' (ck_ev σ idx) = ck_ev σ v → (∀ j, 0 ≤ j → ¬ j = ck_ev σ idx → ck_loc e' j = ck_loc (E k) j) → ck_H m0 σ0 E0 mods σ S2 (va_up E k e') lv st' → jv_V l D vwCl kp G cs ss 84 (va_up E k e') (pc + 1) lv st') : jv_V l D vwCl kp G cs ss 84 E pc lv (.int y :: .int x :: .ref k :: st') := by
  obtain ⟨⟨t, z, B⟩, v1, ha, ht, hm, h0, h1, hb, hv1, hsu⟩ := ck_ast_core h H
  have ht : t = 0 := ht
  subst ht
  obtain ⟨g, he, hbb⟩ := ((ck_okI (by decide)).mp (H.2.2.1.1 k _ ha))
  have en : ((x.toNatClampNeg : Nat) : Int) = ck_ev σ idx := by rw [cn_clamp, hx]; exact Int.toNat_of_nonneg h0
  have en2 : x.toNatClampNeg = (ck_ev σ idx).toNat := by rw [cn_clamp, hx]
  refine jv_iast C (ck_k6 ha) he (ck_vi ⟨by omega, by rw [hx]; exact h1⟩) hd ?_
  have l1 : ck_loc (.inl (0, z, .inl (upd g x.toNatClampNeg y))) (ck_ev σ idx) = ck_ev σ v := by
    show (upd g x.toNatClampNeg y (ck_ev σ idx).toNat).toInt = ck_ev σ v
    unfold upd
    rw [if_pos en2.symm, hy]
  have l2 : ∀ j, 0 ≤ j → ¬ j = ck_ev σ idx → ck_loc (.inl (0, z, .inl (upd g x.toNatClampNeg y))) j = ck_loc (E k) j := fun j j0 j1 => by
    rw [ck_loc_upd j0 (by rw [en]; exact j1), he]
  refine kk _ _ hsu h0 l1 l2 (ck_H_wr H ha ?_ hm hK hw hwv h0 l1 l2 (ck_kpf_ok H.2.2.1.2.2.2.2.2 h0 hv1 l1 l2))
  refine (ck_okI (by decide)).mpr ⟨_, rfl, fun i hi => ?_⟩
  unfold upd
  by_cases hi2 : i = x.toNatClampNeg
  · rw [if_pos hi2, hy, hi2, en2]; exact hb
  · rw [if_neg hi2]; exact hbb i hi
theorem ck_bast_gen {own : String} {Ts : List Cond} {rm : Room} {N : jv_N} {mods : List Nat} {k : Nat} {K : List ck_V} {st' : List Value} {idx v : ck_L} {x y : Int32} (C : jv_C D vwCl kp G cc own Ts rm N) (hd : decode cc pc = .ok (.bastore, 1)) (h : ck_bst mods pc S K k idx its = some (su, r)) (H : ck_H m0 σ0 E0 mods σ S E lv st) (hx : x.toInt = ck_ev σ idx) (hy : y.toInt = ck_ev σ v) (hv0 : 0 ≤ ck_ev σ v) (hv1 : ck_ev σ v ≤ 1) (hK : ck_rs σ S.1 K st') (kk : ∀ (e' : jv_E) (S2 : ck_S), su = [(pc + 1, S2)] → 0 ≤ ck_ev σ idx → ck_loc e' (ck_ev σ idx) = ck_ev σ v → (∀ j, 0 ≤ j → ¬ j = ck_ev σ idx → ck_loc e' j = ck_loc (E k) j) → ck_H m0 σ0 E0 mods σ S2 (va_up E k e') lv st' → jv_V l D vwCl kp G cs ss 84 (va_up E k e') (pc + 1) lv st') : jv_V l D vwCl kp G cs ss 84 E pc lv (.int y :: .int x :: .ref k :: st') := by
  cases its with
  | nil => cases h
  | cons it r0 =>
    unfold ck_bst at h
    dsimp only at h
    split at h
    · rename_i a ha
      obtain ⟨t, z, B⟩ := a
      split at h
      · rename_i hc
        obtain ⟨ht, ⟨hm, hdp⟩, hc⟩ := hc
        obtain ⟨c1, c2⟩ := Bool.and_eq_true_iff.mp hc
        have e1 := ck_ent_ok (ck_hF H) c1
        have e2 := ck_ent_ok (ck_hF H) c2
        rw [ck_sub_ev, ck_c_ev] at e2
        have e2 : 0 ≤ (z : Int) - 1 - ck_ev σ idx := e2
        cases h
        have en : ((x.toNatClampNeg : Nat) : Int) = ck_ev σ idx := by rw [cn_clamp, hx]; exact Int.toNat_of_nonneg e1
        have en2 : x.toNatClampNeg = (ck_ev σ idx).toNat := by rw [cn_clamp, hx]
        have fin : ∀ (t9 : Nat) (g : Nat → Int32) (w : Int32), w.toInt = ck_ev σ v → E k = .inl (t9, z, .inl g) → ck_okc (.inr (.inl (t, z, B))) (.inl (t9, z, .inl (upd g x.toNatClampNeg w))) → jv_V l D vwCl kp G cs ss 84 (va_up E k (.inl (t9, z, .inl (upd g x.toNatClampNeg w)))) (pc + 1) lv st' := fun t9 g w hw9 he hok => by
          refine kk _ _ rfl e1 ?_ (fun j j0 j1 => ?_) ⟨H.1, H.2.1, ⟨ck_gi_up H.2.2.1.1 ha hok, H.2.2.1.2.1, H.2.2.1.2.2.1, hK, ck_gp_no H.2.2.1.2.2.2.2.1, ck_gf_up hdp H.2.2.1.2.2.2.2.2⟩, fun j hj => by
            have hjk : ¬ j = k := fun q => hj (by rw [q]; exact hm)
            rw [va_up_ne _ _ hjk]; exact H.2.2.2 j hj⟩
          · show (upd g x.toNatClampNeg w (ck_ev σ idx).toNat).toInt = ck_ev σ v
            unfold upd
            rw [if_pos en2.symm, hw9]
          · rw [ck_loc_upd j0 (by rw [en]; exact j1), he]
        have okI : ∀ (t : Nat) (g : Nat → Int32) (w : Int32) (lo hi : Int), ¬ t = 3 → (∀ i, i < z → lo ≤ (g i).toInt ∧ (g i).toInt ≤ hi) → lo ≤ w.toInt → w.toInt ≤ hi → ck_okc (.inr (.inl (t, z, [(lo, hi)]))) (.inl (t, z, .inl (upd g x.toNatClampNeg w))) := fun t g w lo hi ht hg h1 h2 => by
          refine (ck_okI ht).mpr ⟨_, rfl, fun i hi2 => ?_⟩
          have eb : ck_bd [(lo, hi)] i = (lo, hi) := by
            unfold ck_bd
            rw [show [(lo, hi)].length = 1 from rfl, Nat.mod_one]
            rfl
          rw [eb]
          unfold upd
          by_cases hi3 : i = x.toNatClampNeg
          · rw [if_pos hi3]; exact ⟨h1, h2⟩
          · rw [if_neg hi3]; exact hg i hi2
        have eb : ∀ (lo hi : Int) (i : Nat), ck_bd [(lo, hi)] i = (lo, hi) := fun lo hi i => by
          unfold ck_bd
          rw [show [(lo, hi)].length = 1 from rfl, Nat.mod_one]
          rfl
        rcases ht with ⟨ht, hB⟩ | ⟨ht, hB⟩
        · have ht : t = 1 := ht
          have hB : B = [(-128, 127)] := hB
          subst ht
          subst hB
          obtain ⟨g, he, hbb⟩ := ((ck_okI (by decide)).mp (H.2.2.1.1 k _ ha))
          have e8 : y.toInt8.toInt32.toInt = ck_ev σ v := by
            have := cn_nb (x := y) (by omega) (by omega)
            have e9 : y.toInt8.toInt32 = y := Value.int.inj this
            rw [e9, hy]
          refine jv_bast C (ck_k6 ha) he (ck_vi ⟨by omega, by omega⟩) hd ?_
          rw [vp_nar_byte]
          exact fin 1 g _ e8 he (okI 1 g _ _ _ (by decide) (fun i hi => by have := hbb i hi; rw [eb] at this; exact this) (cn_b y).1 (cn_b y).2)
        · have ht : t = 2 := ht
          have hB : B = [(0, 1)] := hB
          subst ht
          subst hB
          obtain ⟨g, he, hbb⟩ := ((ck_okI (by decide)).mp (H.2.2.1.1 k _ ha))
          have t1 := cn_and (x := y) (y := 1) (by decide)
          have e1' : (1 : Int32).toInt = 1 := rfl
          rw [e1'] at t1
          have e8 : (y &&& 1).toInt = ck_ev σ v := by
            by_cases h0 : y.toInt = 0
            · have : y = 0 := jv_r_eq h0
              rw [this]
              show (0 : Int) = _
              omega
            · have : y = 1 := jv_r_eq (by show y.toInt = 1; omega)
              rw [this]
              show (1 : Int) = _
              rw [this] at hy
              exact hy
          exact jv_zast C (ck_k6 ha) he (ck_vi ⟨by omega, by omega⟩) hd (fin 2 g _ e8 he (okI 2 g (y &&& 1) _ _ (by decide) (fun i hi => by have := hbb i hi; rw [eb] at this; exact this) t1.1 t1.2))
      · cases h
    · cases h
theorem ck_sbV_i {ρ : List ck_L} {a : ck_V} {idx : ck_L} (h : .inl (.inl idx) = ck_sbV ρ a) : ∃ a0, a = .inl (.inl a0) ∧ idx = ck_sb ρ a0 := by
  rcases a with (a | a) | a | a
  · exact ⟨a, rfl, by cases h; rfl⟩
  · cases h
  · cases h
  · cases h
theorem ck_srl_ok {Γ : List ck_N} {mods : List Nat} {k : Nat} {idx v : ck_L} {su : ck_R} {it2 : ck_I} {l9 : List (Nat × ck_S)} (hΓ : ∀ e ∈ Γ, ck_con l D kp ck_NN e) (h : ck_srl Γ k idx v S su it2 = some l9) (H : ck_H m0 σ0 E0 mods σ S E lv st) : ∃ pc2 S2, su = some ([(pc2, S2)], []) ∧ ∀ (e' : jv_E) (st' : List Value), 0 ≤ ck_ev σ idx → ck_loc e' (ck_ev σ idx) = ck_ev σ v → (∀ j, 0 ≤ j → ¬ j = ck_ev σ idx → ck_loc e' j = ck_loc (E k) j) → ck_H m0 σ0 E0 mods σ S2 (va_up E k e') lv st' → (∀ q ∈ l9, ck_Pr l D kp G cs ss m0 σ0 E0 mods q.1 q.2) → jv_V l D vwCl kp G cs ss 84 (va_up E k e') pc2 lv st' := by
  unfold ck_srl at h
  split at h
  · rename_i e pc2 S2 he
    split at h
    · rename_i hc
      obtain ⟨⟨h9, hn⟩, hp, ha⟩ := hc
      refine ⟨pc2, S2, rfl, fun e' st' h0 l1 l2 H2 kk => ?_⟩
      have hcon := hΓ e (List.mem_of_getElem? he)
      unfold ck_con at hcon
      rw [if_neg (by omega), if_pos (by omega), show e.1 - 10000 = k by omega] at hcon
      obtain ⟨hlen, hmt, hρ, hf, hpn, hfl, hle⟩ := ck_gpr_ok hp H.2.2.1
      have ha := ck_eqL_ok ha
      obtain ⟨a1, a2, hargs⟩ : ∃ a1 a2, e.2.1.2.2.1 = [a1, a2] := by
        rcases hh : e.2.1.2.2.1 with _ | ⟨a1, _ | ⟨a2, _ | ⟨a3, t⟩⟩⟩
        · rw [hh] at ha; cases ha
        · have h8 := congrArg List.length ha
          rw [hh] at h8
          simp at h8
        · exact ⟨a1, a2, rfl⟩
        · have h8 := congrArg List.length ha
          rw [hh] at h8
          simp at h8
      rw [hargs] at ha
      have ha1 : .inl (.inl idx) = ck_sbV it2.2.2 a1 := (List.cons.inj ha).1
      have ha2 : .inl (.inl v) = ck_sbV it2.2.2 a2 := (List.cons.inj (List.cons.inj ha).2).1
      obtain ⟨i0, rfl, hi0⟩ := ck_sbV_i ha1
      obtain ⟨v0, rfl, hv0⟩ := ck_sbV_i ha2
      have ei : ck_ev (ck_tv σ it2.2.2) i0 = ck_ev σ idx := by rw [hi0, ck_sb_ev]
      have ev : ck_ev (ck_tv σ it2.2.2) v0 = ck_ev σ v := by rw [hv0, ck_sb_ev]
      obtain ⟨x, hx, σ', hag, hgx⟩ := hcon (ck_tv σ it2.2.2) E e' i0 v0 hargs H.2.2.1.1 hf hpn hfl H2.2.2.1.1 (by rw [ei]; exact h0) (by rw [ei, ev]; exact l1) (by rw [ei]; exact l2)
      rw [← hn] at hρ
      have H3 := ck_aft_ok (rv := none) (st' := st') H2 (ck_hS H2) hρ hlen (hle x hx) H2.2.2.1.1 (fun _ _ => rfl) (fun k hk => by rw [hmt] at hk; cases hk) hag hgx
      cases hq : ck_exg e it2.2.2 S2 it2 0 e.2.2.1 with
      | none => rw [hq] at h; cases h
      | some q =>
        rw [hq] at h
        cases h
        exact ck_exg_ok e.2.2.1 0 _ hq (fun S3 h3 => kk (pc2, S3) (List.mem_map.mpr ⟨S3, h3, rfl⟩)) hx H3
    · cases h
  · cases h
theorem ck_sto_ok {Γ : List ck_N} {own : String} {Ts : List Cond} {rm : Room} {N : jv_N} {mods : List Nat} {ins : Instr} {len : Nat} (C : jv_C D vwCl kp G cc own Ts rm N) (hΓ : ∀ e ∈ Γ, ck_con l D kp ck_NN e) (hd : decode cc pc = .ok (ins, len)) (hl : ck_isT ins = true ∨ len = ck_len ins) (h : ck_sto Γ mods pc ins S its = some (su, r)) (kk : ∀ q ∈ su, ck_Pr l D kp G cs ss m0 σ0 E0 mods q.1 q.2) (H : ck_H m0 σ0 E0 mods σ S E lv st) : jv_V l D vwCl kp G cs ss 84 E pc lv st := by
  have hs := ck_hS H
  unfold ck_sto at h
  split at h
  · rename_i v idx k K it it2 r0 hK
    have e9 : len = 1 := hl.resolve_left (fun q => nomatch q)
    subst e9
    rw [hK] at hs
    obtain ⟨u1, s1, rfl, ⟨wv, y, rfl, hy⟩, hs1⟩ := ck_rs_cons hs
    obtain ⟨u2, s2, rfl, ⟨wi, x, rfl, hx⟩, hs2⟩ := ck_rs_cons hs1
    obtain ⟨u3, s3, rfl, hu3, hs3⟩ := ck_rs_cons hs2
    have hu3 : u3 = .ref k := hu3
    subst hu3
    split at h
    · cases hq : ck_srl Γ k idx v S (ck_ast 0 mods pc S K k idx v [it]) it2 with
      | none => rw [hq] at h; cases h
      | some l9 =>
        rw [hq] at h
        cases h
        obtain ⟨pc2, S2, hsu, hfin⟩ := ck_srl_ok hΓ hq H
        refine ck_iast_gen C hd hsu H wi wv hx hy hs3 (fun e' S3 hS3 h0 l1 l2 H3 => ?_)
        cases hS3
        exact hfin e' s3 h0 l1 l2 H3 kk
    · cases h
  · rename_i v idx k K it it2 r0 hK
    have e9 : len = 1 := hl.resolve_left (fun q => nomatch q)
    subst e9
    rw [hK] at hs
    obtain ⟨u1, s1, rfl, ⟨wv, y, rfl, hy⟩, hs1⟩ := ck_rs_cons hs
    obtain ⟨u2, s2, rfl, ⟨wi, x, rfl, hx⟩, hs2⟩ := ck_rs_cons hs1
    obtain ⟨u3, s3, rfl, hu3, hs3⟩ := ck_rs_cons hs2
    have hu3 : u3 = .ref k := hu3
    subst hu3
    split at h
    · rename_i hc
      obtain ⟨c1, c2⟩ := Bool.and_eq_true_iff.mp hc.2
      have e1 := ck_ent_ok (ck_hF H) c1
      have e2 := ck_ent_ok (ck_hF H) c2
      rw [ck_sub_ev, ck_c_ev] at e2
      cases hq : ck_srl Γ k idx v S (ck_bst mods pc S K k idx [it]) it2 with
      | none => rw [hq] at h; cases h
      | some l9 =>
        rw [hq] at h
        cases h
        obtain ⟨pc2, S2, hsu, hfin⟩ := ck_srl_ok hΓ hq H
        refine ck_bast_gen C hd hsu H hx hy e1 (by omega) hs3 (fun e' S3 hS3 h0 l1 l2 H3 => ?_)
        cases hS3
        exact hfin e' s3 h0 l1 l2 H3 kk
    · cases h
  · cases h
end CK13
