/-! THE CHECKER 14: calls, a method, an entry -/
/-- as Met.ofW and jv_of, for a method that nothing is run in place of (a class as java/lang/Math has such rows, but not for these) -/
theorem ck_ofW {l : Launch} {y : MethodName} {ws ws' : List Cond} {rm : Room} {Pc : Array Value → State → Prop} {Qc : Array Value → State → Outcome → State → Prop} {mc ms : Nat} {free : Addr → Prop} {cc : ByteArray} {maxL : Nat} {ret : Option FieldType} (hy : plainFor y = true) (hw : ws = Cond.code y cc maxL ret :: ws') (body : ∀ p e s m args below meth c s₁, BodyLoose p l y (headSpec ws rm) cc maxL ret e s m args below meth c s₁ → c.maxLocals = maxL → Pc args s → W p l e (headSpec ws rm).room s m args below meth c s.heap [] 0 0 (MQ below Qc args s mc ms free) (entryFrame m args maxL)) : Met l y ws rm Pc Qc mc ms free := by
  refine MetFree.of_bodySF (code := cc) (maxLocals := maxL) (ret := ret) hy (fun args s m h hn => ?_) (fun p e s m args below meth c s₁ B hml hP _ => ?_)
  · obtain ⟨meth, c, h1, h2, h3, h4, h5, h6, -, -⟩ := Cond.code_spec hn (atoms_spec (ws := ws) h (Cond.code y cc maxL ret) (by rw [hw]; exact List.mem_cons_self))
    exact ⟨meth, c, h1, h2, h3, h4, h5, h6⟩
  · obtain ⟨t, a1, o, b1, b2, b3⟩ := body p e s m args below meth c s₁ B hml hP s₁ (by rw [B.state]; rfl) (Stand.of_body B)
    exact ⟨t, o, a1, b1, b2, b3.1, b3.2⟩
theorem ck_of {l : Launch} {D : va_G} {cl : List vw_C} {kp : Nat → ClassId} {y : MethodName} {ws ws' : List Cond} {rm : Room} {N : jv_N} {ar : List Value} {n : Nat} {E : Nat → jv_E} {mc ms : Nat} {post : Option Value → Nat → (Nat → jv_E) → Prop} {cc : ByteArray} {maxL : Nat} {rt : Option FieldType} (hy : plainFor y = true) (hw : ws = Cond.code y cc maxL rt :: ws') (hlen : (lg_sl ar).length ≤ maxL)
    (body : ∀ G : jv_G, jv_C D cl kp G cc y.cls ws rm N → jv_R D cl kp G E rt mc ms post → (y.name = "<init>" → jv_I G) → jv_nL G = maxL → jv_V l D cl kp G 0 0 n E 0 (lv_args 0 ar) []) : jv_M l D cl kp y ws rm N ar n E mc ms post := by
  intro f0 sz
  refine ck_ofW (cc := cc) (maxL := maxL) (ret := rt) hy hw ?_
  intro p e s m args below meth c s₁ B hml hv
  obtain ⟨rfl, hsz, hP, hK, hD0, hE, hA, hN⟩ := hv
  subst hsz
  have hD := hD0.self (sz := s.heap.size)
  have hts := atoms_spec (ws := ws) B.pre
  have hown : s.vm.findClass y.cls = some m.cls := findClass_of_methodNamed B.named
  have key := body (p, e, (headSpec ws rm).room, s, m, (ar.map (jv_v f0)).toArray, below, meth, c, va_A (jv_W n f0 kp E) s.heap.size, maxL, n, f0, MQ below (jv_Q D cl kp n f0 E s.heap.size post) (ar.map (jv_v f0)).toArray s mc ms (va_A (jv_W n f0 kp E) s.heap.size)) ⟨B.exec, B.bytes, hml, hown, hts, hK, fun q h => Or.inr h, B.notSynchronized, rfl, hN⟩ ⟨B.returns, rfl, rfl⟩ (fun h => (name_of_methodNamed B.named B.method).1.trans h) rfl
  have hl := lv_entry (ar.map (jv_v f0)) (n := maxL) (by rw [jv_sl_len]; exact hlen)
  rw [lg_entry_eq]
  generalize (lg_sl (ar.map (jv_v f0)) ++ List.replicate (maxL - (lg_sl (ar.map (jv_v f0))).length) Slot.unset).toArray = ls at hl ⊢
  rw [jv_lvargs] at hl
  exact key f0 s.heap [] ls hP hD va_S.rf hE (jv_args_ok ar 0 hA) (fun v h => by cases h) (Nat.le_refl _) (fun i _ => rfl) hl
section CK14
variable {l : Launch} {D : va_G} {kp : Nat → ClassId} {G : jv_G} {cs ss : Nat} {cc : ByteArray} {m0 : Nat} {σ0 : Nat → Int} {E0 : Nat → jv_E} {mods : List Nat} {Γ : List ck_N}
variable {σ : Nat → Int} {S : ck_S} {E : Nat → jv_E} {lv : List (Nat × Value)} {st : List Value} {its r : List ck_I} {su : List (Nat × ck_S)} {pc fr lo mid : Nat}
theorem ck_cal_core {isV : Bool} (hΓ : ∀ e ∈ Γ, ck_con l D kp ck_NN e) (h : ck_cal Γ fr lo mods pc mid isV S its = some (su, r)) (kk : ∀ q ∈ su, ck_Pr l D kp G cs ss m0 σ0 E0 mods q.1 q.2) (H : ck_H m0 σ0 E0 mods σ S E lv st) : ∃ (e : ck_N) (σ1 : Nat → Int) (ar st' : List Value), e.1 = mid ∧ st = ar.reverse ++ st' ∧ ar.length = ck_ma mid ∧ (e.2.2.2.2.1 + 1 ≤ fr ∧ 8 + (ck_ml mid + 11) + e.2.2.2.2.2 ≤ lo) ∧ (st'.map fun v => v.category).sum ≤ 8 ∧ jv_M l D vwCl kp (ck_my mid) (ck_ws mid) (ck_rm e.2.2.2.2.1 e.2.2.2.2.2) ck_NN ar 84 E 0 0 (ck_post e σ1 E) ∧ (∀ (rv : Option Value) (n1 : Nat) (E1 : Nat → jv_E), ck_post e σ1 E rv n1 E1 → 84 ≤ n1 → jv_V l D vwCl kp G (cs + 0) (ss + 0) n1 E1 (pc + 3) lv (rv.toList ++ st')) ∧ (isV = true → ∃ (k : Nat) (As : List Value) (fs : List Value), ar = .ref k :: As ∧ k < 1000000 ∧ E k = .inr (ck_mo mid, fs)) ∧ (∀ (it : ck_I) (r0 : List ck_I) (e9 : ck_N) (k : Nat) (t : List ck_V), its = it :: r0 → Γ[ck_nr it 0]? = some e9 → e9.2.1.2.2.1 = .inr (.inl (some k)) :: t → ∃ As : List Value, ar = .ref k :: As) := by
  cases its with
  | nil => cases h
  | cons it r0 =>
    unfold ck_cal at h
    dsimp only at h
    split at h
    · cases h
    · rename_i e he
      have hem := List.mem_of_getElem? he
      split at h
      · rename_i hc
        obtain ⟨⟨⟨hmid, h9999⟩, hfr, hlo⟩, ⟨hlen, harg⟩, hma, hb⟩ := hc
        have harg := ck_eqL_ok harg
        simp only [Bool.and_eq_true_iff] at hb
        obtain ⟨⟨⟨⟨⟨⟨⟨⟨hw, hwa⟩, hf⟩, hp⟩, hfl⟩, hsum⟩, hmods⟩, hle⟩, hrcv⟩ := hb
        subst hmid
        split at h
        · rename_i q hq
          cases h
          have hs := ck_hS H
          have hA : ck_rs σ S.1 (e.2.1.2.2.1.map (ck_sbV it.2.2)) (st.take e.2.1.2.2.1.length).reverse := by
            rw [← harg]; exact ck_rs_rev (ck_rs_take _ hs)
          have hK := ck_rs_drop e.2.1.2.2.1.length hs
          have hρ : ∀ a ∈ it.2.2, ck_w S.1 a := fun a ha => ck_wb_ok (List.all_eq_true.mp hw a ha)
          have hAin := ck_rs_in hwa hA
          have hMc := (ck_con_M h9999).mp (hΓ e hem) (ck_tv σ it.2.2) E (st.take e.2.1.2.2.1.length).reverse H.2.2.1.1 (ck_fac_in (ck_hF H) hf) hAin (ck_pin_in H.2.2.1.2.2.2.2.1 (List.all_eq_true.mpr (fun p h9 => (Bool.and_eq_true_iff.mp (List.all_eq_true.mp hp p h9)).1)) (List.all_eq_true.mpr (fun p h9 => (Bool.and_eq_true_iff.mp (List.all_eq_true.mp hp p h9)).2))) (fun f h9 => H.2.2.1.2.2.2.2.2 f (by simpa using List.all_eq_true.mp hfl f h9))
          refine ⟨e, ck_tv σ it.2.2, (st.take e.2.1.2.2.1.length).reverse, st.drop e.2.1.2.2.1.length, rfl, by rw [List.reverse_reverse, List.take_append_drop], ?_, ⟨hfr, hlo⟩, ?_, hMc, fun rv n1 E1 hpost hn => ?_, fun hV => ?_, fun it' r' e9 k t hit hg9 hkt => ?_⟩
          · rw [ck_rs_len hAin, hma]
          · rw [ck_rs_sum hK]; exact Nat.le_of_ble_eq_true hsum
          · obtain ⟨rfl, hgi, hfrm, x, hx, σ', hag, hgx⟩ := hpost
            have hlx := Nat.le_of_ble_eq_true (List.all_eq_true.mp hle x hx)
            exact ck_exs_ok e.2.2.1 0 _ hq kk hx (ck_aft_ok H hK hρ hlen hlx hgi hfrm (fun k h9 => by simpa using List.all_eq_true.mp hmods k h9) hag hgx)
          · subst hV
            unfold ck_rcv at hrcv
            rw [if_pos rfl] at hrcv
            split at hrcv
            · rename_i k t hkt
              split at hrcv
              · rename_i ob hob
                have hci : ob.1 = ck_mo e.1 := by simpa using hrcv
                rw [hkt] at hAin
                obtain ⟨v, s2, e9, hv, -⟩ := ck_rs_cons hAin
                have hv : v = .ref k := hv
                subst hv
                obtain ⟨fs, hfs, -⟩ := H.2.2.1.1 k _ hob
                exact ⟨k, s2, fs, by rw [hkt]; exact e9, ck_k6 hob, by rw [hfs, hci]⟩
              · cases hrcv
            · cases hrcv
          · cases hit
            rw [he] at hg9
            cases hg9
            rw [hkt] at hAin
            obtain ⟨v, s2, e8, hv, -⟩ := ck_rs_cons hAin
            have hv : v = .ref k := hv
            subst hv
            exact ⟨s2, by rw [hkt]; exact e8⟩
        · cases h
      · cases h
theorem ck_inv_ok {o i : Nat} {ins : Instr} {len : Nat} {rm : Room} (C : jv_C D vwCl kp G cc (ck_nm o) (ck_ws i) rm ck_NN) (hrm : (rm.frames = fr ∧ rm.locals = lo) ∧ cs ≤ rm.cells ∧ ss ≤ rm.slots) (hΓ : ∀ e ∈ Γ, ck_con l D kp ck_NN e) (hd : decode cc pc = .ok (ins, len)) (hl : ck_isT ins = true ∨ len = ck_len ins) (h : ck_inv Γ o fr lo mods pc ins S its = some (su, r)) (kk : ∀ q ∈ su, ck_Pr l D kp G cs ss m0 σ0 E0 mods q.1 q.2) (H : ck_H m0 σ0 E0 mods σ S E lv st) : jv_V l D vwCl kp G cs ss 84 E pc lv st := by
  unfold ck_inv at h
  split at h
  · rename_i idx
    have e9 : len = 3 := hl.resolve_left (fun q => nomatch q)
    subst e9
    split at h
    · rename_i mid hrt
      obtain ⟨⟨hcode, hini, hn1, hn2⟩, hlink, hinst, hsel, ⟨T, M, hcl⟩, hpar⟩ := ck_rtl_ok hrt
      obtain ⟨e, σ1, ar, st', rfl, rfl, hlen, hroom, hsum, hM, hk, hV, -⟩ := ck_cal_core hΓ h kk H
      obtain ⟨k, As, fs, rfl, hk6, hEk⟩ := hV rfl
      have hg : GoodIn (ck_ws i) (wsV (ck_nm o) idx (ck_my e.1).cls (ck_my e.1) (ck_ws e.1)) := by
        intro w hw
        rcases List.mem_append.mp hw with hw | hw
        · simp only [List.mem_cons, List.not_mem_nil, or_false] at hw
          rcases hw with rfl | rfl | rfl | rfl
          · exact ck_goodw hlink
          · exact ck_goodw hinst
          · exact ck_goodw hsel
          · exact ck_goodw hini
        · exact ck_goodws hcode w hw
      exact jv_callV (na := As.length) C hM hg rfl hk6 hEk hcl rfl rfl ⟨hn1, hn2, by rw [hpar]; congr 1; rw [List.length_cons] at hlen; show ck_ma e.1 - 1 = As.length; omega⟩ rfl (by rw [hrm.1.1, hrm.1.2]; exact hroom) hrm.2 (fun q h9 => h9) hsum (by rw [List.reverse_cons, List.append_assoc]; rfl) hd hk
    · rename_i mid hrt
      obtain ⟨⟨hcode, hini, hn1, hn2⟩, hlink, hinst, hsel, hcls, hpar⟩ := ck_rtl_ok hrt
      split at h
      · rename_i it r0
        split at h
        · rename_i e9 he9
          split at h
          · rename_i k t hkt
            split at h
            · rename_i hk
              obtain ⟨e, σ1, ar, st', rfl, rfl, hlen, hroom, hsum, hM, hkk, -, hH⟩ := ck_cal_core hΓ h kk H
              obtain ⟨As, rfl⟩ := hH it r0 e9 k t rfl he9 hkt
              obtain ⟨j, rfl⟩ : ∃ j, k = 1000001 + j := ⟨k - 1000001, by omega⟩
              have hg : GoodIn (ck_ws i) (wsV (ck_nm o) idx (ck_my e.1).cls (ck_my e.1) (ck_ws e.1)) := by
                intro w hw
                rcases List.mem_append.mp hw with hw | hw
                · simp only [List.mem_cons, List.not_mem_nil, or_false] at hw
                  rcases hw with rfl | rfl | rfl | rfl
                  · exact ck_goodw hlink
                  · exact ck_goodw hinst
                  · exact ck_goodw hsel
                  · exact ck_goodw hini
                · exact ck_goodws hcode w hw
              exact jz_call (na := As.length) C (by omega) hcls hM hg rfl rfl rfl ⟨hn1, hn2, by rw [hpar]; congr 1; rw [List.length_cons] at hlen; show ck_ma e.1 - 1 = As.length; omega⟩ rfl (by rw [hrm.1.1, hrm.1.2]; exact hroom) hrm.2 (fun q h9 => h9) hsum (by rw [List.reverse_cons, List.append_assoc]; rfl) hd hkk
            · cases h
          · cases h
        · cases h
      · cases h
    · cases h
  · rename_i idx
    have e9 : len = 3 := hl.resolve_left (fun q => nomatch q)
    subst e9
    split at h
    · rename_i mid hrt
      obtain ⟨⟨hcode, hini, hn1, hn2⟩, hlink, hstat, hpar⟩ := ck_rtl_ok hrt
      obtain ⟨e, σ1, ar, st', rfl, rfl, hlen, hroom, hsum, hM, hk, -, -⟩ := ck_cal_core hΓ h kk H
      have hg : GoodIn (ck_ws i) (va_wsS (ck_nm o) idx (ck_my e.1) (ck_ws e.1)) := by
        intro w hw
        rcases List.mem_append.mp hw with hw | hw
        · simp only [List.mem_cons, List.not_mem_nil, or_false] at hw
          rcases hw with rfl | rfl | rfl
          · exact ck_goodw hlink
          · exact ck_goodw hstat
          · exact ck_goodw hini
        · exact ck_goodws hcode w hw
      exact jv_callS (na := ar.length) C hM hg rfl rfl rfl ⟨hn1, hn2, by rw [hpar, hlen]⟩ rfl (by rw [hrm.1.1, hrm.1.2]; exact hroom) hrm.2 (fun q h9 => h9) hsum rfl hd hk
    · rename_i mid hrt
      obtain ⟨⟨hcode, hini, hn1, hn2⟩, ⟨host, hlink⟩, hstat, hpar⟩ := ck_rtl_ok hrt
      obtain ⟨e, σ1, ar, st', rfl, rfl, hlen, hroom, hsum, hM, hk, -, -⟩ := ck_cal_core hΓ h kk H
      exact jv_callSN (na := ar.length) C hM (ck_goodws hcode) rfl (ck_wsin hini) hlink (ck_wsin hstat) rfl rfl ⟨hn1, hn2, by rw [hpar, hlen]⟩ rfl (by rw [hrm.1.1, hrm.1.2]; exact hroom) hrm.2 (fun q h9 => h9) hsum rfl hd hk
    · rename_i x9 hrt
      exact ck_cpy_ok C hrm.1 (ck_rtl_ok hrt) hd h kk H
    · cases h
  · cases h
/-- a method's walk -/
theorem ck_ex_ok {e : ck_N} {pg : ck_Pg} {ND : List ck_D} {nr : Nat} {R : List ck_L} {σe : Nat → Int} {rm : Room} (C : jv_C D vwCl kp G cc (ck_nm (ck_mo e.1)) (ck_ws e.1) rm ck_NN) (hrm : (rm.frames = e.2.2.2.2.1 ∧ rm.locals = e.2.2.2.2.2) ∧ cs ≤ rm.cells ∧ ss ≤ rm.slots) (hret : ∀ (pc : Nat) (S : ck_S) (its r : List ck_I) (ins : Instr) (σ : Nat → Int) (E : Nat → jv_E) (lv : List (Nat × Value)) (st : List Value), decode cc pc = .ok (ins, 1) → ck_ret e ins S its = some r → ck_H m0 σ0 E0 e.2.2.2.1 σ S E lv st → jv_V l D vwCl kp G cs ss 84 E pc lv st) (hlaw : ∀ (pc len : Nat) (S : ck_S) (its r : List ck_I) (su : List (Nat × ck_S)) (ins : Instr) (σ : Nat → Int) (E : Nat → jv_E) (lv : List (Nat × Value)) (st : List Value), decode cc pc = .ok (ins, len) → ck_lwx e pc ins len S its = some (su, r) → (∀ q ∈ su, ck_Pr l D kp G cs ss m0 σ0 E0 e.2.2.2.1 q.1 q.2) → ck_H m0 σ0 E0 e.2.2.2.1 σ S E lv st → jv_V l D vwCl kp G cs ss 84 E pc lv st) (hnl : jv_nL G = ck_ml e.1) (hΓ : ∀ e ∈ Γ, ck_con l D kp ck_NN e) (hpg : ∀ q ∈ pg, decode cc q.1 = .ok (q.2.1, q.2.2)) (hok : ND.all (ck_dok e.2.1.1 nr) = true) (hm : e.2.1.1 ≤ m0) (he : ck_ag e.2.1.1 σe σ0) (hR : ∀ a ∈ R, ck_w m0 a) (ih : ck_IH l D kp G cs ss E0 e.2.2.2.1 e.2.1.1 σe ND (R.map fun a => (ck_ev σ0 a).toNat)) : ∀ (f : Nat) (b : Bool) (pc : Nat) (S : ck_S) (its r : List ck_I), ck_ex Γ e pg ND R f b pc S its = some r → ck_Pr l D kp G cs ss m0 σ0 E0 e.2.2.2.1 pc S
  | 0, _, _, _, _, _, h => by cases h
  | f + 1, b, pc, S, its, r, h => by
    have rec9 := ck_ex_ok C hrm hret hlaw hnl hΓ hpg hok hm he hR ih f false
    intro σ E lv st H
    unfold ck_ex at h
    split at h
    · rename_i q9 gl gr hgl
      split at hgl
      · rename_i it r0
        split at hgl
        · cases hgo : ck_gho Γ S it with
          | none => rw [hgo] at hgl; cases hgl
          | some l9 =>
            rw [hgo] at hgl
            cases hgl
            have k9 := ck_exl_ok (P := ck_Pr l D kp G cs ss m0 σ0 E0 e.2.2.2.1) (fun pc S its r h9 => ck_ex_ok C hrm hret hlaw hnl hΓ hpg hok hm he hR ih f b pc S its r h9) _ _ _ h
            exact ck_gho_ok hΓ hgo (fun S2 h9 => k9 (pc, S2) (List.mem_map.mpr ⟨S2, h9, rfl⟩)) H
        · cases hgl
      · cases hgl
    split at h
    · split at h
      · rename_i it r0
        split at h
        · rename_i hc
          exact ck_edg_ok hc hok H hm he hR ih
        · cases h
      · cases h
    · split at h
      · cases h
      · rename_i ins len hat
        have hdec : decode cc pc = .ok (ins, len) := by
          unfold ck_at9 at hat
          cases hf : pg.find? (fun q => Nat.beq q.1 pc) with
          | none => rw [hf] at hat; cases hat
          | some p =>
            rw [hf] at hat
            have hp := List.find?_some hf
            have h1 : p.1 = pc := Nat.eq_of_beq_eq_true hp
            have h2 : p.2 = (ins, len) := Option.some.inj hat
            have h3 := hpg p (List.mem_of_find?_eq_some hf)
            rw [h1, h2] at h3
            exact h3
        split at h
        · rename_i r1 hrt
          split at h
          · rename_i hl1
            subst hl1
            exact hret _ _ _ _ _ _ _ _ _ hdec hrt H
          · cases h
        · split at h
          · rename_i su r1 hlx
            exact hlaw _ _ _ _ _ _ _ _ _ _ _ hdec hlx (ck_exl_ok (P := ck_Pr l D kp G cs ss m0 σ0 E0 e.2.2.2.1) (fun pc S its r h9 => rec9 pc S its r h9) su r1 r h) H
          split at h
          · rename_i hl
            split at h
            · rename_i su r1 hinv
              exact ck_inv_ok C hrm hΓ hdec hl hinv (ck_exl_ok (P := ck_Pr l D kp G cs ss m0 σ0 E0 e.2.2.2.1) (fun pc S its r h9 => rec9 pc S its r h9) su r1 r h) H
            · split at h
              · rename_i su r1 hst
                exact ck_sto_ok C hΓ hdec hl hst (ck_exl_ok (P := ck_Pr l D kp G cs ss m0 σ0 E0 e.2.2.2.1) (fun pc S its r h9 => rec9 pc S its r h9) su r1 r h) H
              split at h
              · rename_i su r1 hst
                exact ck_step_ok C (fun w h9 => ck_wsin h9) hnl hdec hl hst (ck_exl_ok (P := ck_Pr l D kp G cs ss m0 σ0 E0 e.2.2.2.1) (fun pc S its r h9 => rec9 pc S its r h9) su r1 r h) H
              · cases h
          · cases h
theorem ck_la_ok {n : Nat} : ∀ {K : List ck_V} {ar : List Value} (i : Nat), ck_rs σ n K ar → ck_rl σ n (ck_la i K) (lv_args i ar)
  | [], [], _, _ => trivial
  | a :: K, v :: ar, i, h => by
    show i = i ∧ ck_gv σ n a v ∧ ck_rl σ n (ck_la (if ck_cat a = 2 then i + 2 else i + 1) K) (lv_args (if v.category = 2 then i + 2 else i + 1) ar)
    rw [ck_gv_cat h.1]
    exact ⟨rfl, h.1, ck_la_ok _ h.2⟩
theorem ck_sl_len {n : Nat} : ∀ {K : List ck_V} {ar : List Value}, ck_rs σ n K ar → (lg_sl ar).length ≤ (K.map ck_cat).sum
  | [], [], _ => Nat.le_refl _
  | a :: K, v :: ar, h => by
    have ih := ck_sl_len h.2
    unfold lg_sl at ih ⊢
    rw [List.flatMap_cons, List.length_append, List.map_cons, List.sum_cons, ← ck_gv_cat h.1]
    have h2 : (if v.category = 2 then [Slot.val v, Slot.second] else [Slot.val v]).length ≤ v.category := by
      rw [ck_gv_cat h.1]
      rcases a with (a | a) | a
      · show (if (1 : Nat) = 2 then [Slot.val v, Slot.second] else [Slot.val v]).length ≤ 1
        rw [if_neg (by decide)]; exact Nat.le_refl _
      · show (if (2 : Nat) = 2 then [Slot.val v, Slot.second] else [Slot.val v]).length ≤ 2
        rw [if_pos rfl]; exact Nat.le_refl _
      · show (if (1 : Nat) = 2 then [Slot.val v, Slot.second] else [Slot.val v]).length ≤ 1
        rw [if_neg (by decide)]; exact Nat.le_refl _
    omega
/-- AN ENTRY THAT THE CHECKER PASSES HOLDS -/
theorem ck_chk_ok {e : ck_N} {pg : ck_Pg} {fu : Nat} {ND : List ck_D} {sc : List (List ck_I)} (hΓ : ∀ e ∈ Γ, ck_con l D kp ck_NN e) (hpl : plainFor (ck_my e.1) = true) (hcl : (ck_my e.1).cls = ck_nm (ck_mo e.1)) (hpg : ∀ q ∈ pg, decode (ck_mc e.1) q.1 = .ok (q.2.1, q.2.2)) (h : ck_chk Γ e pg fu ND sc = true) : ck_con l D kp ck_NN e := by
  unfold ck_chk at h
  obtain ⟨h1, h2⟩ := Bool.and_eq_true_iff.mp h
  obtain ⟨hd0, h1⟩ := Bool.and_eq_true_iff.mp h1
  obtain ⟨hcat, hscl, h9998⟩ := of_decide_eq_true h1
  have h9999 : e.1 < 9999 := by omega
  obtain ⟨hok, hall⟩ := Bool.and_eq_true_iff.mp h2
  refine (ck_con_M h9999).mpr ?_
  intro σe E0 ar hgi hf hargs hpn hfl
  refine ck_of hpl rfl (Nat.le_trans (ck_sl_len hargs) hcat) (fun G C B hI hnl => ?_)
  rw [hcl] at C
  have main : ∀ w : List Nat, w.length = ((ND.head?).map (fun d => d.2.2.length)).getD 0 → ∀ d ∈ ND, ∀ (σ : Nat → Int) (E : Nat → jv_E) (lv : List (Nat × Value)) (st : List Value), d.2.2.map (fun a => (ck_ev σ a).toNat) = w → ck_ag e.2.1.1 σe σ → ck_g σ d.2.1 E lv st → (∀ k, k ∉ e.2.2.2.1 → E k = E0 k) → jv_V l D vwCl kp G 0 0 84 E d.1 lv st := by
    refine ck_acc _ _ (fun w hw ih => ?_)
    intro d hdm σ E lv st hwd hag hg hfr
    have hdo := List.all_eq_true.mp hok d hdm
    unfold ck_dok at hdo
    simp only [Bool.and_eq_true_iff] at hdo
    obtain ⟨hmn, ⟨⟨⟨⟨kf, kl⟩, ks⟩, kpn⟩, kr⟩, kn⟩ := hdo
    obtain ⟨j, hj, hdj⟩ := List.getElem_of_mem hdm
    have hz : (d, sc[j]'(by omega)) ∈ List.zip ND sc := by
      have : (List.zip ND sc)[j]'(by rw [List.length_zip]; omega) = (d, sc[j]'(by omega)) := by
        rw [List.getElem_zip, hdj]
      rw [← this]
      exact List.getElem_mem _
    have hx := List.all_eq_true.mp hall _ hz
    dsimp only at hx
    split at hx
    · rename_i hex
      refine ck_ex_ok C ⟨⟨rfl, rfl⟩, Nat.le_refl _, Nat.le_refl _⟩ (fun pc S its r ins σ E lv st hd9 hr9 H9 => ck_ret_ok C B hd9 (by omega) hr9 H9 (Nat.le_of_ble_eq_true hmn) hag) (fun pc len S its r su ins σ E lv st _ hx9 _ _ => by unfold ck_lwx at hx9; rw [if_neg (by unfold ck_lawno; omega)] at hx9; cases hx9) hnl hΓ hpg hok (Nat.le_of_ble_eq_true hmn) hag (fun a ha => ck_wb_ok (List.all_eq_true.mp kr a ha)) ?_ fu true d.1 d.2.1 _ _ hex σ E lv st ⟨Nat.le_refl _, ck_ag_rf, hg, hfr⟩
      intro d2 hd2 σ2 E2 lv2 st2 hlx hag2 hg2 hfr2
      have hdo2 := List.all_eq_true.mp hok d2 hd2
      unfold ck_dok at hdo2
      simp only [Bool.and_eq_true_iff] at hdo2
      refine ih (d2.2.2.map fun a => (ck_ev σ2 a).toNat) (by rw [List.length_map]; exact Nat.eq_of_beq_eq_true hdo2.2.2) (by rw [← hwd]; exact hlx) d2 hd2 σ2 E2 lv2 st2 rfl hag2 hg2 hfr2
    · cases hx
  cases hND : ND with
  | nil => rw [hND] at hd0; cases hd0
  | cons d t =>
    rw [hND] at hd0
    obtain ⟨e1, g1, g2, g3, g4, g5, g6⟩ := of_decide_eq_true hd0
    have g3 := ck_eqN_ok g3
    have g4 := List.isEmpty_iff.mp g4
    have e2 : d.2.1 = (e.2.1.1, e.2.1.2.1, ck_la 0 e.2.1.2.2.1, [], e.2.1.2.2.2.1, e.2.1.2.2.2.2) := by
      rw [← g1, ← g2, ← g3, ← g4, ← g5, ← g6]
    have hdm : d ∈ ND := by rw [hND]; exact List.mem_cons_self
    have hdo := List.all_eq_true.mp hok d hdm
    unfold ck_dok at hdo
    simp only [Bool.and_eq_true_iff] at hdo
    have kf := hdo.2.1.1.1.1.1
    have := main (d.2.2.map fun a => (ck_ev σe a).toNat) (by rw [List.length_map]; exact Nat.eq_of_beq_eq_true hdo.2.2) d hdm σe E0 (lv_args 0 ar) [] rfl ck_ag_rf (by
      rw [e2] at kf ⊢
      exact ⟨hgi, ⟨hf, fun f h9 => ck_wb_ok (List.all_eq_true.mp kf f h9)⟩, ck_la_ok 0 hargs, trivial, hpn, hfl⟩) (fun _ _ => rfl)
    rw [e1] at this
    exact this
end CK14
