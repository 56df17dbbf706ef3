def pg_X9_behind : ck_Pg := [(0, .iload_n 0, 1), (1, .iconst 1, 1), (2, .iand, 1), (3, .ifCond .ne 15, 3), (6, .iload_n 1, 1), (7, .ifCond .ne 9, 3), (10, .iload_n 0, 1), (11, .iconst 1, 1), (12, .ishr, 1), (13, .goto 4, 3), (16, .iconst (-1), 1), (17, .ireturn, 1), (18, .iload_n 1, 1), (19, .ifCond .eq 12, 3), (22, .iload_n 0, 1), (23, .iload_n 1, 1), (24, .ishr, 1), (25, .iconst 1, 1), (26, .iand, 1), (27, .iconst 1, 1), (28, .if_icmp .ne 7, 3), (31, .iconst (-1), 1), (32, .goto 12, 3), (35, .iload_n 0, 1), (36, .iconst 1, 1), (37, .ishr, 1), (38, .iconst 1, 1), (39, .iload_n 1, 1), (40, .iconst 1, 1), (41, .isub, 1), (42, .ishl, 1), (43, .ior, 1), (44, .ireturn, 1)]
theorem pg_X9_behind_ok : ∀ q ∈ pg_X9_behind, decode (ck_mc 144) q.1 = .ok (q.2.1, q.2.2) := by decide +kernel
def ceXbehind : ck_N := ((144), (2, [(0, [(0, 1)]), (511, [(0, (-1))]), (0, [(1, 1)]), (9, [(1, (-1))])], [.inl (.inl (0, [(0, 1)])), .inl (.inl (0, [(1, 1)]))], [], [0, 1, 2, 3]), [(3, [(0, [(2, 1)]), (511, [(2, (-1))])], some (.inl (.inl (0, [(2, 1)]))), [(203, (0, [(0, 10), (1, 1)]), (0, [(2, 1)]))], [0, 1, 2, 3]), (2, [], some (.inl (.inl ((-1), []))), [(203, (0, [(0, 10), (1, 1)]), ((-1), []))], [0, 1, 2, 3])], [], 0, 0)
/-! contracts by hand -/
theorem vf_bhr0 : ∀ s, s < 512 → ∀ h, h < 10 → vf_bh ((s : Nat) : Int) ((h : Nat) : Int) = -1 ∨ 0 ≤ vf_bh ((s : Nat) : Int) ((h : Nat) : Int) := by decide +kernel
theorem ck_hand {l : Launch} {D : va_G} {kp : Nat → ClassId} {e : ck_N} (h9 : e.1 < 9999) (hpl : plainFor (ck_my e.1) = true) (hsl : (e.2.1.2.2.1.map ck_cat).sum ≤ ck_ml e.1) (hb : ∀ (σ : Nat → Int) (E : Nat → jv_E) (ar : List Value), ck_gi E → ck_hs σ e.2.1.2.1 → ck_rs σ e.2.1.1 e.2.1.2.2.1 ar → ck_gp σ e.2.1.1 e.2.1.2.2.2.1 E → ck_gf e.2.1.2.2.2.2 E → ∀ (G : jv_G) (cc : ByteArray) (own : String) (Ts : List Cond) (rm : Room) (N : jv_N), jv_C D vwCl kp G cc own Ts rm N → cc = ck_mc e.1 → jv_R D vwCl kp G E (ck_mr e.1) 0 0 (ck_post e σ E) → jv_nL G = ck_ml e.1 → jv_V l D vwCl kp G 0 0 84 E 0 (lv_args 0 ar) []) : ck_con l D kp ck_NN e := by
  refine (ck_con_M h9).mpr ?_
  intro σ E ar hgi hf hargs hpn hfl
  refine ck_of hpl rfl (Nat.le_trans (ck_sl_len hargs) hsl) (fun G C B hI hnl => ?_)
  exact hb σ E ar hgi hf hargs hpn hfl G _ _ _ _ _ C rfl B hnl
theorem hb_mr : ck_mr ceXbehind.1 = some .int := rfl
theorem hb_dd {cc : ByteArray} (h : cc = ck_mc ceXbehind.1) (pc : Nat) (i : Instr) (n : Nat) (hm : (pc, i, n) ∈ pg_X9_behind) : decode cc pc = .ok (i, n) := by
  have e : ceXbehind.1 = 144 := rfl
  rw [h, e]
  have h9 := pg_X9_behind_ok (pc, i, n) hm
  exact h9
theorem ccXbehind {l : Launch} {D : va_G} {kp : Nat → ClassId} : ck_con l D kp ck_NN ceXbehind := by
  refine ck_hand (by decide) (by decide +kernel) (by decide +kernel) ?_
  intro σ E ar hgi hF hargs hP hΦ G cc own Ts rm N C hcc B hnl
  rw [hb_mr] at B
  obtain ⟨a1, s1, rfl, ⟨w1, x, rfl, hx⟩, hs1⟩ := ck_rs_cons hargs
  obtain ⟨a2, s2, rfl, ⟨w2, y, rfl, hy⟩, hs2⟩ := ck_rs_cons hs1
  have e3 := ck_rs_nil hs2
  subst e3
  have f0 : (0 : Int) ≤ 0 + (1 * σ 0 + 0) := hF _ (List.mem_of_getElem? (i := 0) rfl)
  have f1 : (0 : Int) ≤ 511 + (-1 * σ 0 + 0) := hF _ (List.mem_of_getElem? (i := 1) rfl)
  have f2 : (0 : Int) ≤ 0 + (1 * σ 1 + 0) := hF _ (List.mem_of_getElem? (i := 2) rfl)
  have f3 : (0 : Int) ≤ 9 + (-1 * σ 1 + 0) := hF _ (List.mem_of_getElem? (i := 3) rfl)
  have hx : x.toInt = 0 + (1 * σ 0 + 0) := hx
  have hy : y.toInt = 0 + (1 * σ 1 + 0) := hy
  have ez : ∀ z : Int32, z = vf_bI x y → ck_post ceXbehind σ E (some (.int z)) 84 E := fun z hz => by
    have e1 : z.toInt = vf_bh (σ 0) (σ 1) := by
      unfold vf_bh
      rw [hz, show σ 0 = x.toInt by omega, show σ 1 = y.toInt by omega, cn_ofI, cn_ofI]
    have e2 := vf_bhr0 (σ 0).toNat (by omega) (σ 1).toNat (by omega)
    rw [Int.toNat_of_nonneg (by omega), Int.toNat_of_nonneg (by omega)] at e2
    have e4 := vf_bhb (s := σ 0) (h := σ 1) (by omega) (by omega) (by omega) (by omega)
    refine ⟨rfl, hgi, fun _ _ => rfl, ?_⟩
    rcases e2 with e2 | e2
    · refine ⟨_, List.mem_of_getElem? (i := 1) rfl, σ, ck_ag_rf, fun _ h => absurd h List.not_mem_nil, fun _ h => absurd h List.not_mem_nil, ⟨ck_wb_ok rfl, z, rfl, ?_⟩, List.forall_mem_cons.mpr ⟨⟨⟨ck_wb_ok rfl, ck_wb_ok rfl⟩, ?_, ?_⟩, fun _ h => absurd h List.not_mem_nil⟩, hΦ⟩
      · show z.toInt = -1 + 0
        omega
      · show (0 : Int) ≤ 0 + (10 * σ 0 + (1 * σ 1 + 0))
        omega
      · show ck_lk E 203 (0 + (10 * σ 0 + (1 * σ 1 + 0))) = -1 + 0
        rw [k203 (s := σ 0) (h := σ 1) (by omega) (by omega) (by omega)]; omega
    · refine ⟨_, List.mem_of_getElem? (i := 0) rfl, (fun i => if i = 2 then z.toInt else σ i), (fun i hi => by show (if i = 2 then z.toInt else σ i) = σ i; rw [if_neg (show ¬ i = 2 by have : i < 2 := hi; omega)]), List.forall_mem_cons.mpr ⟨?_, List.forall_mem_cons.mpr ⟨?_, fun _ h => absurd h List.not_mem_nil⟩⟩, (fun f hf => ck_wb_ok (List.all_eq_true.mp (show List.all _ (ck_wb 3) = true from rfl) f hf)), ⟨ck_wb_ok rfl, z, rfl, ?_⟩, List.forall_mem_cons.mpr ⟨⟨⟨ck_wb_ok rfl, ck_wb_ok rfl⟩, ?_, ?_⟩, fun _ h => absurd h List.not_mem_nil⟩, hΦ⟩
      · show (0 : Int) ≤ 0 + (1 * z.toInt + 0)
        omega
      · show (0 : Int) ≤ 511 + (-1 * z.toInt + 0)
        omega
      · show z.toInt = 0 + (1 * z.toInt + 0)
        omega
      · show (0 : Int) ≤ 0 + (10 * σ 0 + (1 * σ 1 + 0))
        omega
      · show ck_lk E 203 (0 + (10 * σ 0 + (1 * σ 1 + 0))) = 0 + (1 * z.toInt + 0)
        rw [k203 (s := σ 0) (h := σ 1) (by omega) (by omega) (by omega)]; omega
  have dd := hb_dd hcc
  clear hcc hnl
  show jv_V l D vwCl kp G 0 0 84 E 0 [(0, .int x), (1, .int y)] []
  refine jv_iload_n C (dd 0 (.iload_n 0) 1 (List.mem_of_getElem? (i := 0) rfl)) 0 rfl ?_
  refine jv_iconst (v := 1) C (dd 1 (.iconst 1) 1 (List.mem_of_getElem? (i := 1) rfl)) (by decide) ?_
  refine jv_iand C (dd 2 .iand 1 (List.mem_of_getElem? (i := 2) rfl)) ?_
  refine jv_if_ne (tgt := 18) C (dd 3 (.ifCond .ne 15) 3 (List.mem_of_getElem? (i := 3) rfl)) (by decide) (fun h1 => ?_) (fun h1 => ?_)
  · refine jv_iload_n C (dd 18 (.iload_n 1) 1 (List.mem_of_getElem? (i := 12) rfl)) 1 rfl ?_
    refine jv_if_eq (tgt := 31) C (dd 19 (.ifCond .eq 12) 3 (List.mem_of_getElem? (i := 13) rfl)) (by decide) (fun h2 => ?_) (fun h2 => ?_)
    · refine jv_iconst (v := -1) C (dd 31 (.iconst (-1)) 1 (List.mem_of_getElem? (i := 21) rfl)) (by decide) ?_
      refine jv_goto (tgt := 44) C (dd 32 (.goto 12) 3 (List.mem_of_getElem? (i := 22) rfl)) (by decide) ?_
      exact jv_iret C B (ez _ (by unfold vf_bI; rw [if_neg h1, if_pos h2])) ⟨Nat.le_refl _, Nat.le_refl _⟩ (dd 44 .ireturn 1 (List.mem_of_getElem? (i := 32) rfl))
    · refine jv_iload_n C (dd 22 (.iload_n 0) 1 (List.mem_of_getElem? (i := 14) rfl)) 0 rfl ?_
      refine jv_iload_n C (dd 23 (.iload_n 1) 1 (List.mem_of_getElem? (i := 15) rfl)) 1 rfl ?_
      refine jv_ishr C (dd 24 .ishr 1 (List.mem_of_getElem? (i := 16) rfl)) ?_
      refine jv_iconst (v := 1) C (dd 25 (.iconst 1) 1 (List.mem_of_getElem? (i := 17) rfl)) (by decide) ?_
      refine jv_iand C (dd 26 .iand 1 (List.mem_of_getElem? (i := 18) rfl)) ?_
      refine jv_iconst (v := 1) C (dd 27 (.iconst 1) 1 (List.mem_of_getElem? (i := 19) rfl)) (by decide) ?_
      refine jv_icmp_ne (tgt := 35) C (dd 28 (.if_icmp .ne 7) 3 (List.mem_of_getElem? (i := 20) rfl)) (by decide) (fun h3 => ?_) (fun h3 => ?_)
      · refine jv_iload_n C (dd 35 (.iload_n 0) 1 (List.mem_of_getElem? (i := 23) rfl)) 0 rfl ?_
        refine jv_iconst (v := 1) C (dd 36 (.iconst 1) 1 (List.mem_of_getElem? (i := 24) rfl)) (by decide) ?_
        refine jv_ishr C (dd 37 .ishr 1 (List.mem_of_getElem? (i := 25) rfl)) ?_
        refine jv_iconst (v := 1) C (dd 38 (.iconst 1) 1 (List.mem_of_getElem? (i := 26) rfl)) (by decide) ?_
        refine jv_iload_n C (dd 39 (.iload_n 1) 1 (List.mem_of_getElem? (i := 27) rfl)) 1 rfl ?_
        refine jv_iconst (v := 1) C (dd 40 (.iconst 1) 1 (List.mem_of_getElem? (i := 28) rfl)) (by decide) ?_
        refine jv_isub C (dd 41 .isub 1 (List.mem_of_getElem? (i := 29) rfl)) ?_
        refine jv_ishl C (dd 42 .ishl 1 (List.mem_of_getElem? (i := 30) rfl)) ?_
        refine jv_ior C (dd 43 .ior 1 (List.mem_of_getElem? (i := 31) rfl)) ?_
        exact jv_iret C B (ez _ (by unfold vf_bI; rw [if_neg h1, if_neg h2, if_neg h3])) ⟨Nat.le_refl _, Nat.le_refl _⟩ (dd 44 .ireturn 1 (List.mem_of_getElem? (i := 32) rfl))
      · refine jv_iconst (v := -1) C (dd 31 (.iconst (-1)) 1 (List.mem_of_getElem? (i := 21) rfl)) (by decide) ?_
        refine jv_goto (tgt := 44) C (dd 32 (.goto 12) 3 (List.mem_of_getElem? (i := 22) rfl)) (by decide) ?_
        exact jv_iret C B (ez _ (by unfold vf_bI; rw [if_neg h1, if_neg h2, if_pos h3])) ⟨Nat.le_refl _, Nat.le_refl _⟩ (dd 44 .ireturn 1 (List.mem_of_getElem? (i := 32) rfl))
  · refine jv_iload_n C (dd 6 (.iload_n 1) 1 (List.mem_of_getElem? (i := 4) rfl)) 1 rfl ?_
    refine jv_if_ne (tgt := 16) C (dd 7 (.ifCond .ne 9) 3 (List.mem_of_getElem? (i := 5) rfl)) (by decide) (fun h2 => ?_) (fun h2 => ?_)
    · refine jv_iconst (v := -1) C (dd 16 (.iconst (-1)) 1 (List.mem_of_getElem? (i := 10) rfl)) (by decide) ?_
      exact jv_iret C B (ez _ (by unfold vf_bI; rw [if_pos h1, if_neg h2])) ⟨Nat.le_refl _, Nat.le_refl _⟩ (dd 17 .ireturn 1 (List.mem_of_getElem? (i := 11) rfl))
    · refine jv_iload_n C (dd 10 (.iload_n 0) 1 (List.mem_of_getElem? (i := 6) rfl)) 0 rfl ?_
      refine jv_iconst (v := 1) C (dd 11 (.iconst 1) 1 (List.mem_of_getElem? (i := 7) rfl)) (by decide) ?_
      refine jv_ishr C (dd 12 .ishr 1 (List.mem_of_getElem? (i := 8) rfl)) ?_
      refine jv_goto (tgt := 17) C (dd 13 (.goto 4) 3 (List.mem_of_getElem? (i := 9) rfl)) (by decide) ?_
      exact jv_iret C B (ez _ (by unfold vf_bI; rw [if_pos h1, if_pos h2])) ⟨Nat.le_refl _, Nat.le_refl _⟩ (dd 17 .ireturn 1 (List.mem_of_getElem? (i := 11) rfl))
