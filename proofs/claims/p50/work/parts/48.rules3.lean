/-! THE RULES, images that were kept -/
def ceBK16_0 : ck_N := (10016, (3, [(0, [(0, 1)]), (0, [(0, (-1))])], [.inl (.inl (0, [(0, 1)])), .inl (.inl (1, []))], [(16, (1, []), (0, [(1, 1)])), (16, (2, []), (0, [(2, 1)]))], []), [(3, [], none, [(16, (0, []), (1, [])), (16, (1, []), (0, [(1, 1)])), (16, (2, []), (0, [(2, 1)]))], [])], [], 0, 0)
def ceBK16_1 : ck_N := (10016, (3, [((-1), [(0, 1)]), (1, [(0, (-1))])], [.inl (.inl (0, [(0, 1)])), .inl (.inl (1, []))], [(16, (0, []), (0, [(1, 1)])), (16, (2, []), (0, [(2, 1)]))], []), [(3, [], none, [(16, (1, []), (1, [])), (16, (0, []), (0, [(1, 1)])), (16, (2, []), (0, [(2, 1)]))], [])], [], 0, 0)
def ceBK16_2 : ck_N := (10016, (3, [((-2), [(0, 1)]), (2, [(0, (-1))])], [.inl (.inl (0, [(0, 1)])), .inl (.inl (1, []))], [(16, (0, []), (0, [(1, 1)])), (16, (1, []), (0, [(2, 1)]))], []), [(3, [], none, [(16, (2, []), (1, [])), (16, (0, []), (0, [(1, 1)])), (16, (1, []), (0, [(2, 1)]))], [])], [], 0, 0)
def ceBK74_0 : ck_N := (10074, (3, [(0, [(0, 1)]), (0, [(0, (-1))])], [.inl (.inl (0, [(0, 1)])), .inl (.inl (1, []))], [(74, (1, []), (0, [(1, 1)])), (74, (2, []), (0, [(2, 1)]))], []), [(3, [], none, [(74, (0, []), (1, [])), (74, (1, []), (0, [(1, 1)])), (74, (2, []), (0, [(2, 1)]))], [])], [], 0, 0)
def ceBK74_1 : ck_N := (10074, (3, [((-1), [(0, 1)]), (1, [(0, (-1))])], [.inl (.inl (0, [(0, 1)])), .inl (.inl (1, []))], [(74, (0, []), (0, [(1, 1)])), (74, (2, []), (0, [(2, 1)]))], []), [(3, [], none, [(74, (1, []), (1, [])), (74, (0, []), (0, [(1, 1)])), (74, (2, []), (0, [(2, 1)]))], [])], [], 0, 0)
def ceBK74_2 : ck_N := (10074, (3, [((-2), [(0, 1)]), (2, [(0, (-1))])], [.inl (.inl (0, [(0, 1)])), .inl (.inl (1, []))], [(74, (0, []), (0, [(1, 1)])), (74, (1, []), (0, [(2, 1)]))], []), [(3, [], none, [(74, (2, []), (1, [])), (74, (0, []), (0, [(1, 1)])), (74, (1, []), (0, [(2, 1)]))], [])], [], 0, 0)
theorem rpBK16_0 : ck_scon ceBK16_0 16 := by
  intro σ E e' idx v hargs hgi hF hP hΦ hgi2 h0 l1 l2
  cases hargs
  have h0 : (0 : Int) ≤ 0 + (1 * σ 0 + 0) := h0
  have l1 : ck_loc e' (0 + (1 * σ 0 + 0)) = 1 + 0 := l1
  have l2 : ∀ j, 0 ≤ j → ¬ j = 0 + (1 * σ 0 + 0) → ck_loc e' j = ck_loc (E 16) j := l2
  have f0 : (0 : Int) ≤ 0 + (1 * σ 0 + 0) := hF _ (List.mem_of_getElem? (i := 0) rfl)
  have f1 : (0 : Int) ≤ 0 + ((-1) * σ 0 + 0) := hF _ (List.mem_of_getElem? (i := 1) rfl)
  have p0 : ck_lk E 16 (1 + 0) = 0 + (1 * σ 1 + 0) := (hP _ (List.mem_of_getElem? (i := 0) rfl)).2.2
  have q0 : (0 : Int) ≤ 1 + 0 := (hP _ (List.mem_of_getElem? (i := 0) rfl)).2.1
  have p1 : ck_lk E 16 (2 + 0) = 0 + (1 * σ 2 + 0) := (hP _ (List.mem_of_getElem? (i := 1) rfl)).2.2
  have q1 : (0 : Int) ≤ 2 + 0 := (hP _ (List.mem_of_getElem? (i := 1) rfl)).2.1
  have key : (((0 : Int) ≤ 0 + 0 ∧ ck_lk (va_up E 16 e') 16 (0 + 0) = 1 + 0) ∧ ((0 : Int) ≤ 1 + 0 ∧ ck_lk (va_up E 16 e') 16 (1 + 0) = 0 + (1 * σ 1 + 0)) ∧ ((0 : Int) ≤ 2 + 0 ∧ ck_lk (va_up E 16 e') 16 (2 + 0) = 0 + (1 * σ 2 + 0)) ∧ True) := by
    have hs : (0 : Int) + (1 * σ 0 + 0) = 0 + 0 := by omega
    refine ⟨⟨by decide, ?_⟩, ⟨by decide, ?_⟩, ⟨by decide, ?_⟩, trivial⟩
    · rw [ck_lk_c (by decide), va_up_self]
      rw [hs] at l1
      exact l1
    · rw [ck_lk_c (by decide), va_up_self, l2 (1 + 0) (by decide) (by omega)]
      rw [ck_lk_c (by decide)] at p0
      exact p0
    · rw [ck_lk_c (by decide), va_up_self, l2 (2 + 0) (by decide) (by omega)]
      rw [ck_lk_c (by decide)] at p1
      exact p1
  obtain ⟨k0, k1, k2, -⟩ := key
  exact ⟨_, (List.mem_of_getElem? (i := 0) rfl), σ, ck_ag_rf, (fun _ h => absurd h List.not_mem_nil), (fun _ h => absurd h List.not_mem_nil), trivial, (List.forall_mem_cons.mpr ⟨⟨⟨ck_wb_ok rfl, ck_wb_ok rfl⟩, k0⟩, (List.forall_mem_cons.mpr ⟨⟨⟨ck_wb_ok rfl, ck_wb_ok rfl⟩, k1⟩, (List.forall_mem_cons.mpr ⟨⟨⟨ck_wb_ok rfl, ck_wb_ok rfl⟩, k2⟩, (fun _ h => absurd h List.not_mem_nil)⟩)⟩)⟩), (fun _ h => absurd h List.not_mem_nil)⟩
theorem ccBK16_0 {l : Launch} {D : va_G} {kp : Nat → ClassId} : ck_con l D kp ck_NN ceBK16_0 := ck_con_s (k := 16) rfl rpBK16_0
theorem rpBK16_1 : ck_scon ceBK16_1 16 := by
  intro σ E e' idx v hargs hgi hF hP hΦ hgi2 h0 l1 l2
  cases hargs
  have h0 : (0 : Int) ≤ 0 + (1 * σ 0 + 0) := h0
  have l1 : ck_loc e' (0 + (1 * σ 0 + 0)) = 1 + 0 := l1
  have l2 : ∀ j, 0 ≤ j → ¬ j = 0 + (1 * σ 0 + 0) → ck_loc e' j = ck_loc (E 16) j := l2
  have f0 : (0 : Int) ≤ (-1) + (1 * σ 0 + 0) := hF _ (List.mem_of_getElem? (i := 0) rfl)
  have f1 : (0 : Int) ≤ 1 + ((-1) * σ 0 + 0) := hF _ (List.mem_of_getElem? (i := 1) rfl)
  have p0 : ck_lk E 16 (0 + 0) = 0 + (1 * σ 1 + 0) := (hP _ (List.mem_of_getElem? (i := 0) rfl)).2.2
  have q0 : (0 : Int) ≤ 0 + 0 := (hP _ (List.mem_of_getElem? (i := 0) rfl)).2.1
  have p1 : ck_lk E 16 (2 + 0) = 0 + (1 * σ 2 + 0) := (hP _ (List.mem_of_getElem? (i := 1) rfl)).2.2
  have q1 : (0 : Int) ≤ 2 + 0 := (hP _ (List.mem_of_getElem? (i := 1) rfl)).2.1
  have key : (((0 : Int) ≤ 1 + 0 ∧ ck_lk (va_up E 16 e') 16 (1 + 0) = 1 + 0) ∧ ((0 : Int) ≤ 0 + 0 ∧ ck_lk (va_up E 16 e') 16 (0 + 0) = 0 + (1 * σ 1 + 0)) ∧ ((0 : Int) ≤ 2 + 0 ∧ ck_lk (va_up E 16 e') 16 (2 + 0) = 0 + (1 * σ 2 + 0)) ∧ True) := by
    have hs : (0 : Int) + (1 * σ 0 + 0) = 1 + 0 := by omega
    refine ⟨⟨by decide, ?_⟩, ⟨by decide, ?_⟩, ⟨by decide, ?_⟩, trivial⟩
    · rw [ck_lk_c (by decide), va_up_self]
      rw [hs] at l1
      exact l1
    · rw [ck_lk_c (by decide), va_up_self, l2 (0 + 0) (by decide) (by omega)]
      rw [ck_lk_c (by decide)] at p0
      exact p0
    · rw [ck_lk_c (by decide), va_up_self, l2 (2 + 0) (by decide) (by omega)]
      rw [ck_lk_c (by decide)] at p1
      exact p1
  obtain ⟨k0, k1, k2, -⟩ := key
  exact ⟨_, (List.mem_of_getElem? (i := 0) rfl), σ, ck_ag_rf, (fun _ h => absurd h List.not_mem_nil), (fun _ h => absurd h List.not_mem_nil), trivial, (List.forall_mem_cons.mpr ⟨⟨⟨ck_wb_ok rfl, ck_wb_ok rfl⟩, k0⟩, (List.forall_mem_cons.mpr ⟨⟨⟨ck_wb_ok rfl, ck_wb_ok rfl⟩, k1⟩, (List.forall_mem_cons.mpr ⟨⟨⟨ck_wb_ok rfl, ck_wb_ok rfl⟩, k2⟩, (fun _ h => absurd h List.not_mem_nil)⟩)⟩)⟩), (fun _ h => absurd h List.not_mem_nil)⟩
theorem ccBK16_1 {l : Launch} {D : va_G} {kp : Nat → ClassId} : ck_con l D kp ck_NN ceBK16_1 := ck_con_s (k := 16) rfl rpBK16_1
theorem rpBK16_2 : ck_scon ceBK16_2 16 := by
  intro σ E e' idx v hargs hgi hF hP hΦ hgi2 h0 l1 l2
  cases hargs
  have h0 : (0 : Int) ≤ 0 + (1 * σ 0 + 0) := h0
  have l1 : ck_loc e' (0 + (1 * σ 0 + 0)) = 1 + 0 := l1
  have l2 : ∀ j, 0 ≤ j → ¬ j = 0 + (1 * σ 0 + 0) → ck_loc e' j = ck_loc (E 16) j := l2
  have f0 : (0 : Int) ≤ (-2) + (1 * σ 0 + 0) := hF _ (List.mem_of_getElem? (i := 0) rfl)
  have f1 : (0 : Int) ≤ 2 + ((-1) * σ 0 + 0) := hF _ (List.mem_of_getElem? (i := 1) rfl)
  have p0 : ck_lk E 16 (0 + 0) = 0 + (1 * σ 1 + 0) := (hP _ (List.mem_of_getElem? (i := 0) rfl)).2.2
  have q0 : (0 : Int) ≤ 0 + 0 := (hP _ (List.mem_of_getElem? (i := 0) rfl)).2.1
  have p1 : ck_lk E 16 (1 + 0) = 0 + (1 * σ 2 + 0) := (hP _ (List.mem_of_getElem? (i := 1) rfl)).2.2
  have q1 : (0 : Int) ≤ 1 + 0 := (hP _ (List.mem_of_getElem? (i := 1) rfl)).2.1
  have key : (((0 : Int) ≤ 2 + 0 ∧ ck_lk (va_up E 16 e') 16 (2 + 0) = 1 + 0) ∧ ((0 : Int) ≤ 0 + 0 ∧ ck_lk (va_up E 16 e') 16 (0 + 0) = 0 + (1 * σ 1 + 0)) ∧ ((0 : Int) ≤ 1 + 0 ∧ ck_lk (va_up E 16 e') 16 (1 + 0) = 0 + (1 * σ 2 + 0)) ∧ True) := by
    have hs : (0 : Int) + (1 * σ 0 + 0) = 2 + 0 := by omega
    refine ⟨⟨by decide, ?_⟩, ⟨by decide, ?_⟩, ⟨by decide, ?_⟩, trivial⟩
    · rw [ck_lk_c (by decide), va_up_self]
      rw [hs] at l1
      exact l1
    · rw [ck_lk_c (by decide), va_up_self, l2 (0 + 0) (by decide) (by omega)]
      rw [ck_lk_c (by decide)] at p0
      exact p0
    · rw [ck_lk_c (by decide), va_up_self, l2 (1 + 0) (by decide) (by omega)]
      rw [ck_lk_c (by decide)] at p1
      exact p1
  obtain ⟨k0, k1, k2, -⟩ := key
  exact ⟨_, (List.mem_of_getElem? (i := 0) rfl), σ, ck_ag_rf, (fun _ h => absurd h List.not_mem_nil), (fun _ h => absurd h List.not_mem_nil), trivial, (List.forall_mem_cons.mpr ⟨⟨⟨ck_wb_ok rfl, ck_wb_ok rfl⟩, k0⟩, (List.forall_mem_cons.mpr ⟨⟨⟨ck_wb_ok rfl, ck_wb_ok rfl⟩, k1⟩, (List.forall_mem_cons.mpr ⟨⟨⟨ck_wb_ok rfl, ck_wb_ok rfl⟩, k2⟩, (fun _ h => absurd h List.not_mem_nil)⟩)⟩)⟩), (fun _ h => absurd h List.not_mem_nil)⟩
theorem ccBK16_2 {l : Launch} {D : va_G} {kp : Nat → ClassId} : ck_con l D kp ck_NN ceBK16_2 := ck_con_s (k := 16) rfl rpBK16_2
theorem rpBK74_0 : ck_scon ceBK74_0 74 := by
  intro σ E e' idx v hargs hgi hF hP hΦ hgi2 h0 l1 l2
  cases hargs
  have h0 : (0 : Int) ≤ 0 + (1 * σ 0 + 0) := h0
  have l1 : ck_loc e' (0 + (1 * σ 0 + 0)) = 1 + 0 := l1
  have l2 : ∀ j, 0 ≤ j → ¬ j = 0 + (1 * σ 0 + 0) → ck_loc e' j = ck_loc (E 74) j := l2
  have f0 : (0 : Int) ≤ 0 + (1 * σ 0 + 0) := hF _ (List.mem_of_getElem? (i := 0) rfl)
  have f1 : (0 : Int) ≤ 0 + ((-1) * σ 0 + 0) := hF _ (List.mem_of_getElem? (i := 1) rfl)
  have p0 : ck_lk E 74 (1 + 0) = 0 + (1 * σ 1 + 0) := (hP _ (List.mem_of_getElem? (i := 0) rfl)).2.2
  have q0 : (0 : Int) ≤ 1 + 0 := (hP _ (List.mem_of_getElem? (i := 0) rfl)).2.1
  have p1 : ck_lk E 74 (2 + 0) = 0 + (1 * σ 2 + 0) := (hP _ (List.mem_of_getElem? (i := 1) rfl)).2.2
  have q1 : (0 : Int) ≤ 2 + 0 := (hP _ (List.mem_of_getElem? (i := 1) rfl)).2.1
  have key : (((0 : Int) ≤ 0 + 0 ∧ ck_lk (va_up E 74 e') 74 (0 + 0) = 1 + 0) ∧ ((0 : Int) ≤ 1 + 0 ∧ ck_lk (va_up E 74 e') 74 (1 + 0) = 0 + (1 * σ 1 + 0)) ∧ ((0 : Int) ≤ 2 + 0 ∧ ck_lk (va_up E 74 e') 74 (2 + 0) = 0 + (1 * σ 2 + 0)) ∧ True) := by
    have hs : (0 : Int) + (1 * σ 0 + 0) = 0 + 0 := by omega
    refine ⟨⟨by decide, ?_⟩, ⟨by decide, ?_⟩, ⟨by decide, ?_⟩, trivial⟩
    · rw [ck_lk_c (by decide), va_up_self]
      rw [hs] at l1
      exact l1
    · rw [ck_lk_c (by decide), va_up_self, l2 (1 + 0) (by decide) (by omega)]
      rw [ck_lk_c (by decide)] at p0
      exact p0
    · rw [ck_lk_c (by decide), va_up_self, l2 (2 + 0) (by decide) (by omega)]
      rw [ck_lk_c (by decide)] at p1
      exact p1
  obtain ⟨k0, k1, k2, -⟩ := key
  exact ⟨_, (List.mem_of_getElem? (i := 0) rfl), σ, ck_ag_rf, (fun _ h => absurd h List.not_mem_nil), (fun _ h => absurd h List.not_mem_nil), trivial, (List.forall_mem_cons.mpr ⟨⟨⟨ck_wb_ok rfl, ck_wb_ok rfl⟩, k0⟩, (List.forall_mem_cons.mpr ⟨⟨⟨ck_wb_ok rfl, ck_wb_ok rfl⟩, k1⟩, (List.forall_mem_cons.mpr ⟨⟨⟨ck_wb_ok rfl, ck_wb_ok rfl⟩, k2⟩, (fun _ h => absurd h List.not_mem_nil)⟩)⟩)⟩), (fun _ h => absurd h List.not_mem_nil)⟩
theorem ccBK74_0 {l : Launch} {D : va_G} {kp : Nat → ClassId} : ck_con l D kp ck_NN ceBK74_0 := ck_con_s (k := 74) rfl rpBK74_0
theorem rpBK74_1 : ck_scon ceBK74_1 74 := by
  intro σ E e' idx v hargs hgi hF hP hΦ hgi2 h0 l1 l2
  cases hargs
  have h0 : (0 : Int) ≤ 0 + (1 * σ 0 + 0) := h0
  have l1 : ck_loc e' (0 + (1 * σ 0 + 0)) = 1 + 0 := l1
  have l2 : ∀ j, 0 ≤ j → ¬ j = 0 + (1 * σ 0 + 0) → ck_loc e' j = ck_loc (E 74) j := l2
  have f0 : (0 : Int) ≤ (-1) + (1 * σ 0 + 0) := hF _ (List.mem_of_getElem? (i := 0) rfl)
  have f1 : (0 : Int) ≤ 1 + ((-1) * σ 0 + 0) := hF _ (List.mem_of_getElem? (i := 1) rfl)
  have p0 : ck_lk E 74 (0 + 0) = 0 + (1 * σ 1 + 0) := (hP _ (List.mem_of_getElem? (i := 0) rfl)).2.2
  have q0 : (0 : Int) ≤ 0 + 0 := (hP _ (List.mem_of_getElem? (i := 0) rfl)).2.1
  have p1 : ck_lk E 74 (2 + 0) = 0 + (1 * σ 2 + 0) := (hP _ (List.mem_of_getElem? (i := 1) rfl)).2.2
  have q1 : (0 : Int) ≤ 2 + 0 := (hP _ (List.mem_of_getElem? (i := 1) rfl)).2.1
  have key : (((0 : Int) ≤ 1 + 0 ∧ ck_lk (va_up E 74 e') 74 (1 + 0) = 1 + 0) ∧ ((0 : Int) ≤ 0 + 0 ∧ ck_lk (va_up E 74 e') 74 (0 + 0) = 0 + (1 * σ 1 + 0)) ∧ ((0 : Int) ≤ 2 + 0 ∧ ck_lk (va_up E 74 e') 74 (2 + 0) = 0 + (1 * σ 2 + 0)) ∧ True) := by
    have hs : (0 : Int) + (1 * σ 0 + 0) = 1 + 0 := by omega
    refine ⟨⟨by decide, ?_⟩, ⟨by decide, ?_⟩, ⟨by decide, ?_⟩, trivial⟩
    · rw [ck_lk_c (by decide), va_up_self]
      rw [hs] at l1
      exact l1
    · rw [ck_lk_c (by decide), va_up_self, l2 (0 + 0) (by decide) (by omega)]
      rw [ck_lk_c (by decide)] at p0
      exact p0
    · rw [ck_lk_c (by decide), va_up_self, l2 (2 + 0) (by decide) (by omega)]
      rw [ck_lk_c (by decide)] at p1
      exact p1
  obtain ⟨k0, k1, k2, -⟩ := key
  exact ⟨_, (List.mem_of_getElem? (i := 0) rfl), σ, ck_ag_rf, (fun _ h => absurd h List.not_mem_nil), (fun _ h => absurd h List.not_mem_nil), trivial, (List.forall_mem_cons.mpr ⟨⟨⟨ck_wb_ok rfl, ck_wb_ok rfl⟩, k0⟩, (List.forall_mem_cons.mpr ⟨⟨⟨ck_wb_ok rfl, ck_wb_ok rfl⟩, k1⟩, (List.forall_mem_cons.mpr ⟨⟨⟨ck_wb_ok rfl, ck_wb_ok rfl⟩, k2⟩, (fun _ h => absurd h List.not_mem_nil)⟩)⟩)⟩), (fun _ h => absurd h List.not_mem_nil)⟩
theorem ccBK74_1 {l : Launch} {D : va_G} {kp : Nat → ClassId} : ck_con l D kp ck_NN ceBK74_1 := ck_con_s (k := 74) rfl rpBK74_1
theorem rpBK74_2 : ck_scon ceBK74_2 74 := by
  intro σ E e' idx v hargs hgi hF hP hΦ hgi2 h0 l1 l2
  cases hargs
  have h0 : (0 : Int) ≤ 0 + (1 * σ 0 + 0) := h0
  have l1 : ck_loc e' (0 + (1 * σ 0 + 0)) = 1 + 0 := l1
  have l2 : ∀ j, 0 ≤ j → ¬ j = 0 + (1 * σ 0 + 0) → ck_loc e' j = ck_loc (E 74) j := l2
  have f0 : (0 : Int) ≤ (-2) + (1 * σ 0 + 0) := hF _ (List.mem_of_getElem? (i := 0) rfl)
  have f1 : (0 : Int) ≤ 2 + ((-1) * σ 0 + 0) := hF _ (List.mem_of_getElem? (i := 1) rfl)
  have p0 : ck_lk E 74 (0 + 0) = 0 + (1 * σ 1 + 0) := (hP _ (List.mem_of_getElem? (i := 0) rfl)).2.2
  have q0 : (0 : Int) ≤ 0 + 0 := (hP _ (List.mem_of_getElem? (i := 0) rfl)).2.1
  have p1 : ck_lk E 74 (1 + 0) = 0 + (1 * σ 2 + 0) := (hP _ (List.mem_of_getElem? (i := 1) rfl)).2.2
  have q1 : (0 : Int) ≤ 1 + 0 := (hP _ (List.mem_of_getElem? (i := 1) rfl)).2.1
  have key : (((0 : Int) ≤ 2 + 0 ∧ ck_lk (va_up E 74 e') 74 (2 + 0) = 1 + 0) ∧ ((0 : Int) ≤ 0 + 0 ∧ ck_lk (va_up E 74 e') 74 (0 + 0) = 0 + (1 * σ 1 + 0)) ∧ ((0 : Int) ≤ 1 + 0 ∧ ck_lk (va_up E 74 e') 74 (1 + 0) = 0 + (1 * σ 2 + 0)) ∧ True) := by
    have hs : (0 : Int) + (1 * σ 0 + 0) = 2 + 0 := by omega
    refine ⟨⟨by decide, ?_⟩, ⟨by decide, ?_⟩, ⟨by decide, ?_⟩, trivial⟩
    · rw [ck_lk_c (by decide), va_up_self]
      rw [hs] at l1
      exact l1
    · rw [ck_lk_c (by decide), va_up_self, l2 (0 + 0) (by decide) (by omega)]
      rw [ck_lk_c (by decide)] at p0
      exact p0
    · rw [ck_lk_c (by decide), va_up_self, l2 (1 + 0) (by decide) (by omega)]
      rw [ck_lk_c (by decide)] at p1
      exact p1
  obtain ⟨k0, k1, k2, -⟩ := key
  exact ⟨_, (List.mem_of_getElem? (i := 0) rfl), σ, ck_ag_rf, (fun _ h => absurd h List.not_mem_nil), (fun _ h => absurd h List.not_mem_nil), trivial, (List.forall_mem_cons.mpr ⟨⟨⟨ck_wb_ok rfl, ck_wb_ok rfl⟩, k0⟩, (List.forall_mem_cons.mpr ⟨⟨⟨ck_wb_ok rfl, ck_wb_ok rfl⟩, k1⟩, (List.forall_mem_cons.mpr ⟨⟨⟨ck_wb_ok rfl, ck_wb_ok rfl⟩, k2⟩, (fun _ h => absurd h List.not_mem_nil)⟩)⟩)⟩), (fun _ h => absurd h List.not_mem_nil)⟩
theorem ccBK74_2 {l : Launch} {D : va_G} {kp : Nat → ClassId} : ck_con l D kp ck_NN ceBK74_2 := ck_con_s (k := 74) rfl rpBK74_2
