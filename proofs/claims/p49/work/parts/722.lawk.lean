def fL (q : ck_D × List ck_I) : Bool := match ck_ex gaLaw ceLaw pg_L cdLaw q.1.2.2 7660 true q.1.1 q.1.2.1 q.2 with
      | some [] => true
      | _ => false
theorem chL_0 : fL (cdL_0, csLaw_0) = true := by decide +kernel
theorem chL_1 : fL (cdL_1, csLaw_1) = true := by decide +kernel
theorem chL_2 : fL (cdL_2, csLaw_2) = true := by decide +kernel
theorem chL_3 : fL (cdL_3, csLaw_3) = true := by decide +kernel
theorem chL_4 : fL (cdL_4, csLaw_4) = true := by decide +kernel
theorem chL_5 : fL (cdL_5, csLaw_5) = true := by decide +kernel
theorem chL_6 : fL (cdL_6, csLaw_6) = true := by decide +kernel
theorem chL_7 : fL (cdL_7, csLaw_7) = true := by decide +kernel
theorem chL_8 : fL (cdL_8, csLaw_8) = true := by decide +kernel
theorem chL_9 : fL (cdL_9, csLaw_9) = true := by decide +kernel
theorem chL_10 : fL (cdL_10, csLaw_10) = true := by decide +kernel
theorem chL_11 : fL (cdL_11, csLaw_11) = true := by decide +kernel
theorem chL_12 : fL (cdL_12, csLaw_12) = true := by decide +kernel
theorem chL_13 : fL (cdL_13, csLaw_13) = true := by decide +kernel
theorem chL_14 : fL (cdL_14, csLaw_14) = true := by decide +kernel
theorem chL_15 : fL (cdL_15, csLaw_15) = true := by decide +kernel
theorem chL_16 : fL (cdL_16, csLaw_16) = true := by decide +kernel
theorem chL_17 : fL (cdL_17, csLaw_17) = true := by decide +kernel
theorem chL_18 : fL (cdL_18, csLaw_18) = true := by decide +kernel
theorem chL_19 : fL (cdL_19, csLaw_19) = true := by decide +kernel
theorem chL_20 : fL (cdL_20, csLaw_20) = true := by decide +kernel
theorem chL_21 : fL (cdL_21, csLaw_21) = true := by decide +kernel
theorem chL_22 : fL (cdL_22, csLaw_22) = true := by decide +kernel
theorem chL_23 : fL (cdL_23, csLaw_23) = true := by decide +kernel
theorem chL_24 : fL (cdL_24, csLaw_24) = true := by decide +kernel
theorem chL_25 : fL (cdL_25, csLaw_25) = true := by decide +kernel
theorem chL_26 : fL (cdL_26, csLaw_26) = true := by decide +kernel
theorem chL_27 : fL (cdL_27, csLaw_27) = true := by decide +kernel
theorem chL_28 : fL (cdL_28, csLaw_28) = true := by decide +kernel
theorem chL_29 : fL (cdL_29, csLaw_29) = true := by decide +kernel
theorem chL_30 : fL (cdL_30, csLaw_30) = true := by decide +kernel
theorem chL_31 : fL (cdL_31, csLaw_31) = true := by decide +kernel
theorem chL_32 : fL (cdL_32, csLaw_32) = true := by decide +kernel
theorem chL_33 : fL (cdL_33, csLaw_33) = true := by decide +kernel
theorem chLaw_all : List.all [(cdL_0, csLaw_0), (cdL_1, csLaw_1), (cdL_2, csLaw_2), (cdL_3, csLaw_3), (cdL_4, csLaw_4), (cdL_5, csLaw_5), (cdL_6, csLaw_6), (cdL_7, csLaw_7), (cdL_8, csLaw_8), (cdL_9, csLaw_9), (cdL_10, csLaw_10), (cdL_11, csLaw_11), (cdL_12, csLaw_12), (cdL_13, csLaw_13), (cdL_14, csLaw_14), (cdL_15, csLaw_15), (cdL_16, csLaw_16), (cdL_17, csLaw_17), (cdL_18, csLaw_18), (cdL_19, csLaw_19), (cdL_20, csLaw_20), (cdL_21, csLaw_21), (cdL_22, csLaw_22), (cdL_23, csLaw_23), (cdL_24, csLaw_24), (cdL_25, csLaw_25), (cdL_26, csLaw_26), (cdL_27, csLaw_27), (cdL_28, csLaw_28), (cdL_29, csLaw_29), (cdL_30, csLaw_30), (cdL_31, csLaw_31), (cdL_32, csLaw_32), (cdL_33, csLaw_33)] fL = true := List.all_eq_true.mpr (List.forall_mem_cons.mpr ⟨chL_0, (List.forall_mem_cons.mpr ⟨chL_1, (List.forall_mem_cons.mpr ⟨chL_2, (List.forall_mem_cons.mpr ⟨chL_3, (List.forall_mem_cons.mpr ⟨chL_4, (List.forall_mem_cons.mpr ⟨chL_5, (List.forall_mem_cons.mpr ⟨chL_6, (List.forall_mem_cons.mpr ⟨chL_7, (List.forall_mem_cons.mpr ⟨chL_8, (List.forall_mem_cons.mpr ⟨chL_9, (List.forall_mem_cons.mpr ⟨chL_10, (List.forall_mem_cons.mpr ⟨chL_11, (List.forall_mem_cons.mpr ⟨chL_12, (List.forall_mem_cons.mpr ⟨chL_13, (List.forall_mem_cons.mpr ⟨chL_14, (List.forall_mem_cons.mpr ⟨chL_15, (List.forall_mem_cons.mpr ⟨chL_16, (List.forall_mem_cons.mpr ⟨chL_17, (List.forall_mem_cons.mpr ⟨chL_18, (List.forall_mem_cons.mpr ⟨chL_19, (List.forall_mem_cons.mpr ⟨chL_20, (List.forall_mem_cons.mpr ⟨chL_21, (List.forall_mem_cons.mpr ⟨chL_22, (List.forall_mem_cons.mpr ⟨chL_23, (List.forall_mem_cons.mpr ⟨chL_24, (List.forall_mem_cons.mpr ⟨chL_25, (List.forall_mem_cons.mpr ⟨chL_26, (List.forall_mem_cons.mpr ⟨chL_27, (List.forall_mem_cons.mpr ⟨chL_28, (List.forall_mem_cons.mpr ⟨chL_29, (List.forall_mem_cons.mpr ⟨chL_30, (List.forall_mem_cons.mpr ⟨chL_31, (List.forall_mem_cons.mpr ⟨chL_32, (List.forall_mem_cons.mpr ⟨chL_33, (fun _ h => absurd h List.not_mem_nil)⟩)⟩)⟩)⟩)⟩)⟩)⟩)⟩)⟩)⟩)⟩)⟩)⟩)⟩)⟩)⟩)⟩)⟩)⟩)⟩)⟩)⟩)⟩)⟩)⟩)⟩)⟩)⟩)⟩)⟩)⟩)⟩)⟩)⟩)
theorem chLaw : ck_chkL gaLaw ceLaw pg_L 7660 cdLaw [csLaw_0, csLaw_1, csLaw_2, csLaw_3, csLaw_4, csLaw_5, csLaw_6, csLaw_7, csLaw_8, csLaw_9, csLaw_10, csLaw_11, csLaw_12, csLaw_13, csLaw_14, csLaw_15, csLaw_16, csLaw_17, csLaw_18, csLaw_19, csLaw_20, csLaw_21, csLaw_22, csLaw_23, csLaw_24, csLaw_25, csLaw_26, csLaw_27, csLaw_28, csLaw_29, csLaw_30, csLaw_31, csLaw_32, csLaw_33] = true := by
  unfold ck_chkL
  exact Bool.and_eq_true_iff.mpr ⟨by decide +kernel, Bool.and_eq_true_iff.mpr ⟨by decide +kernel, chLaw_all⟩⟩

