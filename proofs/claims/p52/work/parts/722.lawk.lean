def fL (q : ck_D × List ck_I) : Bool := match ck_ex gaLaw ceLaw pg_L cdLaw q.1.2.2 4824 true q.1.1 q.1.2.1 q.2 with
      | some [] => true
      | _ => false
theorem chL_0 : fL (cdL_0, csLaw_0) = true := by decide +kernel
theorem chL_1 : fL (cdL_1, csLaw_1) = true := by decide +kernel
