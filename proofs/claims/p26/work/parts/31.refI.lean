def mo3 (I : mw_I) : mw_I := lpN (fun k J => mw_up (mw_up (mw_up (mw_up J 41 k 100) 42 k 10) 43 k 1) 45 k 50) 3 I
def moI (I : mw_I) : mw_I := lpN (fun k J => mw_up J 48 k (10 * nI (k % 9))) 54 (mo3 I)
theorem fr_mo3 {I : mw_I} {a : Nat} (h1 : a ≠ 41) (h2 : a ≠ 42) (h3 : a ≠ 43) (h4 : a ≠ 45) : mo3 I a = I a := lpN_inv (P := fun (J : mw_I) => J a = I a) 3 (fun _ _ _ hz => ((mw_up_ne h4).trans ((mw_up_ne h3).trans ((mw_up_ne h2).trans (mw_up_ne h1)))).trans hz) rfl
theorem fr_mo {I : mw_I} {a : Nat} (h1 : a ≠ 41) (h2 : a ≠ 42) (h3 : a ≠ 43) (h4 : a ≠ 45) (h5 : a ≠ 48) : moI I a = I a := (lpN_inv (P := fun (J : mw_I) => J a = mo3 I a) 54 (fun _ _ _ hz => (mw_up_ne h5).trans hz) rfl : moI I a = mo3 I a).trans (fr_mo3 h1 h2 h3 h4)
