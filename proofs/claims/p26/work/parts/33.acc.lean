theorem okR_nat1 {v : Int32} {n : Nat} (hn : n < 2 ^ 31) (h : okR v 1 (nI n)) : ∃ i : Nat, 1 ≤ i ∧ i < n + 1 ∧ v = nI i := by
  obtain ⟨h1, h2⟩ := h
  have h0 : ¬ v < 0 := fun q => h1 (by
    rw [Int32.lt_iff_toInt_lt] at q ⊢
    have e0 : (0 : Int32).toInt = 0 := rfl
    have e1 : (1 : Int32).toInt = 1 := rfl
    omega)
  obtain ⟨j, hj, rfl⟩ := nI_of h0
  refine ⟨j, ?_, Nat.lt_succ_of_le ((nI_leI hj hn).mp h2), rfl⟩
  rcases Nat.eq_zero_or_pos j with rfl | q
  · exact absurd (by decide) h1
  · exact q
theorem lwR.A {I : mw_I} (h : lwR I) : relA I I := by obtain ⟨_, _, _, _, h⟩ := h; exact h.1
theorem lwR.H {I : mw_I} (h : lwR I) : I 0 6 = I 40 10 := by obtain ⟨_, _, h1, h2, _⟩ := h; rw [h1, h2]
theorem relA.F {C M : mw_I} (h : relA C M) : relF C M := h.1
theorem relA.O {C M : mw_I} (h : relA C M) : relO C M := h.2.1
theorem relA.Y {C M : mw_I} (h : relA C M) : relY C M := h.2.2.1
theorem relA.W {C M : mw_I} (h : relA C M) : relW C M := h.2.2.2.1
theorem relA.X {C M : mw_I} (h : relA C M) : relX C M := h.2.2.2.2.1
theorem relA.bF {C M : mw_I} (h : relA C M) : bndF M := h.2.2.2.2.2.1
theorem relA.bO {C M : mw_I} (h : relA C M) : bndO M := h.2.2.2.2.2.2.1
theorem relA.bY {C M : mw_I} (h : relA C M) : bndY M := h.2.2.2.2.2.2.2.1
theorem relA.bW {C M : mw_I} (h : relA C M) : bndW M := h.2.2.2.2.2.2.2.2
theorem tt_ne {I : mw_I} {a j : Nat} (h : a ≠ 40) (x : Int32) : mw_up I 40 19 x a j = I a j := by rw [mw_up_ne h]
