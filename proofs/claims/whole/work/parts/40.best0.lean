/-! best releases: energies and levels as naturals -/
theorem mix_nat {C M : mw_I} (hr : relA C M) {i f : Nat} (hi : i < 3) (hf : f < 1000) : ∃ x, x ≤ 400 ∧ mixedV M i (nI f) = nI x := by
  obtain ⟨-, -, h⟩ := mx_ref (M := M) (i := i) hf
  rcases h with h | ⟨a, c, ha, hc, -, h⟩
  · exact ⟨0, by omega, h⟩
  · obtain ⟨v, hv, ev⟩ := hr.bY (18 * i + a) (by omega)
    obtain ⟨w, hw, ew⟩ := hr.bY (18 * i + 9 + c) (by omega)
    refine ⟨v + w, by omega, ?_⟩
    rw [h]
    unfold sM
    rw [ev, ew, nI_add]
/-- what the reference may let go -/
theorem may_iff {M : mw_I} {mn lv j : Nat} (e : M 46 0 = nI mn) (hmn : mn ≤ 20) (hlv : lv ≤ 300) (hj : j ≤ 4) : ¬ mayV M (nI (4 * j)) (nI lv) = 0 ↔ 4 * j ≤ lv ∧ (mn ≤ 4 * j ∨ (if 16 ≤ lv / 4 * 4 then 16 else lv / 4 * 4) < mn) := by
  have eg : grV (nI lv) = nI (if 16 ≤ lv / 4 * 4 then 16 else lv / 4 * 4) := by
    unfold grV
    rw [mw_n4, pk_div (by omega) (by omega) (by omega), pk_mul]
    by_cases h : 16 ≤ lv / 4 * 4
    · rw [if_pos h, if_pos (c := (16 : Int32) ≤ nI (lv / 4 * 4)) (nI_le (a := 16) h (by omega))]
      rfl
    · rw [if_neg h, if_neg (c := (16 : Int32) ≤ nI (lv / 4 * 4)) (nI_ge (a := lv / 4 * 4) (b := 16) (by omega) (by decide))]
  unfold mayV
  rw [eg, e]
  by_cases h1 : lv < 4 * j
  · rw [if_pos (nI_lt h1 (by omega))]
    constructor
    · intro q; exact absurd rfl q
    · rintro ⟨q, -⟩; omega
  · rw [if_neg (nI_nlt (by omega) (by omega))]
    by_cases h2 : mn ≤ 4 * j
    · rw [if_pos (nI_le h2 (by omega))]
      constructor
      · intro _; exact ⟨by omega, Or.inl h2⟩
      · intro _; decide
    · rw [if_neg (fun q => h2 ((nI_leI (by omega) (by omega)).mp q))]
      generalize hg : (if 16 ≤ lv / 4 * 4 then 16 else lv / 4 * 4) = g
      have hg2 : g ≤ 300 := by rw [← hg]; split <;> omega
      by_cases h3 : mn ≤ g
      · rw [if_pos (nI_le h3 (by omega))]
        constructor
        · intro q; exact absurd rfl q
        · rintro ⟨-, q⟩; omega
      · rw [if_neg (fun q => h3 ((nI_leI (by omega) (by omega)).mp q))]
        constructor
        · intro _; exact ⟨by omega, Or.inr (by omega)⟩
        · intro _; decide
