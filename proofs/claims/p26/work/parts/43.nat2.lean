/-! the component's own least release; what both sides may let go is one -/
def l0N (mn lv : Nat) : Nat := if 16 < 4 * ((mn + 3) / 4) ∨ lv < 4 * ((mn + 3) / 4) then 0 else (mn + 3) / 4
theorem leastN_eq {I : mw_I} {b mn lv : Nat} (hm : I b 3 = nI mn) (hmn : mn ≤ 20) (hlv : lv ≤ 300) : leastN I b (nI lv) = l0N mn lv := by
  have e : (I b 3 + 4 - 1) / 4 * 4 = nI (4 * ((mn + 3) / 4)) := by
    rw [hm, mw_n4, mw_n1, nI_add, pk_sub (by omega), pk_div (by omega) (by omega) (by omega), pk_mul, show mn + 4 - 1 = mn + 3 by omega, Nat.mul_comm]
  unfold leastN leastV l0N
  rw [e]
  by_cases h : 16 < 4 * ((mn + 3) / 4) ∨ lv < 4 * ((mn + 3) / 4)
  · rw [if_pos h, if_pos]
    · rfl
    · rcases h with h | h
      · exact Or.inl (nI_lt (a := 16) h (by omega))
      · exact Or.inr (nI_lt h (by omega))
  · rw [if_neg h, if_neg]
    · rw [nI_clamp (by omega)]
      omega
    · rintro (q | q)
      · exact absurd q (nI_nlt (a := 16) (b := 4 * ((mn + 3) / 4)) (by omega) (by decide))
      · exact absurd q (nI_nlt (by omega) (by omega))
theorem l0N_le {mn lv : Nat} (hmn : mn ≤ 20) : l0N mn lv ≤ 4 := by
  unfold l0N
  split <;> omega
theorem l0N_lv {mn lv : Nat} : 4 * l0N mn lv ≤ lv := by
  unfold l0N
  split <;> omega
theorem ok_l0 {mn lv j : Nat} (hmn : mn ≤ 20) (hj : j ≤ 4) : okB mn lv j = true ↔ l0N mn lv ≤ j ∧ 4 * j ≤ lv := by
  rw [okB_iff]
  unfold okJ l0N
  by_cases h : 16 ≤ lv / 4 * 4
  · rw [if_pos h]
    split <;> omega
  · rw [if_neg h]
    split <;> omega
theorem mxF_lo {g : Nat → Nat} {ok : Nat → Bool} : ∀ n, (∀ j, j < n → ok j = false) → mxF g ok n = 0
  | 0, _ => rfl
  | n + 1, h => by
    rw [mxF_succ, if_neg (fun q => by rw [h n (by omega)] at q; exact absurd q.1 (by decide))]
    exact mxF_lo n (fun j hj => h j (by omega))
theorem mxF_hi {g : Nat → Nat} {ok : Nat → Bool} {a : Nat} : ∀ n, (∀ j, a ≤ j → j < a + n → ok j = false) → mxF g ok (a + n) = mxF g ok a
  | 0, _ => rfl
  | n + 1, h => by
    rw [← Nat.add_assoc, mxF_succ, if_neg (fun q => by rw [h (a + n) (by omega) (by omega)] at q; exact absurd q.1 (by decide))]
    exact mxF_hi n (fun j h1 h2 => h j h1 (by omega))
section
variable {I : mw_I} {mx : Nat → Nat} {cp bs mn inf : Nat}
theorem en_cls {lv it : Nat} (hx : ∀ f, f < 17 → mx f ≤ 400) (ex : ∀ f, f < 17 → I (7 + 11 * 0 + 10) f = nI (mx f)) (eb : I (7 + 11 * 0) 1 = nI bs) (hb : bs ≤ 100) (hit : it < 17) (hlv : lv ≤ 250) : energyV I (7 + 11 * 0) (nI lv) (nI it) = nI (enN mx bs lv it) := by
  have h1 := enN_le (mx := mx) (bs := bs) (lv := lv) (it := it) (hx _ hit) hb hlv
  unfold energyV
  have e : mixForV I (7 + 11 * 0) (nI it) = nI (mx it) := by
    rw [mixForV, if_neg, nI_clamp (by omega)]
    · exact ex it hit
    · rintro (z | z)
      · exact nI_pos (by omega) z
      · exact absurd z (Int32.not_lt.mpr (nI_le (a := it) (b := 16) (by omega) (by decide)))
  rw [e, eb, mw_n5, pk_div (by omega) (by omega) (by omega), nI_add, pk_mul, mw_n10, pk_div (by omega) (by omega) (by omega)]
  rfl
theorem bh_cls {lv it : Nat} (ec : I (7 + 11 * 0) 0 = nI cp) (hcp : cp ≤ 200) (hle : it ≤ lv) (hlv : lv ≤ 250) : behindV I (7 + 11 * 0) (nI lv) (nI it) = nI (lfN cp lv it) := by
  unfold behindV lfN
  rw [ec, pk_sub hle]
  by_cases h : cp < lv - it
  · rw [if_pos (nI_lt h (by omega)), if_pos (by omega)]
  · rw [if_neg (nI_nlt (by omega) (by omega))]
    by_cases g : cp ≤ lv - it
    · rw [if_pos g, show lv - it = cp by omega]
    · rw [if_neg g]
end
