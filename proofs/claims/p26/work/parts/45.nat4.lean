/-! by tables: the component's least best release -/
section
variable {I : mw_I} {mx : Nat → Nat} {cp bs mn inf : Nat}
theorem ef_cls {lv it : Nat} {V : Nat → Nat} (hx : ∀ f, f < 17 → mx f ≤ 400) (ex : ∀ f, f < 17 → I (7 + 11 * 0 + 10) f = nI (mx f)) (eb : I (7 + 11 * 0) 1 = nI bs) (ec : I (7 + 11 * 0) 0 = nI cp) (hb : bs ≤ 100) (hcp : cp ≤ 200) (hit : it < 17) (hle : it ≤ lv) (hlv : lv ≤ 250) (hrow : ∀ c, c ≤ 200 → I 5 c = nI (V c)) : energyFromV I (nI lv) (nI it) = nI (enN mx bs lv it + V (lfN cp lv it)) := by
  have hl := lfN_le (cp := cp) (lv := lv) (it := it) hcp
  unfold energyFromV
  rw [en_cls hx ex eb hb hit hlv, bh_cls ec hcp hle hlv, if_neg, nI_clamp (by omega), hrow _ hl, nI_add]
  rintro (z | z)
  · exact nI_pos (by omega) z
  · exact absurd z (Int32.not_lt.mpr (nI_le (a := lfN cp lv it) (b := 200) hl (by decide)))
/-- a is the first that reaches the greatest of those below j -/
def fstJ (g : Nat → Nat) (ok : Nat → Bool) (j a : Nat) : Prop := a < j ∧ ok a = true ∧ g a = mxF g ok j ∧ ∀ i, i < a → ok i = true → g i < g a
theorem lbF_nat {lv : Nat} {V : Nat → Nat} (hx : ∀ f, f < 17 → mx f ≤ 400) (ex : ∀ f, f < 17 → I (7 + 11 * 0 + 10) f = nI (mx f)) (eb : I (7 + 11 * 0) 1 = nI bs) (ec : I (7 + 11 * 0) 0 = nI cp) (hb : bs ≤ 100) (hcp : cp ≤ 200) (hmn : mn ≤ 20) (hlv : lv ≤ 250) (hV : ∀ c, c ≤ 200 → V c ≤ 100000) (hrow : ∀ c, c ≤ 200 → I 5 c = nI (V c)) : ∀ n j a, j + n = 5 → l0N mn lv ≤ j → fstJ (fun j => enN mx bs lv (4 * j) + V (lfN cp lv (4 * j))) (okB mn lv) j a → ∃ a2, fstJ (fun j => enN mx bs lv (4 * j) + V (lfN cp lv (4 * j))) (okB mn lv) 5 a2 ∧ lbF I (nI lv) n j (nI (4 * a), nI (enN mx bs lv (4 * a) + V (lfN cp lv (4 * a)))) = (nI (4 * a2), nI (enN mx bs lv (4 * a2) + V (lfN cp lv (4 * a2)))) := by
  have hg : ∀ j, j < 5 → enN mx bs lv (4 * j) + V (lfN cp lv (4 * j)) ≤ 200000 := fun j hj => by
    have h1 := enN_le (mx := mx) (bs := bs) (lv := lv) (it := 4 * j) (hx _ (by omega)) hb hlv
    have h2 := hV (lfN cp lv (4 * j)) (lfN_le hcp)
    unfold enN
    omega
  intro n
  induction n with
  | zero =>
    intro j a hj _ hf
    have : j = 5 := by omega
    subst this
    exact ⟨a, hf, rfl⟩
  | succ n ih =>
    intro j a hj h0 hf
    obtain ⟨f1, f2, f3, f4⟩ := hf
    unfold lbF
    by_cases q : lv < 4 * j
    · rw [if_pos (Or.inr (nI_lt q (by omega)))]
      have e := mxF_hi (g := fun j => enN mx bs lv (4 * j) + V (lfN cp lv (4 * j))) (ok := okB mn lv) (a := j) (n + 1) (fun i h1 h2 => by
        cases hk : okB mn lv i with
        | false => rfl
        | true => have := (ok_l0 hmn (by omega)).mp hk; omega)
      rw [show j + (n + 1) = 5 by omega] at e
      exact ⟨a, ⟨by omega, f2, by rw [e]; exact f3, f4⟩, rfl⟩
    · rw [if_neg]
      · have hok : okB mn lv j = true := (ok_l0 hmn (by omega)).mpr ⟨h0, by omega⟩
        have hgj := hg j (by omega)
        have hga := hg a (by omega)
        unfold lbStep
        rw [ef_cls hx ex eb ec hb hcp (by omega) (by omega) hlv hrow]
        dsimp only at f3 f4 ⊢
        by_cases g : enN mx bs lv (4 * j) + V (lfN cp lv (4 * j)) ≤ enN mx bs lv (4 * a) + V (lfN cp lv (4 * a))
        · rw [if_pos (nI_le g (by omega))]
          refine ih (j + 1) a (by omega) (by omega) ⟨by omega, f2, ?_, f4⟩
          rw [mxF_succ, if_neg (fun w => by rw [← f3] at w; omega)]
          exact f3
        · rw [if_neg (nI_ge (by omega) (by omega))]
          refine ih (j + 1) j (by omega) (by omega) ⟨by omega, hok, ?_, fun i hi hoi => ?_⟩
          · rw [mxF_succ, if_pos ⟨hok, by rw [← f3]; omega⟩]
          · have hmi : ∀ n2, i < n2 → n2 ≤ 5 → enN mx bs lv (4 * i) + V (lfN cp lv (4 * i)) ≤ mxF (fun j => enN mx bs lv (4 * j) + V (lfN cp lv (4 * j))) (okB mn lv) n2 := by
              intro n2
              induction n2 with
              | zero => intro h; omega
              | succ n2 ih2 =>
                intro h h5
                rw [mxF_succ]
                by_cases e : i = n2
                · subst e
                  split
                  · exact Nat.le_refl _
                  · rename_i w
                    exact Nat.le_of_not_lt (fun z => w ⟨hoi, z⟩)
                · have := ih2 (by omega) (by omega)
                  split
                  · rename_i w
                    exact Nat.le_trans this (Nat.le_of_lt w.2)
                  · exact this
            have := hmi j hi (by omega)
            dsimp only
            omega
      · rintro (w | w)
        · exact absurd w (nI_nlt (a := 16) (b := 4 * j) (by omega) (by decide))
        · exact absurd w (nI_nlt (by omega) (by omega))
end
