/-! by all: the component tries every release -/
section
variable {I : mw_I} {mx : Nat → Nat} {cp bs mn inf : Nat}
theorem gF_nat {lv : Nat} {rc : Int32 → Int32} {V : Nat → Nat} (hx : ∀ f, f < 17 → mx f ≤ 400) (ex : ∀ f, f < 17 → I (7 + 11 * 0 + 10) f = nI (mx f)) (eb : I (7 + 11 * 0) 1 = nI bs) (ec : I (7 + 11 * 0) 0 = nI cp) (hb : bs ≤ 100) (hcp : cp ≤ 200) (hmn : mn ≤ 20) (hlv : lv ≤ 250) (hV : ∀ c, c ≤ 200 → V c ≤ 100000) (hrc : ∀ c, c ≤ 200 → rc (nI c) = nI (V c)) : ∀ n j, j + n = 5 → l0N mn lv ≤ j → gF I (7 + 11 * 0) (nI lv) rc n j (nI (mxF (fun j => enN mx bs lv (4 * j) + V (lfN cp lv (4 * j))) (okB mn lv) j)) = nI (mxF (fun j => enN mx bs lv (4 * j) + V (lfN cp lv (4 * j))) (okB mn lv) 5) := by
  have hg : ∀ j, j < 5 → enN mx bs lv (4 * j) + V (lfN cp lv (4 * j)) ≤ 200000 := fun j hj => by
    have h1 := enN_le (mx := mx) (bs := bs) (lv := lv) (it := 4 * j) (hx _ (by omega)) hb hlv
    have h2 := hV (lfN cp lv (4 * j)) (lfN_le hcp)
    unfold enN
    omega
  intro n
  induction n with
  | zero =>
    intro j hj _
    rw [show j = 5 by omega]
    rfl
  | succ n ih =>
    intro j hj h0
    have hz := mxF_le (g := fun j => enN mx bs lv (4 * j) + V (lfN cp lv (4 * j))) (ok := okB mn lv) (B := 200000) j (fun i hi => hg i (by omega))
    unfold gF
    by_cases q : lv < 4 * j
    · rw [if_pos (Or.inr (nI_lt q (by omega)))]
      have e := mxF_hi (g := fun j => enN mx bs lv (4 * j) + V (lfN cp lv (4 * j))) (ok := okB mn lv) (a := j) (n + 1) (fun i h1 h2 => by
        cases hk : okB mn lv i with
        | false => rfl
        | true => have := (ok_l0 hmn (by omega)).mp hk; omega)
      rw [show j + (n + 1) = 5 by omega] at e
      rw [e]
    · rw [if_neg]
      · rw [en_cls hx ex eb hb (by omega) hlv, bh_cls ec hcp (by omega) hlv, hrc _ (lfN_le hcp), nI_add]
        have hs : (if nI (mxF (fun j => enN mx bs lv (4 * j) + V (lfN cp lv (4 * j))) (okB mn lv) j) < nI (enN mx bs lv (4 * j) + V (lfN cp lv (4 * j))) then nI (enN mx bs lv (4 * j) + V (lfN cp lv (4 * j))) else nI (mxF (fun j => enN mx bs lv (4 * j) + V (lfN cp lv (4 * j))) (okB mn lv) j)) = nI (mxF (fun j => enN mx bs lv (4 * j) + V (lfN cp lv (4 * j))) (okB mn lv) (j + 1)) := by
          have hok : okB mn lv j = true := (ok_l0 hmn (by omega)).mpr ⟨h0, by omega⟩
          have hgj := hg j (by omega)
          rw [mxF_succ]
          by_cases g : mxF (fun j => enN mx bs lv (4 * j) + V (lfN cp lv (4 * j))) (okB mn lv) j < enN mx bs lv (4 * j) + V (lfN cp lv (4 * j))
          · rw [if_pos (nI_lt g (by omega)), if_pos ⟨hok, g⟩]
          · rw [if_neg (nI_nlt (by omega) (by omega)), if_neg (fun w => g w.2)]
        rw [hs]
        exact ih (j + 1) (by omega) (by omega)
      · rintro (w | w)
        · exact absurd w (nI_nlt (a := 16) (b := 4 * j) (by omega) (by decide))
        · exact absurd w (nI_nlt (by omega) (by omega))
theorem gbt_nat (hx : ∀ f, f < 17 → mx f ≤ 400) (ex : ∀ f, f < 17 → I (7 + 11 * 0 + 10) f = nI (mx f)) (eb : I (7 + 11 * 0) 1 = nI bs) (ec : I (7 + 11 * 0) 0 = nI cp) (em : I (7 + 11 * 0) 3 = nI mn) (ei : I (7 + 11 * 0) 4 = nI inf) (hb : bs ≤ 100) (hcp : cp ≤ 200) (hmn : mn ≤ 20) (hinf : inf ≤ 50) : ∀ m, m ≤ 6 → ∀ c, c ≤ 200 → gbtV I (7 + 11 * 0) m (nI c) = nI (Vn mx cp bs mn inf m c) := by
  intro m
  induction m with
  | zero => intro _ c _; rfl
  | succ m ih =>
    intro hm c hc
    have h := gF_nat (lv := c + inf) (rc := gbtV I (7 + 11 * 0) m) (V := Vn mx cp bs mn inf m) hx ex eb ec hb hcp hmn (by omega) (fun c hc => Nat.le_trans (Vn_le hx hb hinf m c hc hcp) (by omega)) (ih (by omega)) (5 - l0N mn (c + inf)) (l0N mn (c + inf)) (by have := l0N_le (mn := mn) (lv := c + inf) hmn; omega) (Nat.le_refl _)
    rw [mxF_lo _ (fun j hj => by
      cases hk : okB mn (c + inf) j with
      | false => rfl
      | true => have := (ok_l0 hmn (by have := l0N_le (mn := mn) (lv := c + inf) hmn; omega)).mp hk; omega)] at h
    unfold gbtV
    rw [ei, nI_add, leastN_eq em hmn (by omega)]
    exact h
end
