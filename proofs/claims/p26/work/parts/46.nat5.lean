/-! by tables: least best release, greatest energy of a level -/
section
variable {I : mw_I} {mx : Nat → Nat} {cp bs mn inf : Nat}
theorem lb_nat {lv : Nat} {V : Nat → Nat} (hx : ∀ f, f < 17 → mx f ≤ 400) (ex : ∀ f, f < 17 → I (7 + 11 * 0 + 10) f = nI (mx f)) (eb : I (7 + 11 * 0) 1 = nI bs) (ec : I (7 + 11 * 0) 0 = nI cp) (em : I (7 + 11 * 0) 3 = nI mn) (hb : bs ≤ 100) (hcp : cp ≤ 200) (hmn : mn ≤ 20) (hlv : lv ≤ 250) (hV : ∀ c, c ≤ 200 → V c ≤ 100000) (hrow : ∀ c, c ≤ 200 → I 5 c = nI (V c)) : ∃ a, fstJ (fun j => enN mx bs lv (4 * j) + V (lfN cp lv (4 * j))) (okB mn lv) 5 a ∧ leastBestV I (nI lv) = nI (4 * a) := by
  have h4 := l0N_le (mn := mn) (lv := lv) hmn
  have hl := l0N_lv (mn := mn) (lv := lv)
  have hno : ∀ i, i < l0N mn lv → okB mn lv i = false := fun i hi => by
    cases hk : okB mn lv i with
    | false => rfl
    | true => have := (ok_l0 hmn (by omega)).mp hk; omega
  have hok : okB mn lv (l0N mn lv) = true := (ok_l0 hmn h4).mpr ⟨Nat.le_refl _, hl⟩
  have hs : fstJ (fun j => enN mx bs lv (4 * j) + V (lfN cp lv (4 * j))) (okB mn lv) (l0N mn lv + 1) (l0N mn lv) := by
    refine ⟨by omega, hok, ?_, fun i hi ho => by rw [hno i hi] at ho; exact absurd ho (by decide)⟩
    rw [mxF_succ, mxF_lo _ hno]
    by_cases g : 0 < enN mx bs lv (4 * l0N mn lv) + V (lfN cp lv (4 * l0N mn lv))
    · rw [if_pos ⟨hok, g⟩]
    · rw [if_neg (fun w => g w.2)]
      dsimp only
      omega
  obtain ⟨a, h1, h2⟩ := lbF_nat hx ex eb ec hb hcp hmn hlv hV hrow (4 - l0N mn lv) (l0N mn lv + 1) (l0N mn lv) (by omega) (by omega) hs
  refine ⟨a, h1, ?_⟩
  unfold leastBestV
  rw [leastN_eq em hmn (by omega), ef_cls hx ex eb ec hb hcp (by omega) hl hlv hrow, h2]
theorem great_nat {c m : Nat} (hx : ∀ f, f < 17 → mx f ≤ 400) (ex : ∀ f, f < 17 → I (7 + 11 * 0 + 10) f = nI (mx f)) (eb : I (7 + 11 * 0) 1 = nI bs) (ec : I (7 + 11 * 0) 0 = nI cp) (em : I (7 + 11 * 0) 3 = nI mn) (ei : I (7 + 11 * 0) 4 = nI inf) (hb : bs ≤ 100) (hcp : cp ≤ 200) (hmn : mn ≤ 20) (hinf : inf ≤ 50) (hc : c ≤ 200) (hm : m ≤ 6) (hrow : ∀ c, c ≤ 200 → I 5 c = nI (Vn mx cp bs mn inf m c)) : greatFromV I (nI c) = nI (Vn mx cp bs mn inf (m + 1) c) := by
  obtain ⟨a, ⟨h1, h2, h3, -⟩, h5⟩ := lb_nat (lv := c + inf) hx ex eb ec em hb hcp hmn (by omega) (fun c hc => Nat.le_trans (Vn_le hx hb hinf m c hc hcp) (by omega)) hrow
  have h6 := (ok_l0 hmn (by omega)).mp h2
  unfold greatFromV
  rw [ei, nI_add, h5, ef_cls hx ex eb ec hb hcp (by omega) h6.2 (by omega) hrow]
  exact congrArg nI h3
end
