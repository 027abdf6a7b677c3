/-! the greatest energies, as naturals; the reference's table holds them -/
def lfN (cp lv it : Nat) : Nat := if cp ≤ lv - it then cp else lv - it
def enN (mx : Nat → Nat) (bs lv it : Nat) : Nat := mx it * (bs + lv / 5) / 10
def okJ (mn lv j : Nat) : Prop := 4 * j ≤ lv ∧ (mn ≤ 4 * j ∨ (if 16 ≤ lv / 4 * 4 then 16 else lv / 4 * 4) < mn)
def okB (mn lv j : Nat) : Bool := decide (4 * j ≤ lv) && (decide (mn ≤ 4 * j) || decide ((if 16 ≤ lv / 4 * 4 then 16 else lv / 4 * 4) < mn))
theorem okB_iff {mn lv j : Nat} : okB mn lv j = true ↔ okJ mn lv j := by
  unfold okB okJ
  rw [Bool.and_eq_true, Bool.or_eq_true, decide_eq_true_iff, decide_eq_true_iff, decide_eq_true_iff]
def mxF (g : Nat → Nat) (ok : Nat → Bool) : Nat → Nat
  | 0 => 0
  | n + 1 => if ok n = true ∧ mxF g ok n < g n then g n else mxF g ok n
theorem mxF_succ (g : Nat → Nat) (ok : Nat → Bool) (n : Nat) : mxF g ok (n + 1) = if ok n = true ∧ mxF g ok n < g n then g n else mxF g ok n := rfl
def Vn (mx : Nat → Nat) (cp bs mn inf : Nat) : Nat → Nat → Nat
  | 0, _ => 0
  | m + 1, c => mxF (fun j => enN mx bs (c + inf) (4 * j) + Vn mx cp bs mn inf m (lfN cp (c + inf) (4 * j))) (okB mn (c + inf)) 5
theorem enN_le {mx : Nat → Nat} {bs lv it : Nat} (h : mx it ≤ 400) (hb : bs ≤ 100) (hl : lv ≤ 250) : mx it * (bs + lv / 5) ≤ 60000 := Nat.le_trans (Nat.mul_le_mul h (show bs + lv / 5 ≤ 150 by omega)) (by decide)
theorem mxF_le {g : Nat → Nat} {ok : Nat → Bool} {B : Nat} : ∀ n, (∀ j, j < n → g j ≤ B) → mxF g ok n ≤ B
  | 0, _ => Nat.zero_le _
  | n + 1, h => by
    unfold mxF
    split
    · exact h n (by omega)
    · exact mxF_le n (fun j hj => h j (by omega))
theorem Vn_le {mx : Nat → Nat} {cp bs mn inf : Nat} (hx : ∀ f, f < 17 → mx f ≤ 400) (hb : bs ≤ 100) (hi : inf ≤ 50) : ∀ m c, c ≤ 200 → cp ≤ 200 → Vn mx cp bs mn inf m c ≤ 6000 * m
  | 0, _, _, _ => Nat.le_refl _
  | m + 1, c, hc, hcp => by
    unfold Vn
    refine mxF_le 5 (fun j hj => ?_)
    have h1 := enN_le (mx := mx) (bs := bs) (lv := c + inf) (it := 4 * j) (hx _ (by omega)) hb (by omega)
    by_cases hl : lfN cp (c + inf) (4 * j) ≤ 200
    · have h2 := Vn_le hx hb hi m (lfN cp (c + inf) (4 * j)) hl hcp (mn := mn) (cp := cp)
      unfold enN
      omega
    · exfalso
      unfold lfN at hl
      split at hl <;> omega
theorem lfN_le {cp lv it : Nat} (h : cp ≤ 200) : lfN cp lv it ≤ 200 := by
  unfold lfN
  split <;> omega
section
variable {K : mw_I} {mx : Nat → Nat} {cp bs mn inf : Nat}
end
