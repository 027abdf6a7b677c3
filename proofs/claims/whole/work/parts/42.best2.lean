/-! the reference's table of greatest energies -/
section
variable {M : mw_I} {mx : Nat → Nat} {cp bs mn inf : Nat}
theorem la0_z : ∀ n, n ≤ 260 → ∀ c, c < n → lpN (fun k J => mw_up J 58 k 0) n M 58 c = 0 := by
  intro n
  induction n with
  | zero => intro _ c hc; omega
  | succ n ih =>
    intro hn c hc
    rw [lpN_succ]
    by_cases e : c = n
    · subst e; exact mw_up_at
    · rw [mw_up_nj e]; exact ih (by omega) c (by omega)
def laInv (M : mw_I) (mx : Nat → Nat) (cp bs mn inf m n : Nat) (J : mw_I) : Prop := (∀ a, a ≠ 58 → J a = M a) ∧ (∀ k, k ≤ m → ∀ c, c ≤ 200 → J 58 (260 * k + c) = nI (Vn mx cp bs mn inf k c)) ∧ ∀ c, c < n → J 58 (260 * (m + 1) + c) = nI (Vn mx cp bs mn inf (m + 1) c)
theorem la_row (hx : ∀ f, f < 17 → mx f ≤ 400) (ex : ∀ f, f < 17 → mixedV M 0 (nI f) = nI (mx f)) (eb : M 42 0 = nI bs) (em : M 46 0 = nI mn) (hmn : mn ≤ 20) (hb : bs ≤ 100) (hcp : cp ≤ 200) (hinf : inf ≤ 50) {m : Nat} (hm : m < 6) {J : mw_I} (h : laInv M mx cp bs mn inf m 0 J) : ∀ n, n ≤ 201 → laInv M mx cp bs mn inf m n (lpN (fun c J => mw_up J 58 (260 * (m + 1) + c) (lmV J cp (c + inf) m)) n J) := by
  intro n
  induction n with
  | zero => intro _; exact h
  | succ n ih =>
    intro hn
    obtain ⟨g1, g2, g3⟩ := ih (by omega)
    rw [lpN_succ]
    generalize lpN (fun c J => mw_up J 58 (260 * (m + 1) + c) (lmV J cp (c + inf) m)) n J = K at g1 g2 g3 ⊢
    have hv : lmV K cp (n + inf) m = nI (Vn mx cp bs mn inf (m + 1) n) := lm_nat (V := Vn mx cp bs mn inf m) hx (fun f hf => by rw [mixedV_eq (g1 48 (by decide))]; exact ex f hf) (by rw [g1 42 (by decide)]; exact eb) (by rw [g1 46 (by decide)]; exact em) hmn hb hcp (by omega) (fun c hc => Nat.le_trans (Vn_le hx hb hinf m c hc hcp) (by omega)) (fun c hc => g2 m (Nat.le_refl m) c hc)
    refine ⟨fun a ha => by rw [mw_up_ne ha]; exact g1 a ha, fun k hk c hc => ?_, fun c hc => ?_⟩
    · rw [mw_up_nj (by omega)]
      exact g2 k hk c hc
    · by_cases e : c = n
      · subst e
        rw [mw_up_at, hv]
      · rw [mw_up_nj (by omega)]
        exact g3 c (by omega)
theorem lays_nat (hx : ∀ f, f < 17 → mx f ≤ 400) (ex : ∀ f, f < 17 → mixedV M 0 (nI f) = nI (mx f)) (eb : M 42 0 = nI bs) (em : M 46 0 = nI mn) (hmn : mn ≤ 20) (hb : bs ≤ 100) (hcp : cp ≤ 200) (hinf : inf ≤ 50) : ∀ n, n ≤ 6 → laInv M mx cp bs mn inf n 0 (laysI cp inf n M) := by
  intro n
  induction n with
  | zero =>
    intro _
    refine ⟨fun a ha => fr_la0 ha, fun k hk c hc => ?_, fun c hc => absurd hc (Nat.not_lt_zero c)⟩
    have : k = 0 := by omega
    subst this
    exact la0_z 260 (Nat.le_refl _) _ (by omega)
  | succ n ih =>
    intro hn
    obtain ⟨g1, g2, g3⟩ := la_row hx ex eb em hmn hb hcp hinf (by omega) (ih (by omega)) 201 (Nat.le_refl _)
    refine ⟨g1, fun k hk c hc => ?_, fun c hc => absurd hc (Nat.not_lt_zero c)⟩
    by_cases e : k = n + 1
    · subst e
      exact g3 c (by omega)
    · exact g2 k (by omega) c hc
end
