/-! by tables: the component's row of greatest energies -/
section
variable {I : mw_I} {mx : Nat → Nat} {cp bs mn inf : Nat}
def wbInv (I : mw_I) (mx : Nat → Nat) (cp bs mn inf m : Nat) (J : mw_I) : Prop := (∀ a, a ≠ 5 → a ≠ 6 → J a = I a) ∧ ∀ c, c ≤ 200 → J 5 c = nI (Vn mx cp bs mn inf m c)
theorem wbRow_nat (hx : ∀ f, f < 17 → mx f ≤ 400) (ex : ∀ f, f < 17 → I (7 + 11 * 0 + 10) f = nI (mx f)) (eb : I (7 + 11 * 0) 1 = nI bs) (ec : I (7 + 11 * 0) 0 = nI cp) (em : I (7 + 11 * 0) 3 = nI mn) (ei : I (7 + 11 * 0) 4 = nI inf) (hb : bs ≤ 100) (hcp : cp ≤ 200) (hmn : mn ≤ 20) (hinf : inf ≤ 50) {m : Nat} (hm : m ≤ 6) {J : mw_I} (h : wbInv I mx cp bs mn inf m J) : ∀ n, n ≤ 201 → wbInv I mx cp bs mn inf m (lpN (fun c J => mw_up J 6 c (greatFromV J (nI c))) n J) ∧ ∀ c, c < n → lpN (fun c J => mw_up J 6 c (greatFromV J (nI c))) n J 6 c = nI (Vn mx cp bs mn inf (m + 1) c) := by
  intro n
  induction n with
  | zero => intro _; exact ⟨h, fun c hc => absurd hc (Nat.not_lt_zero c)⟩
  | succ n ih =>
    intro hn
    obtain ⟨⟨g1, g2⟩, g3⟩ := ih (by omega)
    rw [lpN_succ]
    generalize lpN (fun c J => mw_up J 6 c (greatFromV J (nI c))) n J = K at g1 g2 g3 ⊢
    have k7 : K (7 + 11 * 0) = I (7 + 11 * 0) := g1 _ (by decide) (by decide)
    have kx : K (7 + 11 * 0 + 10) = I (7 + 11 * 0 + 10) := g1 _ (by decide) (by decide)
    have hv := great_nat (I := K) (c := n) (m := m) hx (fun f hf => by rw [kx]; exact ex f hf) (by rw [k7]; exact eb) (by rw [k7]; exact ec) (by rw [k7]; exact em) (by rw [k7]; exact ei) hb hcp hmn hinf (by omega) hm g2
    refine ⟨⟨fun a h5 h6 => by rw [mw_up_ne h6]; exact g1 a h5 h6, fun c hc => by rw [mw_up_ne (by decide)]; exact g2 c hc⟩, fun c hc => ?_⟩
    by_cases e : c = n
    · subst e
      rw [mw_up_at, hv]
    · rw [mw_up_nj e]
      exact g3 c (by omega)
theorem wb_nat (hx : ∀ f, f < 17 → mx f ≤ 400) (ex : ∀ f, f < 17 → I (7 + 11 * 0 + 10) f = nI (mx f)) (eb : I (7 + 11 * 0) 1 = nI bs) (ec : I (7 + 11 * 0) 0 = nI cp) (em : I (7 + 11 * 0) 3 = nI mn) (ei : I (7 + 11 * 0) 4 = nI inf) (hb : bs ≤ 100) (hcp : cp ≤ 200) (hmn : mn ≤ 20) (hinf : inf ≤ 50) : ∀ m, m ≤ 6 → wbInv I mx cp bs mn inf m (wbI m I) := by
  intro m
  induction m with
  | zero =>
    intro _
    refine ⟨fun a h5 _ => fr_wb0 h5, fun c hc => ?_⟩
    have z : ∀ n, n ≤ 201 → ∀ c, c < n → lpN (fun k J => mw_up J 5 k 0) n I 5 c = 0 := by
      intro n
      induction n with
      | zero => intro _ c hc; omega
      | succ n ih =>
        intro hn c hc
        rw [lpN_succ]
        by_cases e : c = n
        · subst e; exact mw_up_at
        · rw [mw_up_nj e]; exact ih (by omega) c (by omega)
    exact z 201 (Nat.le_refl _) c (by omega)
  | succ m ih =>
    intro hm
    obtain ⟨⟨g1, g2⟩, g3⟩ := wbRow_nat hx ex eb ec em ei hb hcp hmn hinf (by omega) (ih (by omega)) 201 (Nat.le_refl _)
    refine ⟨fun a h5 h6 => ?_, fun c hc => ?_⟩
    · show wbStep (wbI m I) a = I a
      unfold wbStep
      rw [if_neg h5]
      exact g1 a h5 h6
    · show wbStep (wbI m I) 5 c = _
      unfold wbStep
      rw [if_pos rfl]
      unfold va_cpy
      rw [if_pos ⟨Nat.zero_le _, by omega⟩, Nat.zero_add, Nat.sub_zero]
      exact g3 c (by omega)
end
