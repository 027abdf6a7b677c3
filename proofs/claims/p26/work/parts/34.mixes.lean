/-! the mixes: both sides hold the greatest sum -/
def isMx (s : Nat → Nat → Int32) (P : Nat → Nat → Prop) (m : Int32) : Prop := 0 ≤ m ∧ (∀ a c, a < 9 → c < 9 → P a c → s a c ≤ m) ∧ (m = 0 ∨ ∃ a c, a < 9 ∧ c < 9 ∧ P a c ∧ m = s a c)
theorem isMx.le {s : Nat → Nat → Int32} {P : Nat → Nat → Prop} {m n : Int32} (h : isMx s P m) (g : isMx s P n) : m ≤ n := by
  obtain ⟨-, -, h3⟩ := h
  obtain ⟨g1, g2, -⟩ := g
  rcases h3 with rfl | ⟨a, c, ha, hc, hp, rfl⟩
  · exact g1
  · exact g2 a c ha hc hp
theorem isMx.uq {s : Nat → Nat → Int32} {P : Nat → Nat → Prop} {m n : Int32} (h : isMx s P m) (g : isMx s P n) : m = n := Int32.le_antisymm (h.le g) (g.le h)
theorem isMx.iff {s : Nat → Nat → Int32} {P Q : Nat → Nat → Prop} {m : Int32} (e : ∀ a c, a < 9 → c < 9 → (P a c ↔ Q a c)) (h : isMx s P m) : isMx s Q m := by
  obtain ⟨h1, h2, h3⟩ := h
  refine ⟨h1, fun a c ha hc hq => h2 a c ha hc ((e a c ha hc).mpr hq), ?_⟩
  rcases h3 with h | ⟨a, c, ha, hc, hp, h⟩
  · exact Or.inl h
  · exact Or.inr ⟨a, c, ha, hc, (e a c ha hc).mp hp, h⟩
theorem isMx.no {s : Nat → Nat → Int32} {P : Nat → Nat → Prop} (e : ∀ a c, a < 9 → c < 9 → ¬ P a c) : isMx s P 0 := ⟨Int32.le_refl 0, fun a c ha hc hp => absurd hp (e a c ha hc), Or.inl rfl⟩
theorem isMx.or {s : Nat → Nat → Int32} {P Q : Nat → Nat → Prop} {m n : Int32} (h : isMx s P m) (g : isMx s Q n) : isMx s (fun a c => P a c ∨ Q a c) (if n < m then m else n) := by
  obtain ⟨h1, h2, h3⟩ := h
  obtain ⟨g1, g2, g3⟩ := g
  split
  · rename_i q
    refine ⟨h1, fun a c ha hc hp => ?_, ?_⟩
    · rcases hp with hp | hp
      · exact h2 a c ha hc hp
      · exact Int32.le_trans (g2 a c ha hc hp) (Int32.le_of_lt q)
    · rcases h3 with h | ⟨a, c, ha, hc, hp, h⟩
      · exact Or.inl h
      · exact Or.inr ⟨a, c, ha, hc, Or.inl hp, h⟩
  · rename_i q
    have q := Int32.not_lt.mp q
    refine ⟨g1, fun a c ha hc hp => ?_, ?_⟩
    · rcases hp with hp | hp
      · exact Int32.le_trans (h2 a c ha hc hp) q
      · exact g2 a c ha hc hp
    · rcases g3 with h | ⟨a, c, ha, hc, hp, h⟩
      · exact Or.inl h
      · exact Or.inr ⟨a, c, ha, hc, Or.inr hp, h⟩
theorem isMx.one {s : Nat → Nat → Int32} {P : Nat → Nat → Prop} {m : Int32} (h : isMx s P m) {x y : Nat} (hx : x < 9) (hy : y < 9) : isMx s (fun a c => P a c ∨ (a = x ∧ c = y)) (if m < s x y then s x y else m) := by
  obtain ⟨h1, h2, h3⟩ := h
  split
  · rename_i q
    refine ⟨Int32.le_trans h1 (Int32.le_of_lt q), fun a c ha hc hp => ?_, Or.inr ⟨x, y, hx, hy, Or.inr ⟨rfl, rfl⟩, rfl⟩⟩
    rcases hp with hp | ⟨rfl, rfl⟩
    · exact Int32.le_trans (h2 a c ha hc hp) (Int32.le_of_lt q)
    · exact Int32.le_refl _
  · rename_i q
    refine ⟨h1, fun a c ha hc hp => ?_, ?_⟩
    · rcases hp with hp | ⟨rfl, rfl⟩
      · exact h2 a c ha hc hp
      · exact Int32.not_lt.mp q
    · rcases h3 with h | ⟨a, c, ha, hc, hp, h⟩
      · exact Or.inl h
      · exact Or.inr ⟨a, c, ha, hc, Or.inl hp, h⟩
theorem lpN_congr {α : Type} {f g : Nat → α → α} {x : α} : ∀ n : Nat, (∀ k, k < n → ∀ z, f k z = g k z) → lpN f n x = lpN g n x
  | 0, _ => rfl
  | n + 1, h => by rw [lpN_succ, lpN_succ, lpN_congr n (fun k hk => h k (by omega)), h n (by omega)]
def sM (M : mw_I) (i a c : Nat) : Int32 := M 48 (18 * i + a) + M 48 (18 * i + 9 + c)
theorem mx_ref {M : mw_I} {i f : Nat} (hf : f < 1000) : isMx (sM M i) (fun a c => a + c ≤ f) (mixedV M i (nI f)) := by
  have key : ∀ n, n ≤ 81 → isMx (sM M i) (fun a c => a + c ≤ f ∧ 9 * a + c < n) (lpN (mixedG M i (nI f)) n 0) := by
    intro n
    induction n with
    | zero => intro _; exact isMx.no (fun a c _ _ q => by omega)
    | succ n ih =>
      intro hn
      have h := ih (by omega)
      rw [lpN_succ]
      generalize lpN (mixedG M i (nI f)) n 0 = z at h ⊢
      unfold mixedG
      rw [nI_add]
      by_cases q : f < n / 9 + n % 9
      · rw [if_pos (nI_lt q (by omega))]
        exact h.iff (fun a c ha hc => by constructor <;> (intro g; omega))
      · rw [if_neg (nI_nlt (by omega) (by omega))]
        have h2 := h.one (x := n / 9) (y := n % 9) (by omega) (by omega)
        have e : (if z < sM M i (n / 9) (n % 9) then sM M i (n / 9) (n % 9) else z) = if M 48 (18 * i + n / 9) + M 48 (18 * i + 9 + n % 9) ≤ z then z else M 48 (18 * i + n / 9) + M 48 (18 * i + 9 + n % 9) := by
          show (if z < M 48 (18 * i + n / 9) + M 48 (18 * i + 9 + n % 9) then M 48 (18 * i + n / 9) + M 48 (18 * i + 9 + n % 9) else z) = _
          generalize M 48 (18 * i + n / 9) + M 48 (18 * i + 9 + n % 9) = v
          by_cases g : v ≤ z
          · rw [if_pos g, if_neg (Int32.not_lt.mpr g)]
          · rw [if_neg g, if_pos (Int32.not_le.mp g)]
        rw [e] at h2
        exact h2.iff (fun a c ha hc => by constructor <;> (intro g; omega))
  exact (key 81 (by omega)).iff (fun a c ha hc => by constructor <;> (intro g; omega))
section
variable {b : Nat} {s : Nat → Nat → Int32}
def mxI (b : Nat) (s : Nat → Nat → Int32) (N : Nat) (J : mw_I) : Prop := (∀ j, j < 17 → isMx s (fun a c => a + c = j ∧ 9 * a + c < N) (J (b + 10) j)) ∧ ∀ a c, J (b + 8 + 0) a + J (b + 8 + 1) c = s a c
theorem mx_in {a : Nat} (ha : a < 9) {J : mw_I} (h : mxI b s (9 * a) J) : ∀ n, n ≤ 9 → mxI b s (9 * a + n) (lpN (fun c J => mixS b a c J) n J) := by
  intro n
  induction n with
  | zero => intro _; exact h
  | succ n ih =>
    intro hn
    obtain ⟨h1, h2⟩ := ih (by omega)
    rw [lpN_succ]
    generalize lpN (fun c J => mixS b a c J) n J = K at h1 h2 ⊢
    unfold mixS
    rw [h2]
    refine ⟨fun j hj => ?_, fun x y => by rw [mw_up_ne (by omega), mw_up_ne (by omega)]; exact h2 x y⟩
    by_cases e : j = a + n
    · subst e
      rw [mw_up_at]
      exact ((h1 _ hj).one (x := a) (y := n) ha (by omega)).iff (fun x y hx hy => by constructor <;> (intro g; omega))
    · rw [mw_up_nj e]
      exact (h1 j hj).iff (fun x y hx hy => by constructor <;> (intro g; omega))
theorem mx_out {J : mw_I} (h : mxI b s 0 J) : ∀ n, n ≤ 9 → mxI b s (9 * n) (lpN (fun a J => lpN (fun c J => mixS b a c J) 9 J) n J) := by
  intro n
  induction n with
  | zero => intro _; exact h
  | succ n ih =>
    intro hn
    rw [lpN_succ]
    exact mx_in (by omega) (ih (by omega)) 9 (by omega)
def mxT (b : Nat) (s : Nat → Nat → Int32) (N : Nat) (J : mw_I) : Prop := ∀ j, j < 17 → isMx s (fun a c => (a + c ≤ j ∧ j ≤ N) ∨ a + c = j) (J (b + 10) j)
theorem mx_top {J : mw_I} (h : mxT b s 0 J) : ∀ n, n ≤ 16 → mxT b s n (lpN (mixT b) n J) := by
  intro n
  induction n with
  | zero => intro _; exact h
  | succ n ih =>
    intro hn j hj
    have h1 := ih (by omega)
    rw [lpN_succ]
    generalize lpN (mixT b) n J = K at h1 ⊢
    unfold mixT
    by_cases e : j = n + 1
    · subst e
      rw [mw_up_at]
      exact ((h1 n (by omega)).or (h1 (n + 1) (by omega))).iff (fun x y hx hy => by constructor <;> (intro g; omega))
    · rw [mw_up_nj e]
      exact (h1 j hj).iff (fun x y hx hy => by constructor <;> (intro g; omega))
theorem mx_all {J : mw_I} (h : ∀ a c, J (b + 8 + 0) a + J (b + 8 + 1) c = s a c) (f : Nat) (hf : f < 17) : isMx s (fun a c => a + c ≤ f) (mixI J b (b + 10) f) := by
  have z : ∀ n, n ≤ 17 → ∀ j, j < n → lpN (fun k J => mw_up J (b + 10) k 0) n J (b + 10) j = 0 := by
    intro n
    induction n with
    | zero => intro _ j hj; omega
    | succ n ih =>
      intro hn j hj
      rw [lpN_succ]
      by_cases e : j = n
      · subst e; exact mw_up_at
      · rw [mw_up_nj e]; exact ih (by omega) j (by omega)
  have y : ∀ k, k ≠ b + 10 → mixA J b k = J k := fun k hk => lpN_inv (P := fun (I : mw_I) => I k = J k) 17 (fun _ _ _ hz => (mw_up_ne hk).trans hz) rfl
  have h1 : mxI b s 0 (mixA J b) := ⟨fun j hj => by
    rw [show mixA J b (b + 10) j = 0 from z 17 (by omega) j hj]
    exact isMx.no (fun a c _ _ q => by omega), fun a c => by rw [y _ (by omega), y _ (by omega)]; exact h a c⟩
  have h2 := mx_out h1 9 (by omega)
  have h3 : mxT b s 0 (mixB (mixA J b) b) := fun j hj => (h2.1 j hj).iff (fun x y hx hy => by constructor <;> (intro g; omega))
  exact (mx_top h3 16 (by omega) f hf).iff (fun x y hx hy => by constructor <;> (intro g; omega))
end
theorem mixedV_cg {M M' : mw_I} {i : Nat} (h : ∀ k, k < 18 → M' 48 (18 * i + k) = M 48 (18 * i + k)) (f : Int32) : mixedV M' i f = mixedV M i f := by
  unfold mixedV
  refine lpN_congr 81 (fun k hk z => ?_)
  unfold mixedG
  have e1 := h (k / 9) (by omega)
  have e2 := h (9 + k % 9) (by omega)
  rw [← Nat.add_assoc] at e2
  rw [e1, e2]
theorem relA_yld {C M : mw_I} {i t f v : Nat} {a : Int32} (hi : i < 3) (ht : t < 2) (hf : f < 9) (hv : v ≤ 200) (ha : a = nI v) (hr : relA C M) : relA (mixI (mw_up C (7 + 11 * i + 8 + t) f a) (7 + 11 * i)) (mw_up M 48 (18 * i + 9 * t + f) a) := by
  obtain ⟨h1, h2, h3, h4, h5, h6, h7, h8, h9⟩ := hr
  have hb : ∀ q ∈ rB, q.1 ≠ 48 := by decide
  have hY : relY (mixI (mw_up C (7 + 11 * i + 8 + t) f a) (7 + 11 * i)) (mw_up M 48 (18 * i + 9 * t + f) a) := by
    intro i2 hi2 t2 ht2 f2 hf2
    rw [fr_mix (by omega), mw_up_ap, mw_up_ap, h3 i2 hi2 t2 ht2 f2 hf2]
    by_cases e : i2 = i ∧ t2 = t ∧ f2 = f
    · rw [if_pos (by omega), if_pos (by omega)]
    · rw [if_neg (by omega), if_neg (by omega)]
  refine ⟨fun i2 hi2 q hq2 => ?_, fun i2 hi2 o2 ho2 => ?_, hY, fun o2 ho2 => ?_, fun i2 hi2 f2 hf2 => ?_, fun i2 hi2 q hq2 => ?_, fun k hk => ?_, fun k hk => ?_, fun i2 hi2 => ?_⟩
  · have hm := rF_not _ hq2
    rw [fr_mix (by omega), mw_up_ne (by omega), mw_up_ne (by omega)]; exact h1 i2 hi2 q hq2
  · rw [fr_mix (by omega), fr_mix (by omega), mw_up_ne (by omega), mw_up_ne (by omega), mw_up_ne (by omega), mw_up_ne (by omega)]; exact h2 i2 hi2 o2 ho2
  · rw [fr_mix (by omega), fr_mix (by omega), fr_mix (by omega), mw_up_ne (by omega), mw_up_ne (by omega), mw_up_ne (by omega), mw_up_ne (by omega), mw_up_ne (by omega), mw_up_ne (by omega)]; exact h4 o2 ho2
  · by_cases e : i2 = i
    · subst e
      refine isMx.uq (s := fun x y => mw_up C (7 + 11 * i2 + 8 + t) f a (7 + 11 * i2 + 8 + 0) x + mw_up C (7 + 11 * i2 + 8 + t) f a (7 + 11 * i2 + 8 + 1) y) (mx_all (fun _ _ => rfl) f2 hf2) ?_
      have g := mx_ref (M := mw_up M 48 (18 * i2 + 9 * t + f) a) (i := i2) (f := f2) (by omega)
      obtain ⟨g1, g2, g3⟩ := g
      have es : ∀ x y, x < 9 → y < 9 → mw_up C (7 + 11 * i2 + 8 + t) f a (7 + 11 * i2 + 8 + 0) x + mw_up C (7 + 11 * i2 + 8 + t) f a (7 + 11 * i2 + 8 + 1) y = sM (mw_up M 48 (18 * i2 + 9 * t + f) a) i2 x y := by
        intro x y hx hy
        have e0 := hY i2 hi2 0 (by decide) x hx
        have e1 := hY i2 hi2 1 (by decide) y hy
        rw [fr_mix (by omega)] at e0 e1
        rw [e0, e1]
        rfl
      refine ⟨g1, fun x y hx hy hp => by show _ + _ ≤ _; rw [es x y hx hy]; exact g2 x y hx hy hp, ?_⟩
      rcases g3 with g | ⟨x, y, hx, hy, hp, g⟩
      · exact Or.inl g
      · exact Or.inr ⟨x, y, hx, hy, hp, by show _ = _ + _; rw [es x y hx hy]; exact g⟩
    · rw [fr_mix (by omega), mw_up_ne (by omega), mixedV_cg (fun k hk => mw_up_nj (by omega))]; exact h5 i2 hi2 f2 hf2
  · rw [mw_up_ne (hb q hq2)]; exact h6 i2 hi2 q hq2
  · rw [mw_up_ne (by omega)]; exact h7 k hk
  · rw [mw_up_ap]
    split
    · exact ⟨v, hv, ha⟩
    · exact h8 k hk
  · rw [filledV_eq (mw_up_ne (by omega))]; exact h9 i2 hi2
