/-! the layout when all is made: 0 WaterCascade, 1 plants, 2 inflowSoFar, 3 goneSoFar, 4 borrowed, 5 bestLater, 6 bestNow; plant i from 7 + 11 * i on -/
def mw_shP : List (Nat × Nat) := [(4, 0), (0, 2), (0, 2), (0, 2), (3, 2), (0, 6), (0, 6), (3, 2), (0, 9), (0, 9), (0, 17)]
def mw_shL : List (Nat × Nat) := [(5, 0), (2, 3), (0, 2), (0, 2), (0, 2), (0, 201), (0, 201)] ++ mw_shP ++ mw_shP ++ mw_shP
def mw_rfP (b : Nat) : List (List (Option Nat)) := [[none, none, none, none, none, none, some (b + 1), some (b + 2), some (b + 3), some (b + 4), some (b + 7), some (b + 10)], [], [], [], [some (b + 5), some (b + 6)], [], [], [some (b + 8), some (b + 9)], [], [], []]
def mw_rfL : List (List (Option Nat)) := [[some 1, some 2, some 3, some 4, some 5, some 6], [some 7, some 18, some 29], [], [], [], [], []] ++ mw_rfP 7 ++ mw_rfP 18 ++ mw_rfP 29
def mw_Y0 : mw_Y := (40, fun k => mw_shL.getD k (0, 0), fun k j => (mw_rfL.getD k []).getD j none)
/-- a plant whose cells begin at the name b -/
def mw_isP (y : mw_Y) (b : Nat) : Prop := b + 11 ≤ y.1 ∧ (y.2.1 b = (0 + 4, 0) ∧ y.2.1 (b + 1) = (0, 2) ∧ y.2.1 (b + 2) = (0, 2) ∧ y.2.1 (b + 3) = (0, 2) ∧ y.2.1 (b + 4) = (3, 2) ∧ (∀ o, o < 2 → y.2.1 (b + 5 + o) = (0, 6)) ∧ y.2.1 (b + 7) = (3, 2) ∧ (∀ o, o < 2 → y.2.1 (b + 8 + o) = (0, 9)) ∧ y.2.1 (b + 10) = (0, 17)) ∧ (y.2.2 b 6 = some (b + 1) ∧ y.2.2 b 7 = some (b + 2) ∧ y.2.2 b 8 = some (b + 3) ∧ y.2.2 b 9 = some (b + 4) ∧ y.2.2 b 10 = some (b + 7) ∧ y.2.2 b 11 = some (b + 10)) ∧ (∀ o, o < 2 → y.2.2 (b + 4) o = some (b + 5 + o)) ∧ (∀ o, o < 2 → y.2.2 (b + 7) o = some (b + 8 + o))
section
variable {y : mw_Y} {b : Nat}
theorem mw_isP.l (h : mw_isP y b) {a : Nat} (ha : a < b + 11) : a < y.1 := Nat.lt_of_lt_of_le ha h.1
theorem mw_isP.l0 (h : mw_isP y b) : b < y.1 := h.l (by omega)
theorem mw_isP.l1 (h : mw_isP y b) : b + 1 < y.1 := h.l (by omega)
theorem mw_isP.l2 (h : mw_isP y b) : b + 2 < y.1 := h.l (by omega)
theorem mw_isP.l3 (h : mw_isP y b) : b + 3 < y.1 := h.l (by omega)
theorem mw_isP.l4 (h : mw_isP y b) : b + 4 < y.1 := h.l (by omega)
theorem mw_isP.l5 (h : mw_isP y b) {o : Nat} (ho : o < 2) : b + 5 + o < y.1 := h.l (by omega)
theorem mw_isP.l7 (h : mw_isP y b) : b + 7 < y.1 := h.l (by omega)
theorem mw_isP.l8 (h : mw_isP y b) {o : Nat} (ho : o < 2) : b + 8 + o < y.1 := h.l (by omega)
theorem mw_isP.l10 (h : mw_isP y b) : b + 10 < y.1 := h.l (by omega)
theorem mw_isP.s0 (h : mw_isP y b) : y.2.1 b = (0 + 4, 0) := h.2.1.1
theorem mw_isP.s1 (h : mw_isP y b) : y.2.1 (b + 1) = (0, 2) := h.2.1.2.1
theorem mw_isP.s2 (h : mw_isP y b) : y.2.1 (b + 2) = (0, 2) := h.2.1.2.2.1
theorem mw_isP.s3 (h : mw_isP y b) : y.2.1 (b + 3) = (0, 2) := h.2.1.2.2.2.1
theorem mw_isP.s4 (h : mw_isP y b) : y.2.1 (b + 4) = (3, 2) := h.2.1.2.2.2.2.1
theorem mw_isP.s5 (h : mw_isP y b) {o : Nat} (ho : o < 2) : y.2.1 (b + 5 + o) = (0, 6) := h.2.1.2.2.2.2.2.1 o ho
theorem mw_isP.s7 (h : mw_isP y b) : y.2.1 (b + 7) = (3, 2) := h.2.1.2.2.2.2.2.2.1
theorem mw_isP.s8 (h : mw_isP y b) {o : Nat} (ho : o < 2) : y.2.1 (b + 8 + o) = (0, 9) := h.2.1.2.2.2.2.2.2.2.1 o ho
theorem mw_isP.s10 (h : mw_isP y b) : y.2.1 (b + 10) = (0, 17) := h.2.1.2.2.2.2.2.2.2.2
theorem mw_isP.r6 (h : mw_isP y b) : y.2.2 b 6 = some (b + 1) := h.2.2.1.1
theorem mw_isP.r7 (h : mw_isP y b) : y.2.2 b 7 = some (b + 2) := h.2.2.1.2.1
theorem mw_isP.r8 (h : mw_isP y b) : y.2.2 b 8 = some (b + 3) := h.2.2.1.2.2.1
theorem mw_isP.r9 (h : mw_isP y b) : y.2.2 b 9 = some (b + 4) := h.2.2.1.2.2.2.1
theorem mw_isP.r10 (h : mw_isP y b) : y.2.2 b 10 = some (b + 7) := h.2.2.1.2.2.2.2.1
theorem mw_isP.r11 (h : mw_isP y b) : y.2.2 b 11 = some (b + 10) := h.2.2.1.2.2.2.2.2
theorem mw_isP.u (h : mw_isP y b) {o : Nat} (ho : o < 2) : y.2.2 (b + 4) o = some (b + 5 + o) := h.2.2.2.1 o ho
theorem mw_isP.yy (h : mw_isP y b) {o : Nat} (ho : o < 2) : y.2.2 (b + 7) o = some (b + 8 + o) := h.2.2.2.2 o ho
end
theorem mw_P0 : ∀ {i : Nat}, i < 3 → mw_isP mw_Y0 (7 + 11 * i) := by
  intro i hi
  rcases (by omega : i = 0 ∨ i = 1 ∨ i = 2) with rfl | rfl | rfl
  · exact ⟨by decide, ⟨rfl, rfl, rfl, rfl, rfl, by decide, rfl, by decide, rfl⟩, ⟨rfl, rfl, rfl, rfl, rfl, rfl⟩, by decide, by decide⟩
  · exact ⟨by decide, ⟨rfl, rfl, rfl, rfl, rfl, by decide, rfl, by decide, rfl⟩, ⟨rfl, rfl, rfl, rfl, rfl, rfl⟩, by decide, by decide⟩
  · exact ⟨by decide, ⟨rfl, rfl, rfl, rfl, rfl, by decide, rfl, by decide, rfl⟩, ⟨rfl, rfl, rfl, rfl, rfl, rfl⟩, by decide, by decide⟩
theorem mw_Yl {k : Nat} (h : k < 40) : k < mw_Y0.1 := h
theorem mw_YW : mw_Y0.2.1 0 = (1 + 4, 0) := rfl
theorem mw_Yp {i : Nat} (hi : i < 3) : mw_Y0.2.2 1 i = some (7 + 11 * i) := by
  rcases (by omega : i = 0 ∨ i = 1 ∨ i = 2) with rfl | rfl | rfl <;> rfl
theorem mw_n0 : (0 : Int32) = nI 0 := rfl
theorem mw_n1 : (1 : Int32) = nI 1 := rfl
theorem mw_n2 : (2 : Int32) = nI 2 := rfl
theorem mw_n3 : (3 : Int32) = nI 3 := rfl
theorem mw_n4 : (4 : Int32) = nI 4 := rfl
theorem mw_n5 : (5 : Int32) = nI 5 := rfl
theorem mw_n6 : (6 : Int32) = nI 6 := rfl
theorem mw_n8 : (8 : Int32) = nI 8 := rfl
theorem mw_n9 : (9 : Int32) = nI 9 := rfl
theorem mw_n18 : (18 : Int32) = nI 18 := rfl
theorem mw_n210 : (210 : Int32) = nI 210 := rfl
theorem mw_n260 : (260 : Int32) = nI 260 := rfl
theorem mw_inc1 (k : Nat) : nI k + Int32.ofInt 1 = nI (k + 1) := nI_1 k
/-- a number in a range -/
def okR (v lo hi : Int32) : Prop := ¬ v < lo ∧ v ≤ hi
theorem okR_nat {v : Int32} {n : Nat} (hn : n < 2 ^ 31) (h : okR v 0 (nI n)) : ∃ i : Nat, i < n + 1 ∧ v = nI i := by
  obtain ⟨h1, h2⟩ := h
  obtain ⟨j, hj, rfl⟩ := nI_of h1
  exact ⟨j, Nat.lt_succ_of_le ((nI_leI hj hn).mp h2), rfl⟩
theorem okR_nI {i n : Nat} (hn : n < 2 ^ 31) (h : i < n + 1) : okR (nI i) 0 (nI n) := ⟨nI_pos (by omega), nI_le (by omega) hn⟩
-- rows with the numbers written out
section
variable {own : String} {cc : ByteArray} {D0 CM SM : Nat} {X : mw_X} {pc : Nat} {ls : List (Option Value)} {st : List Value} {y : mw_Y} {I : mw_I} {L : mw_L} {n k : Nat}
theorem mw_ic (hX : mw_Ok own cc D0 CM SM X) (x : Int32) {i : Int} (d : decode cc pc = .ok (.iconst i, 1)) (hx : Int32.ofInt i = x) (kk : mw_G X (pc + 1) ls (.int x :: st) y I L n k) : mw_G X pc ls st y I L n k := by subst hx; exact mw_iconst hX d kk
theorem mw_bp (hX : mw_Ok own cc D0 CM SM X) (x : Int32) {i : Int} (d : decode cc pc = .ok (.bipush i, 2)) (hx : (Int8.ofInt i).toInt32 = x) (kk : mw_G X (pc + 2) ls (.int x :: st) y I L n k) : mw_G X pc ls st y I L n k := by subst hx; exact mw_bipush hX d kk
theorem mw_sp (hX : mw_Ok own cc D0 CM SM X) (x : Int32) {i : Int} (d : decode cc pc = .ok (.sipush i, 3)) (hx : (Int16.ofInt i).toInt32 = x) (kk : mw_G X (pc + 3) ls (.int x :: st) y I L n k) : mw_G X pc ls st y I L n k := by subst hx; exact mw_sipush hX d kk
theorem mw_inc (hX : mw_Ok own cc D0 CM SM X) {i : Nat} {z : Int} {v : Int32} (w : Int32) (d : decode cc pc = .ok (.iinc i z, 3)) (h : ls[i]? = some (some (.int v))) (hw : v + Int32.ofInt z = w) (kk : mw_G X (pc + 3) (ls.set i (some (.int w))) st y I L n k) : mw_G X pc ls st y I L n k := by subst hw; exact mw_iinc hX d h kk
end
/-- n rounds of f on x, the k-th with k -/
def lpN {α : Type} (f : Nat → α → α) : Nat → α → α
  | 0, x => x
  | n + 1, x => f n (lpN f n x)
theorem lpN_succ {α : Type} (f : Nat → α → α) (n : Nat) (x : α) : lpN f (n + 1) x = f n (lpN f n x) := rfl
/-- a loop that counts up -/
theorem lp_up {p : Nat → Prop} {q : Prop} (N : Nat) (hx : p N → q) (hs : ∀ k, k < N → (p (k + 1) → q) → (p k → q)) : ∀ k, k ≤ N → p k → q := by
  intro k hk
  obtain ⟨m, rfl⟩ : ∃ m, k + m = N := ⟨N - k, by omega⟩
  clear hk
  induction m generalizing k with
  | zero => exact hx
  | succ m ih =>
    refine hs k (by omega) ?_
    have h9 := ih (k + 1) (by rw [show k + 1 + m = k + (m + 1) by omega]; exact hx) (fun j hj => hs j (by omega))
    exact h9
