/-! THE RELATION of the two halves: C holds the component's cells (names below 40), M the reference's (from 40 on) -/
def rF : List (Nat × Nat) := [(0, 41), (1, 42), (2, 43), (3, 46), (4, 44), (5, 45), (12, 54), (13, 55), (14, 56), (15, 57)]
def rB : List (Nat × Nat) := [(41, 100), (42, 100), (43, 5), (44, 50), (45, 100), (46, 20)]
def uB : Nat → Nat
  | 0 => 0
  | 1 => 250
  | _ => 1750
def relF (C M : mw_I) : Prop := ∀ i, i < 3 → ∀ q, q ∈ rF → C (7 + 11 * i) q.1 = M q.2 i
def relO (C M : mw_I) : Prop := ∀ i, i < 3 → ∀ o, o < 2 → C (7 + 11 * i + 1) o = M 47 (2 * i + o) ∧ C (7 + 11 * i + 2) o = M 49 (2 * i + o)
def relY (C M : mw_I) : Prop := ∀ i, i < 3 → ∀ t, t < 2 → ∀ f, f < 9 → C (7 + 11 * i + 8 + t) f = M 48 (18 * i + 9 * t + f)
def relW (C M : mw_I) : Prop := ∀ o, o < 2 → C 2 o = M 51 o ∧ C 3 o = M 52 o ∧ C 4 o = - M 53 o
def relX (C M : mw_I) : Prop := ∀ i, i < 3 → ∀ f, f < 17 → C (7 + 11 * i + 10) f = mixedV M i (nI f)
def bndF (M : mw_I) : Prop := ∀ i, i < 3 → ∀ q, q ∈ rB → ∃ v, v ≤ q.2 ∧ M q.1 i = nI v
def bndO (M : mw_I) : Prop := ∀ k, k < 6 → ∃ v, v ≤ 30 ∧ M 47 k = nI v
def bndY (M : mw_I) : Prop := ∀ k, k < 54 → ∃ v, v ≤ 200 ∧ M 48 k = nI v
def bndW (M : mw_I) : Prop := ∀ i, i < 3 → ∃ w, w ≤ 100 ∧ filledV M i = nI w
def relU (C M : mw_I) (h : Nat) : Prop := ∀ i, i < 3 → ∀ o, o < 2 → ∀ j, j < 6 → C (7 + 11 * i + 5 + o) ((h + j) % 6) = M 50 (210 * (2 * i + o) + (h + j))
def zerU (M : mw_I) (h : Nat) : Prop := ∀ i, i < 3 → ∀ o, o < 2 → ∀ k, k < 210 → (k < h ∨ h + 6 ≤ k) → M 50 (210 * (2 * i + o) + k) = 0
def bndU (M : mw_I) (h p : Nat) : Prop := ∀ i, i < 3 → ∀ j, j < 6 → ∃ u, u ≤ (if i ≤ p then 6 - j else 5 - j) * uB i ∧ M 50 (210 * (2 * i + 0) + (h + j)) + M 50 (210 * (2 * i + 1) + (h + j)) = nI u
def donU (M : mw_I) (h p : Nat) : Prop := ∀ i, i < p → ∀ o, o < 2 → M 50 (210 * (2 * i + o) + h) = 0
/-- all but the hour and the water under way -/
def relA (C M : mw_I) : Prop := relF C M ∧ relO C M ∧ relY C M ∧ relW C M ∧ relX C M ∧ bndF M ∧ bndO M ∧ bndY M ∧ bndW M
def relP (C M : mw_I) (h p : Nat) : Prop := relA C M ∧ relU C M h ∧ zerU M h ∧ bndU M h p ∧ donU M h p
def rel2 (C M : mw_I) : Prop := ∃ h, h ≤ 200 ∧ C 0 6 = nI h ∧ M 40 10 = nI h ∧ relP C M h 0
def lwR (I : mw_I) : Prop := rel2 I I
theorem mixedV_eq {M M' : mw_I} (h : M' 48 = M 48) (i : Nat) (f : Int32) : mixedV M' i f = mixedV M i f := by
  unfold mixedV
  have e : mixedG M' i f = mixedG M i f := by
    funext k z
    unfold mixedG
    rw [h]
  rw [e]
theorem filledV_eq {M M' : mw_I} (h : M' 49 = M 49) (i : Nat) : filledV M' i = filledV M i := by
  unfold filledV
  rw [h]
theorem relP_cong {C M C' M' : mw_I} {h p : Nat} (hC : ∀ a, a < 40 → a ≠ 0 → a ≠ 5 → a ≠ 6 → C' a = C a) (hM : ∀ a, 41 ≤ a → a < 58 → M' a = M a) (hr : relP C M h p) : relP C' M' h p := by
  obtain ⟨⟨h1, h2, h3, h4, h5, h6, h7, h8, h9⟩, h10, h11, h12, h13⟩ := hr
  have hq : ∀ q ∈ rF, 41 ≤ q.2 ∧ q.2 < 58 := by decide
  have hb : ∀ q ∈ rB, 41 ≤ q.1 ∧ q.1 < 58 := by decide
  refine ⟨⟨fun i hi q hq2 => ?_, fun i hi o ho => ?_, fun i hi t ht f hf => ?_, fun o ho => ?_, fun i hi f hf => ?_, fun i hi q hq2 => ?_, fun k hk => ?_, fun k hk => ?_, fun i hi => ?_⟩, fun i hi o ho j hj => ?_, fun i hi o ho k hk hz => ?_, fun i hi j hj => ?_, fun i hi o ho => ?_⟩
  · rw [hC _ (by omega) (by omega) (by omega) (by omega), hM _ (hq q hq2).1 (hq q hq2).2]; exact h1 i hi q hq2
  · rw [hC _ (by omega) (by omega) (by omega) (by omega), hC _ (by omega) (by omega) (by omega) (by omega), hM _ (by omega) (by omega), hM _ (by omega) (by omega)]; exact h2 i hi o ho
  · rw [hC _ (by omega) (by omega) (by omega) (by omega), hM _ (by omega) (by omega)]; exact h3 i hi t ht f hf
  · rw [hC _ (by omega) (by omega) (by omega) (by omega), hC _ (by omega) (by omega) (by omega) (by omega), hC _ (by omega) (by omega) (by omega) (by omega), hM _ (by omega) (by omega), hM _ (by omega) (by omega), hM _ (by omega) (by omega)]; exact h4 o ho
  · rw [hC _ (by omega) (by omega) (by omega) (by omega), mixedV_eq (hM _ (by omega) (by omega))]; exact h5 i hi f hf
  · rw [hM _ (hb q hq2).1 (hb q hq2).2]; exact h6 i hi q hq2
  · rw [hM _ (by omega) (by omega)]; exact h7 k hk
  · rw [hM _ (by omega) (by omega)]; exact h8 k hk
  · rw [filledV_eq (hM _ (by omega) (by omega))]; exact h9 i hi
  · rw [hC _ (by omega) (by omega) (by omega) (by omega), hM _ (by omega) (by omega)]; exact h10 i hi o ho j hj
  · rw [hM _ (by omega) (by omega)]; exact h11 i hi o ho k hk hz
  · rw [hM _ (by omega) (by omega)]; exact h12 i hi j hj
  · rw [hM _ (by omega) (by omega)]; exact h13 i hi o ho
theorem rel2_cong {C M C' M' : mw_I} (hC : ∀ a, a < 40 → a ≠ 5 → a ≠ 6 → C' a = C a) (hM : ∀ a, 41 ≤ a → a < 58 → M' a = M a) (h40 : M' 40 10 = M 40 10) (hr : rel2 C M) : rel2 C' M' := by
  obtain ⟨h, h1, h2, h3, h4⟩ := hr
  exact ⟨h, h1, by rw [hC 0 (by omega) (by omega) (by omega)]; exact h2, h40.trans h3, relP_cong (fun a ha _ h5 h6 => hC a ha h5 h6) hM h4⟩
/-- a mark of the reference's in thrown changes nothing of it -/
theorem rel2_t {C M : mw_I} (x : Int32) (hr : rel2 C M) : rel2 C (mw_up M 40 19 x) := rel2_cong (fun _ _ _ _ => rfl) (fun a ha _ => mw_up_ne (by omega)) (mw_up_nj (by decide)) hr
/-- the component's half changed alone, as C; the reference's as M -/
theorem lwR_of {C M J K : mw_I} (hr : rel2 C M) (hC : ∀ a, a < 40 → a ≠ 5 → a ≠ 6 → K a = C a) (hM : ∀ a, 41 ≤ a → a < 58 → K a = M a) (h40 : K 40 10 = M 40 10) : lwR K := rel2_cong hC hM h40 hr
theorem lwR_t {I : mw_I} (x : Int32) (hr : lwR I) : lwR (mw_up I 40 19 x) := rel2_cong (fun a ha _ _ => mw_up_ne (by omega)) (fun a ha _ => mw_up_ne (by omega)) (mw_up_nj (by decide)) hr
theorem rF_inj : ∀ q ∈ rF, ∀ r ∈ rF, (q.1 = r.1 ↔ q.2 = r.2) := by decide
theorem rF_not : ∀ q ∈ rF, 41 ≤ q.2 ∧ q.2 < 58 ∧ q.2 ≠ 47 ∧ q.2 ≠ 48 ∧ q.2 ≠ 49 ∧ q.2 ≠ 50 ∧ q.2 ≠ 51 ∧ q.2 ≠ 52 ∧ q.2 ≠ 53 := by decide
/-- one of a plant's numbers, set on both sides -/
theorem relA_fld {C M : mw_I} {i f m : Nat} {a : Int32} (hq : (f, m) ∈ rF) (hb : ∀ r ∈ rB, r.1 = m → ∃ v, v ≤ r.2 ∧ a = nI v) (hi : i < 3) (hr : relA C M) : relA (mw_up C (7 + 11 * i) f a) (mw_up M m i a) := by
  obtain ⟨h1, h2, h3, h4, h5, h6, h7, h8, h9⟩ := hr
  have hm := rF_not _ hq
  dsimp only at hm
  refine ⟨fun i2 hi2 q hq2 => ?_, fun i2 hi2 o ho => ?_, fun i2 hi2 t ht f hf => ?_, fun o ho => ?_, fun i2 hi2 f hf => ?_, fun i2 hi2 q hq2 => ?_, fun k hk => ?_, fun k hk => ?_, fun i2 hi2 => ?_⟩
  · rw [mw_up_ap, mw_up_ap, h1 i2 hi2 q hq2]
    have hj := rF_inj q hq2 _ hq
    by_cases e : i2 = i
    · subst e
      by_cases e2 : q.1 = f
      · rw [if_pos ⟨rfl, e2⟩, if_pos ⟨hj.mp e2, rfl⟩]
      · rw [if_neg (fun z => e2 z.2), if_neg (fun z => e2 (hj.mpr z.1))]
    · rw [if_neg (fun z => e (by omega)), if_neg (fun z => e z.2)]
  · rw [mw_up_ne (by omega), mw_up_ne (by omega), mw_up_ne (by omega), mw_up_ne (by omega)]; exact h2 i2 hi2 o ho
  · rw [mw_up_ne (by omega), mw_up_ne (by omega)]; exact h3 i2 hi2 t ht f hf
  · rw [mw_up_ne (by omega), mw_up_ne (by omega), mw_up_ne (by omega), mw_up_ne (by omega), mw_up_ne (by omega), mw_up_ne (by omega)]; exact h4 o ho
  · rw [mw_up_ne (by omega), mixedV_eq (mw_up_ne (by omega))]; exact h5 i2 hi2 f hf
  · rw [mw_up_ap]
    by_cases e : q.1 = m ∧ i2 = i
    · rw [if_pos e]; exact hb q hq2 e.1
    · rw [if_neg e]; exact h6 i2 hi2 q hq2
  · rw [mw_up_ne (by omega)]; exact h7 k hk
  · rw [mw_up_ne (by omega)]; exact h8 k hk
  · rw [filledV_eq (mw_up_ne (by omega))]; exact h9 i2 hi2
theorem relP_of {C M C' M' : mw_I} {h p : Nat} (hA : relA C' M') (hC : ∀ i, i < 3 → ∀ o, o < 2 → C' (7 + 11 * i + 5 + o) = C (7 + 11 * i + 5 + o)) (hM : M' 50 = M 50) (hr : relP C M h p) : relP C' M' h p := by
  obtain ⟨-, h10, h11, h12, h13⟩ := hr
  refine ⟨hA, fun i hi o ho j hj => ?_, fun i hi o ho k hk hz => ?_, fun i hi j hj => ?_, fun i hi o ho => ?_⟩
  · rw [hC i hi o ho, hM]; exact h10 i hi o ho j hj
  · rw [hM]; exact h11 i hi o ho k hk hz
  · rw [hM]; exact h12 i hi j hj
  · rw [hM]; exact h13 i hi o ho
theorem rel2_of {C M C' M' : mw_I} (hr : rel2 C M) (hA : relA C M → relA C' M') (h0 : C' 0 6 = C 0 6) (h40 : M' 40 10 = M 40 10) (hC : ∀ i, i < 3 → ∀ o, o < 2 → C' (7 + 11 * i + 5 + o) = C (7 + 11 * i + 5 + o)) (hM : M' 50 = M 50) : rel2 C' M' := by
  obtain ⟨h, h1, h2, h3, h4⟩ := hr
  exact ⟨h, h1, h0.trans h2, h40.trans h3, relP_of (hA h4.1) hC hM h4⟩
theorem rel2_fld {C M : mw_I} {i f m : Nat} {a : Int32} (hq : (f, m) ∈ rF) (hb : ∀ r ∈ rB, r.1 = m → ∃ v, v ≤ r.2 ∧ a = nI v) (hi : i < 3) (hr : rel2 C M) : rel2 (mw_up C (7 + 11 * i) f a) (mw_up M m i a) := by
  have hm := rF_not _ hq
  dsimp only at hm
  exact rel2_of hr (relA_fld hq hb hi) (by rw [mw_up_ne (by omega)]) (by rw [mw_up_ne (by omega)]) (fun i2 hi2 o ho => mw_up_ne (by omega)) (mw_up_ne (by omega))
theorem relA_ord {C M : mw_I} {i o v : Nat} {a : Int32} (hi : i < 3) (ho : o < 2) (hv : v ≤ 30) (ha : a = nI v) (hr : relA C M) : relA (mw_up C (7 + 11 * i + 1) o a) (mw_up M 47 (2 * i + o) a) := by
  obtain ⟨h1, h2, h3, h4, h5, h6, h7, h8, h9⟩ := hr
  refine ⟨fun i2 hi2 q hq2 => ?_, fun i2 hi2 o2 ho2 => ⟨?_, ?_⟩, fun i2 hi2 t ht f hf => ?_, fun o ho => ?_, fun i2 hi2 f hf => ?_, fun i2 hi2 q hq2 => ?_, fun k hk => ?_, fun k hk => ?_, fun i2 hi2 => ?_⟩
  · have hm := rF_not _ hq2
    rw [mw_up_ne (by omega), mw_up_ne (by omega)]; exact h1 i2 hi2 q hq2
  · rw [mw_up_ap, mw_up_ap, (h2 i2 hi2 o2 ho2).1]
    by_cases e : i2 = i ∧ o2 = o
    · rw [if_pos (by omega), if_pos (by omega)]
    · rw [if_neg (by omega), if_neg (by omega)]
  · rw [mw_up_ne (by omega), mw_up_ne (by omega)]; exact (h2 i2 hi2 o2 ho2).2
  · rw [mw_up_ne (by omega), mw_up_ne (by omega)]; exact h3 i2 hi2 t ht f hf
  · rw [mw_up_ne (by omega), mw_up_ne (by omega), mw_up_ne (by omega), mw_up_ne (by omega), mw_up_ne (by omega), mw_up_ne (by omega)]; exact h4 o ho
  · rw [mw_up_ne (by omega), mixedV_eq (mw_up_ne (by omega))]; exact h5 i2 hi2 f hf
  · have hb : ∀ q ∈ rB, q.1 ≠ 47 := by decide
    rw [mw_up_ne (hb q hq2)]; exact h6 i2 hi2 q hq2
  · rw [mw_up_ap]
    split
    · exact ⟨v, hv, ha⟩
    · exact h7 k hk
  · rw [mw_up_ne (by omega)]; exact h8 k hk
  · rw [filledV_eq (mw_up_ne (by omega))]; exact h9 i2 hi2
