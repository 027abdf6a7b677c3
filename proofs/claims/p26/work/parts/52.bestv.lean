/-! the three best, over a memory that is known -/
def mxN (I : mw_I) (f : Nat) : Nat := (I (7 + 11 * 0 + 10) f).toNatClampNeg
def bokP (I : mw_I) (cp bs mn inf c : Nat) : Prop := (∀ f, f < 17 → mxN I f ≤ 400 ∧ I (7 + 11 * 0 + 10) f = nI (mxN I f)) ∧ (I (7 + 11 * 0) 1 = nI bs ∧ I (7 + 11 * 0) 0 = nI cp ∧ I (7 + 11 * 0) 3 = nI mn ∧ I (7 + 11 * 0) 4 = nI inf) ∧ waterV I (7 + 11 * 0) = nI c ∧ (bs ≤ 100 ∧ cp ≤ 200 ∧ mn ≤ 20 ∧ inf ≤ 50 ∧ c ≤ 200)
theorem best_E {I : mw_I} {m : Nat} (cp bs mn inf c : Nat) (h : bokP I cp bs mn inf c) (hm : m < 6) : greatFromV (wbI m I) (waterV (wbI m I) (7 + 11 * 0)) = nI (Vn (mxN I) cp bs mn inf (m + 1) c) := by
  obtain ⟨h1, ⟨b2, c2, n2, i2⟩, hw, b3, c3, n3, i3, w3⟩ := h
  obtain ⟨j1, j2⟩ := wb_nat (I := I) (fun f hf => (h1 f hf).1) (fun f hf => (h1 f hf).2) b2 c2 n2 i2 b3 c3 n3 i3 m (by omega)
  generalize wbI m I = J at j1 j2
  have jm : ∀ a, 7 ≤ a → J a = I a := fun a ha => j1 a (by omega) (by omega)
  have jw : waterV J (7 + 11 * 0) = nI c := by
    rw [← hw]
    unfold waterV
    rw [jm _ (by omega)]
  have k7 : J (7 + 11 * 0) = I (7 + 11 * 0) := jm _ (by decide)
  have kx : J (7 + 11 * 0 + 10) = I (7 + 11 * 0 + 10) := jm _ (by decide)
  rw [jw, great_nat (fun f hf => (h1 f hf).1) (fun f hf => by rw [kx]; exact (h1 f hf).2) (by rw [k7]; exact b2) (by rw [k7]; exact c2) (by rw [k7]; exact n2) (by rw [k7]; exact i2) b3 c3 n3 i3 w3 (by omega) j2]
theorem best_A {I : mw_I} {m : Nat} (cp bs mn inf c : Nat) (h : bokP I cp bs mn inf c) (hm : m < 6) : gbtV I (7 + 11 * 0) (m + 1) (waterV I (7 + 11 * 0)) = nI (Vn (mxN I) cp bs mn inf (m + 1) c) := by
  obtain ⟨h1, ⟨b2, c2, n2, i2⟩, hw, b3, c3, n3, i3, w3⟩ := h
  rw [hw, gbt_nat (fun f hf => (h1 f hf).1) (fun f hf => (h1 f hf).2) b2 c2 n2 i2 b3 c3 n3 i3 (m + 1) (by omega) c w3]
def fstB (g : Nat → Nat) (ok : Nat → Bool) (a : Nat) : Bool := ok a && decide (g a = mxF g ok 5) && (List.range a).all (fun i => !ok i || decide (g i < g a))
theorem fst_B {g : Nat → Nat} {ok : Nat → Bool} {a : Nat} (h : fstJ g ok 5 a) : a < 5 ∧ fstB g ok a = true := by
  obtain ⟨h1, h2, h3, h4⟩ := h
  refine ⟨h1, ?_⟩
  unfold fstB
  rw [Bool.and_eq_true, Bool.and_eq_true, decide_eq_true_iff, List.all_eq_true]
  refine ⟨⟨h2, h3⟩, fun i hi => ?_⟩
  have hi2 : i < a := List.mem_range.mp hi
  cases hk : ok i
  · rfl
  · exact decide_eq_true (h4 i hi2 hk)
theorem best_R {I : mw_I} {m : Nat} (cp bs mn inf c a0 : Nat) (h : bokP I cp bs mn inf c) (hm : m < 6) (hf : ∀ a, a < 5 → fstB (fun j => enN (mxN I) bs (c + inf) (4 * j) + Vn (mxN I) cp bs mn inf m (lfN cp (c + inf) (4 * j))) (okB mn (c + inf)) a = true → a = a0) : leastBestV (wbI m I) (waterV (wbI m I) (7 + 11 * 0) + wbI m I (7 + 11 * 0) 4) = nI (4 * a0) := by
  obtain ⟨h1, ⟨b2, c2, n2, i2⟩, hw, b3, c3, n3, i3, w3⟩ := h
  obtain ⟨j1, j2⟩ := wb_nat (I := I) (fun f hf => (h1 f hf).1) (fun f hf => (h1 f hf).2) b2 c2 n2 i2 b3 c3 n3 i3 m (by omega)
  generalize wbI m I = J at j1 j2
  have jm : ∀ a, 7 ≤ a → J a = I a := fun a ha => j1 a (by omega) (by omega)
  have jw : waterV J (7 + 11 * 0) = nI c := by
    rw [← hw]
    unfold waterV
    rw [jm _ (by omega)]
  have k7 : J (7 + 11 * 0) = I (7 + 11 * 0) := jm _ (by decide)
  have kx : J (7 + 11 * 0 + 10) = I (7 + 11 * 0 + 10) := jm _ (by decide)
  have hV : ∀ c, c ≤ 200 → Vn (mxN I) cp bs mn inf m c ≤ 100000 := fun c hc => Nat.le_trans (Vn_le (fun f hf => (h1 f hf).1) b3 i3 m c hc c3) (by omega)
  obtain ⟨a, hfst, hlb⟩ := lb_nat (I := J) (lv := c + inf) (fun f hf => (h1 f hf).1) (fun f hf => by rw [kx]; exact (h1 f hf).2) (by rw [k7]; exact b2) (by rw [k7]; exact c2) (by rw [k7]; exact n2) b3 c3 n3 (by omega) hV j2
  obtain ⟨q1, q2⟩ := fst_B hfst
  have q3 := hf a q1 q2
  subst q3
  rw [jw, k7, i2, nI_add, hlb]
theorem mw_top {X : mw_X} {pc : Nat} {ls : List (Option Value)} {st : List Value} {y : mw_Y} {I : mw_I} {L : mw_L} {n k : Nat} {a x : Int32} (h : a = x) (kk : mw_G X pc ls (.int x :: st) y I L n k) : mw_G X pc ls (.int a :: st) y I L n k := by
  subst h
  exact kk
/-- all names are let go -/
theorem mw_clear {X : mw_X} {S0 : mw_S} {out : mw_O} {mc ms : Nat} {ret0 : Option FieldType} (hE : mw_End S0 out mc ms ret0 X) (h0 : S0.1.1 = 0) {pc : Nat} {ls : List (Option Value)} {st : List Value} {y y' : mw_Y} {I I' : mw_I} {L L' : mw_L} {n k : Nat} (hy : y'.1 = 0) (hls : ∀ v, some v ∈ ls → mw_ok 0 y.1 v) (hst : ∀ v, v ∈ st → mw_ok 0 y.1 v) (kk : mw_G X pc ls st y' I' L' n k) : mw_G X pc ls st y I L n k := by
  obtain ⟨p, l, e, R, s, m, args, below, meth, c, Q, D, cA, ad0, N0⟩ := X
  obtain ⟨S1, S2, S3⟩ := S0
  obtain ⟨hQ, hN, hlk, hret⟩ := hE
  intro ad H locs lsC hR hL
  have hN0 : N0 = 0 := hN.trans h0
  have ha : ∀ k, (k < 0 ∨ y.1 ≤ k) → ad0 k = ad k := fun k hk => (hR.2.1 k (by omega)).symm
  have h9 := kk ad0 H locs lsC ⟨by omega, fun _ _ => rfl, fun k j r hk => absurd hk (by omega), fun k q hk => absurd (mw_got hk).1 (by omega), ⟨fun i j p q hi => absurd (mw_got hi).1 (by omega), fun k q hk => absurd (mw_got hk).1 (by omega)⟩, hR.2.2.2.2.2⟩ (hL.ad ha hls)
  rw [mw_st_ad ha st hst] at h9
  exact h9
