/-! the law's own rows: its script has the name 1000000 -/
def lw_Sc (X : mw_X) (N : Nat) (xs : Nat → Int32) : Prop :=
  match X with
  | (p, l, e, R, s, m, args, below, meth, c, Q, D, cA, ad0, N0) => N0 = 0 ∧ va_X (ad0 1000000) N xs s s.heap ∧ ad0 1000000 < s.heap.size
section
variable {own : String} {cc : ByteArray} {D0 CM SM : Nat} {X : mw_X} {pc : Nat} {ls : List (Option Value)} {st : List Value} {y : mw_Y} {I : mw_I} {L : mw_L} {n k N : Nat} {xs : Nat → Int32}
theorem mw_le {n' k' : Nat} (hn : n ≤ n') (hk : k ≤ k') (kk : mw_G X pc ls st y I L n' k') : mw_G X pc ls st y I L n k := by
  obtain ⟨p, l, e, R, s, m, args, below, meth, c, Q, D, cA, ad0, N0⟩ := X
  intro ad H locs lsC hR hL
  exact W.widen hn hk (kk ad H locs lsC hR hL)
theorem mw_sload (hX : mw_Ok own cc D0 CM SM X) (hS : lw_Sc X N xs) {i : Int32} {j : Nat} (d : decode cc pc = .ok (.iaload, 1)) (hy : y.1 ≤ 1000000) (hi : i = nI j) (hj : j < N) (hN : N < 2 ^ 31) (kk : mw_G X (pc + 1) ls (.int (xs j) :: st) y I L n k) : mw_G X pc ls (.int i :: .ref 1000000 :: st) y I L n k := by
  obtain ⟨p, l, e, R, s, m, args, below, meth, c, Q, D, cA, ad0, N0⟩ := X
  obtain ⟨hx, hb, hown, hts, hK, -⟩ := hX
  obtain ⟨h0, h1, h2⟩ := hS
  intro ad H locs lsC hR hL
  subst hi
  have e1 : ad 1000000 = ad0 1000000 := hR.2.1 _ (Or.inr hy)
  have h9 := kk ad H locs lsC hR hL
  show W p l e R s m args below meth c H locs n k Q (F0 m pc lsC (.int (nI j) :: .ref (ad 1000000) :: st.map (mw_tr ad)))
  rw [e1]
  refine va_sld hx hb h1 h2 (fun q => ?_) hR.2.2.2.2.2 (vp_in_nI hj hN) d ?_
  · rcases q with ⟨a, ha, -⟩ | q
    · omega
    · omega
  · rw [nI_clamp (by omega)]
    exact h9
theorem mw_slen (hX : mw_Ok own cc D0 CM SM X) (hS : lw_Sc X N xs) (d : decode cc pc = .ok (.arraylength, 1)) (hy : y.1 ≤ 1000000) (kk : mw_G X (pc + 1) ls (.int (nI N) :: st) y I L n k) : mw_G X pc ls (.ref 1000000 :: st) y I L n k := by
  obtain ⟨p, l, e, R, s, m, args, below, meth, c, Q, D, cA, ad0, N0⟩ := X
  obtain ⟨hx, hb, hown, hts, hK, -⟩ := hX
  obtain ⟨h0, h1, h2⟩ := hS
  intro ad H locs lsC hR hL
  have e1 : ad 1000000 = ad0 1000000 := hR.2.1 _ (Or.inr hy)
  have h9 := kk ad H locs lsC hR hL
  show W p l e R s m args below meth c H locs n k Q (F0 m pc lsC (.ref (ad 1000000) :: st.map (mw_tr ad)))
  rw [e1]
  refine va_slen hx hb h1 h2 (fun q => ?_) hR.2.2.2.2.2 d h9
  rcases q with ⟨a, ha, -⟩ | q
  · omega
  · omega
end
