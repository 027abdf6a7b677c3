/-! one plant's hour keeps the relation -/
theorem fr_run1 {C : mw_I} {p h t a : Nat} (h0 : a ≠ 7 + 11 * p) (h2 : a ≠ 7 + 11 * p + 2) (h3 : a ≠ 7 + 11 * p + 3) (h5 : a ≠ 7 + 11 * p + 5) (h6 : a ≠ 7 + 11 * p + 6) (h7 : a ≠ 7 + 11 * (p + 1) + 5) (h8 : a ≠ 7 + 11 * (p + 1) + 6) (g2 : a ≠ 2) (g3 : a ≠ 3) : runPlantI C p h t a = C a := by
  show lpN (fun o J => sendI J p h t o) 2 (spillI (letGoI (lpN (fun o J => recvI J (7 + 11 * p) h o) 2 C) (7 + 11 * p)) (7 + 11 * p)) a = C a
  rw [fr_sends (by omega) (by omega) g3, fr_spill h0 h2 h3, fr_go h0 h2 h3, fr_recvs (by omega) (by omega) h2 g2]
theorem if16 {x : Int32} : (if 16 < x then 16 else x) = if 16 ≤ x then 16 else x := by
  by_cases h : 16 < x
  · rw [if_pos h, if_pos (Int32.le_of_lt h)]
  · rw [if_neg h]
    split
    · rename_i g
      exact Int32.le_antisymm (Int32.not_lt.mp h) g
    · rfl
section
variable {C M : mw_I} {h p t : Nat}
theorem step1 (hp : p < 3) (hr : relP C M h p) : (∀ o, o < 2 → rcvI C (7 + 11 * p) h (7 + 11 * p + 2) o = wkB (wkA M p h) p 49 (2 * p + o)) ∧ (∀ o, o < 2 → rcvI C (7 + 11 * p) h 2 o = wkB (wkA M p h) p 51 o) ∧ ∃ W, W ≤ 250 + 6 * uB p ∧ filledV (wkB (wkA M p h) p) p = nI W := by
  obtain ⟨⟨h1, h2, h3, h4, h5, h6, h7, h8, h9⟩, h10, h11, h12, h13⟩ := hr
  have e4 := h1 p hp (4, 44) (by decide)
  have e5 := h1 p hp (5, 45) (by decide)
  dsimp only at e4 e5
  have hin : ∀ o, inflowV C (7 + 11 * p) o = mInf M p o := fun o => by
    unfold inflowV mInf
    rw [e4, e5]
  have hin2 : ∀ o, mInf (wkA M p h) p o = mInf M p o := fun o => by
    unfold mInf
    rw [show wkA M p h 44 = M 44 from fr_wkA (by decide) (by decide) 2, show wkA M p h 45 = M 45 from fr_wkA (by decide) (by decide) 2]
  have hacc : ∀ o, o < 2 → wkB (wkA M p h) p 49 (2 * p + o) = M 49 (2 * p + o) + M 50 (210 * (2 * p + o) + h) + mInf M p o := fun o ho => by rw [wB_acc ho, wA_acc ho, hin2]
  refine ⟨fun o ho => ?_, fun o ho => ?_, ?_⟩
  · have e : C (7 + 11 * p + 5 + o) (h % 6) = M 50 (210 * (2 * p + o) + h) := h10 p hp o ho 0 (by decide)
    rw [rc_acc (by omega) ho, hacc o ho, hin, e, (h2 p hp o ho).2, Int32.add_assoc]
  · rw [rc_2 (by omega) ho, wB_51 ho, hin, hin2, (h4 o ho).1, show wkA M p h 51 = M 51 from fr_wkA (by decide) (by decide) 2]
  · obtain ⟨w, hw, ew⟩ := h9 p hp
    obtain ⟨u, hu, eu0⟩ := h12 p hp 0 (by decide)
    have eu : M 50 (210 * (2 * p + 0) + h) + M 50 (210 * (2 * p + 1) + h) = nI u := eu0
    obtain ⟨q, hq, eq⟩ := h6 p hp (44, 50) (by decide)
    dsimp only at hq eq
    rw [if_pos (Nat.le_refl p)] at hu
    refine ⟨w + u + q, by omega, ?_⟩
    have g0 : wkB (wkA M p h) p 49 (2 * p) = M 49 (2 * p) + M 50 (210 * (2 * p + 0) + h) + mInf M p 0 := hacc 0 (by decide)
    have g1 := hacc 1 (by decide)
    unfold filledV at ew ⊢
    rw [g0, g1, ← nI_add, ← nI_add, ← ew, ← eu, ← eq]
    unfold mInf
    rw [if_pos rfl, if_neg (by decide)]
    generalize M 44 p * M 45 p / 100 = f
    generalize M 49 (2 * p) = a
    generalize M 49 (2 * p + 1) = c
    generalize M 50 (210 * (2 * p + 0) + h) = d
    generalize M 50 (210 * (2 * p + 1) + h) = g
    generalize M 44 p = k
    grind
end
section
variable {G K : mw_I} {b p : Nat}
theorem more_eq (h0 : G (b + 2) 0 = K 49 (2 * p)) (h1 : G (b + 2) 1 = K 49 (2 * p + 1)) : moreV G b = richerN K p := by
  unfold moreV richerN
  rw [h0, h1]
  by_cases g : K 49 (2 * p + 1) ≤ K 49 (2 * p)
  · rw [if_pos g, if_neg (Int32.not_lt.mpr g)]
  · rw [if_neg g, if_pos (Int32.not_le.mp g)]
theorem sq_eq (h0 : G (b + 2) 0 = K 49 (2 * p)) (h1 : G (b + 2) 1 = K 49 (2 * p + 1)) (hc : G b 0 = K 41 p) (o : Nat) : sq G b o = mq K p o := by
  unfold sq mq
  rw [more_eq h0 h1, hc]
  unfold waterV filledV
  rw [h0, h1]
/-- the spilt water as a number -/
theorem mq_sum {V cp : Nat} (hV : V ≤ 20000) (hcp : cp ≤ 200) (e : filledV K p = nI V) (ec : K 41 p = nI cp) : mq K p 0 + mq K p 1 = nI (V - cp) := by
  unfold mq
  rw [e, ec]
  by_cases g : V ≤ cp
  · rw [if_pos ((sub_le0 (by omega) (by omega)).mpr g), if_pos ((sub_le0 (by omega) (by omega)).mpr g), show V - cp = 0 by omega]
    rfl
  · have g2 : ¬ nI V - nI cp ≤ 0 := fun q => g ((sub_le0 (by omega) (by omega)).mp q)
    rw [if_neg g2, if_neg g2, pk_sub (by omega)]
    have := richerN_lt K p
    rcases (by omega : richerN K p = 0 ∨ richerN K p = 1) with q | q
    · rw [q, if_pos rfl, if_neg (by decide), Int32.add_zero]
    · rw [q, if_neg (by decide), if_pos rfl, Int32.zero_add]
end
section
variable {C M : mw_I} {h p t : Nat}
theorem R_ne {a : Nat} (h1 : a ≠ 49) (h2 : a ≠ 50) (h3 : a ≠ 52) (h4 : a ≠ 54) (h5 : a ≠ 55) (h6 : a ≠ 56) (h7 : a ≠ 57) (h8 : a ≠ 51) : worksI M p h t a = M a := fr_works h1 h2 h3 h4 h5 h6 h7 h8
theorem R_50n {k : Nat} (a0 : k ≠ 210 * (2 * p + 2 + 0) + h + t) (a1 : k ≠ 210 * (2 * p + 2 + 1) + h + t) : worksI M p h t 50 k = wkA M p h 50 k := by
  unfold worksI wkE
  rw [wS_50n a0 a1, wP_50n a0 a1, fr_wkB (by decide) (by decide)]
theorem R_502 (hp : p = 2) : worksI M p h t 50 = wkA M p h 50 := by
  unfold worksI wkE
  rw [wS_502 hp, wP_502 hp, fr_wkB (by decide) (by decide)]
/-- all that the plant's hour gives -/
theorem step2 (hp : p < 3) (hr : relP C M h p) : ∃ (X : Nat → Int32) (Wx w : Nat), Wx ≤ 250 + 6 * uB p ∧ w ≤ 100 ∧ X 0 + X 1 = nI Wx ∧ filledV (worksI M p h t) p = nI w ∧
    (∀ o, o < 2 → spillI (letGoI (rcvI C (7 + 11 * p) h) (7 + 11 * p)) (7 + 11 * p) (7 + 11 * p + 3) o = X o) ∧
    (∀ o, o < 2 → spillI (letGoI (rcvI C (7 + 11 * p) h) (7 + 11 * p)) (7 + 11 * p) (7 + 11 * p + 2) o = worksI M p h t 49 (2 * p + o)) ∧
    (∀ o, o < 2 → p ≠ 2 → worksI M p h t 50 (210 * (2 * p + 2 + o) + h + t) = wkA M p h 50 (210 * (2 * p + 2 + o) + h + t) + X o) ∧
    (∀ o, o < 2 → p = 2 → worksI M p h t 52 o = M 52 o + X o) ∧
    (∀ q, q ∈ rF → 12 ≤ q.1 → spillI (letGoI (rcvI C (7 + 11 * p) h) (7 + 11 * p)) (7 + 11 * p) (7 + 11 * p) q.1 = worksI M p h t q.2 p) := by
  obtain ⟨s1, s2, W, hW, eW⟩ := step1 hp hr
  obtain ⟨⟨h1, h2, h3, h4, h5, h6, h7, h8, h9⟩, h10, h11, h12, h13⟩ := hr
  have hW2 : W ≤ 20000 := by
    rcases (by omega : p = 0 ∨ p = 1 ∨ p = 2) with rfl | rfl | rfl
    · have : uB 0 = 0 := rfl
      omega
    · have : uB 1 = 250 := rfl
      omega
    · have : uB 2 = 1750 := rfl
      omega
  have cb : ∀ a, a = 7 + 11 * p ∨ a = 7 + 11 * p + 1 ∨ a = 7 + 11 * p + 10 → rcvI C (7 + 11 * p) h a = C a := fun a ha => fr_recvs (Nat.le_refl 2) (by omega) (by omega) (by omega)
  have bn : ∀ a, a ≠ 49 → a ≠ 50 → a ≠ 51 → wkB (wkA M p h) p a = M a := fun a a1 a2 a3 => (fr_wkB a1 a3).trans (fr_wkA a1 a2 2)
  have eP : cP (rcvI C (7 + 11 * p) h) (7 + 11 * p) = cutV (wkB (wkA M p h) p) p (mineV (wkB (wkA M p h) p) p) (otherV (wkB (wkA M p h) p) p) := by
    have e3 := h1 p hp (3, 46) (by decide)
    dsimp only at e3
    have a0 : rcvI C (7 + 11 * p) h (7 + 11 * p + 2) 0 = wkB (wkA M p h) p 49 (2 * p) := s1 0 (by decide)
    have b0 : C (7 + 11 * p + 1) 0 = M 47 (2 * p) := (h2 p hp 0 (by decide)).1
    rw [mPP]
    unfold cP
    rw [a0, s1 1 (by decide), cb _ (Or.inl rfl), cb _ (Or.inr (Or.inl rfl)), e3, b0, (h2 p hp 1 (by decide)).1, bn 46 (by decide) (by decide) (by decide), bn 47 (by decide) (by decide) (by decide)]
  obtain ⟨mn, hmn, emn⟩ := h6 p hp (46, 20) (by decide)
  obtain ⟨x, hx, ex⟩ := h7 (2 * p) (by omega)
  obtain ⟨y, hy, ey⟩ := h7 (2 * p + 1) (by omega)
  obtain ⟨cp, hcp, ecp⟩ := h6 p hp (41, 100) (by decide)
  dsimp only at emn hmn hcp ecp
  obtain ⟨T, hT, hTW, eT⟩ := pP_sum (a0 := wkB (wkA M p h) p 49 (2 * p)) (a1 := wkB (wkA M p h) p 49 (2 * p + 1)) hmn hx hy hW2 ((congrFun (bn 46 (by decide) (by decide) (by decide)) p).trans emn) ((congrFun (bn 47 (by decide) (by decide) (by decide)) (2 * p)).trans ex) ((congrFun (bn 47 (by decide) (by decide) (by decide)) (2 * p + 1)).trans ey) eW
  rw [← mPP, ← eP] at eT
  generalize hPP : cP (rcvI C (7 + 11 * p) h) (7 + 11 * p) = P at eP eT
  have g30 := lg_30 (I := rcvI C (7 + 11 * p) h) (b := 7 + 11 * p)
  have g31 := lg_31 (I := rcvI C (7 + 11 * p) h) (b := 7 + 11 * p)
  have g20 := lg_20 (I := rcvI C (7 + 11 * p) h) (b := 7 + 11 * p)
  have g21 := lg_21 (I := rcvI C (7 + 11 * p) h) (b := 7 + 11 * p)
  have g13 := lg_13 (I := rcvI C (7 + 11 * p) h) (b := 7 + 11 * p)
  have g14 := lg_14 (I := rcvI C (7 + 11 * p) h) (b := 7 + 11 * p)
  have g15 := lg_15 (I := rcvI C (7 + 11 * p) h) (b := 7 + 11 * p)
  have gj : ∀ j, j < 13 → letGoI (rcvI C (7 + 11 * p) h) (7 + 11 * p) (7 + 11 * p) j = C (7 + 11 * p) j := fun j hj => (fr_goj hj).trans (congrFun (cb _ (Or.inl rfl)) j)
  rw [hPP] at g30 g31 g20 g21 g13 g14 g15
  have wv : waterV (rcvI C (7 + 11 * p) h) (7 + 11 * p) = filledV (wkB (wkA M p h) p) p := by
    unfold waterV filledV
    rw [s1 1 (by decide)]
    exact congrArg (· + _) (s1 0 (by decide))
  have eR : worksI M p h t = wkS (wkP (wkB (wkA M p h) p) p h t P.1 P.2 (headV (wkB (wkA M p h) p) p)) p h t := by
    unfold worksI wkE
    rw [← eP]
  generalize hG : letGoI (rcvI C (7 + 11 * p) h) (7 + 11 * p) = G at g30 g31 g20 g21 g13 g14 g15 gj
  generalize hK : wkP (wkB (wkA M p h) p) p h t P.1 P.2 (headV (wkB (wkA M p h) p) p) = K at eR
  have k0 : K 49 (2 * p) = wkB (wkA M p h) p 49 (2 * p) - P.1 := by rw [← hK]; exact wP_49 (o := 0) (by decide)
  have k1 : K 49 (2 * p + 1) = wkB (wkA M p h) p 49 (2 * p + 1) - P.2 := by rw [← hK]; exact wP_49 (o := 1) (by decide)
  have kg0 : G (7 + 11 * p + 2) 0 = K 49 (2 * p) := by rw [g20, k0]; exact congrArg (· - P.1) (s1 0 (by decide))
  have kg1 : G (7 + 11 * p + 2) 1 = K 49 (2 * p + 1) := by rw [g21, k1, s1 1 (by decide)]
  have k41 : K 41 = M 41 := by rw [← hK, fr_wkP (by decide) (by decide) (by decide) (by decide) (by decide) (by decide)]; exact bn 41 (by decide) (by decide) (by decide)
  have kc : G (7 + 11 * p) 0 = K 41 p := by rw [gj 0 (by decide), k41]; exact h1 p hp (0, 41) (by decide)
  have kV : filledV K p = nI (W - T) := by
    rw [← pk_sub hTW, ← eW, ← eT]
    unfold filledV
    rw [k0, k1]
    generalize wkB (wkA M p h) p 49 (2 * p) = a
    generalize wkB (wkA M p h) p 49 (2 * p + 1) = c
    grind
  have k41p : K 41 p = nI cp := by rw [k41]; exact ecp
  have ms := mq_sum (K := K) (p := p) (V := W - T) (cp := cp) (by omega) (by omega) kV k41p
  have sqe := sq_eq (G := G) (K := K) kg0 kg1 kc
  have q0 : 7 ≤ 7 + 11 * p := by omega
  refine ⟨fun o => (if o = 0 then P.1 else P.2) + mq K p o, T + (W - T - cp), W - T - (W - T - cp), by omega, by omega, ?_, ?_, fun o ho => ?_, fun o ho => ?_, fun o ho hp2 => ?_, fun o ho hp2 => ?_, fun q hq hq2 => ?_⟩
  · show (P.1 + mq K p 0) + (P.2 + mq K p 1) = _
    rw [← nI_add, ← eT, ← ms]
    generalize mq K p 0 = a
    generalize mq K p 1 = c
    grind
  · rw [eR, ← pk_sub (by omega), ← kV, ← ms]
    unfold filledV
    have w0 : wkS K p h t 49 (2 * p) = K 49 (2 * p) - mq K p 0 := wS_49 (o := 0) (by decide)
    rw [w0, wS_49 (by decide)]
    generalize mq K p 0 = a
    generalize mq K p 1 = c
    generalize K 49 (2 * p) = d
    generalize K 49 (2 * p + 1) = f
    grind
  · rw [sp_3, sqe]
    rcases (by omega : o = 0 ∨ o = 1) with rfl | rfl
    · rw [g30]; rfl
    · rw [g31]; rfl
  · rw [sp_2, sqe, eR, wS_49 ho]
    rcases (by omega : o = 0 ∨ o = 1) with rfl | rfl
    · rw [kg0]; rfl
    · rw [kg1]
  · rw [eR, wS_50 hp2 ho, ← hK, wP_50 hp2 ho, hK, fr_wkB (by decide) (by decide), Int32.add_assoc]
  · rw [eR, wS_52 hp2 ho, ← hK, wP_52 hp2 ho, hK, bn 52 (by decide) (by decide) (by decide), Int32.add_assoc]
  · have hc : q = (12, 54) ∨ q = (13, 55) ∨ q = (14, 56) ∨ q = (15, 57) := by
      simp only [rF, List.mem_cons, List.not_mem_nil, or_false] at hq
      rcases hq with rfl | rfl | rfl | rfl | rfl | rfl | rfl | rfl | rfl | rfl <;> first | exact absurd hq2 (by decide) | exact Or.inl rfl | exact Or.inr (Or.inl rfl) | exact Or.inr (Or.inr (Or.inl rfl)) | exact Or.inr (Or.inr (Or.inr rfl))
    rw [eR]
    rcases hc with rfl | rfl | rfl | rfl
    · show spillI G (7 + 11 * p) (7 + 11 * p) 12 = wkS K p h t 54 p
      have k54 : K 54 = M 54 := by rw [← hK, fr_wkP (by decide) (by decide) (by decide) (by decide) (by decide) (by decide)]; exact bn 54 (by decide) (by decide) (by decide)
      have wg : waterV G (7 + 11 * p) = filledV K p := by
        unfold waterV filledV
        rw [kg0, kg1]
      rw [sp_12, wS_54, gj 12 (by decide), k54, wg, kc]
      exact congrArg (· + _) (h1 p hp (12, 54) (by decide))
    · show spillI G (7 + 11 * p) (7 + 11 * p) 13 = wkS K p h t 55 p
      rw [fr_spillj (by decide), fr_wkS (by decide) (by decide) (by decide) (by decide), ← hK, wP_55, g13, bn 55 (by decide) (by decide) (by decide), bn 46 (by decide) (by decide) (by decide), cb _ (Or.inl rfl)]
      rw [show C (7 + 11 * p) 13 = M 55 p from h1 p hp (13, 55) (by decide), show C (7 + 11 * p) 3 = M 46 p from h1 p hp (3, 46) (by decide)]
    · show spillI G (7 + 11 * p) (7 + 11 * p) 14 = wkS K p h t 56 p
      rw [fr_spillj (by decide), fr_wkS (by decide) (by decide) (by decide) (by decide), ← hK, wP_56, g14, if16]
    · show spillI G (7 + 11 * p) (7 + 11 * p) 15 = wkS K p h t 57 p
      rw [fr_spillj (by decide), fr_wkS (by decide) (by decide) (by decide) (by decide), ← hK, wP_57, g15, if16, bn 57 (by decide) (by decide) (by decide), cb _ (Or.inl rfl)]
      rw [show C (7 + 11 * p) 15 = M 57 p from h1 p hp (15, 57) (by decide)]
      have hf : ∃ f, f < 17 ∧ (if 16 ≤ P.1 + P.2 then 16 else P.1 + P.2) = nI f := by
        rw [eT]
        by_cases g : 16 ≤ T
        · exact ⟨16, by decide, by rw [if_pos (c := (16 : Int32) ≤ nI T) (nI_le (a := 16) g (by omega))]; rfl⟩
        · exact ⟨T, by omega, by rw [if_neg (c := (16 : Int32) ≤ nI T) (nI_ge (a := T) (b := 16) (by omega) (by decide))]⟩
      obtain ⟨f, hf, ef⟩ := hf
      rw [ef]
      have em : mixForV (rcvI C (7 + 11 * p) h) (7 + 11 * p) (nI f) = mixedV (wkB (wkA M p h) p) p (nI f) := by
        rw [mixedV_eq (bn 48 (by decide) (by decide) (by decide)), mixForV, if_neg, nI_clamp (by omega), cb _ (Or.inr (Or.inr rfl))]
        · exact h5 p hp f hf
        · rintro (z | z)
          · exact nI_pos (by omega) z
          · exact absurd z (Int32.not_lt.mpr (nI_le (a := f) (b := 16) (by omega) (by decide)))
      unfold energyV headV
      rw [em, wv, cb _ (Or.inl rfl), show C (7 + 11 * p) 1 = M 42 p from h1 p hp (1, 42) (by decide), bn 42 (by decide) (by decide) (by decide)]
end
