/-! a memory as one number, the names 5 and 6 apart -/
def cntL : List Nat := [7, 0, 2, 2, 2, 0, 0, 16, 2, 2, 2, 0, 6, 6, 0, 9, 9, 17, 16, 2, 2, 2, 0, 6, 6, 0, 9, 9, 17, 16, 2, 2, 2, 0, 6, 6, 0, 9, 9, 17]
def cnt (k : Nat) : Nat := cntL.getD k 0
def ndP (I : mw_I) : Prop := ∀ k j, k ≠ 5 → k ≠ 6 → cnt k ≤ j → I k j = 0
def ndV (I : mw_I) (n : Nat) : Nat := if n % 18 < cnt (n / 18) then (I (n / 18) (n % 18)).toBitVec.toNat else 0
def ndE (I : mw_I) : Nat → Nat
  | 0 => 0
  | n + 1 => ndE I n + ndV I n * 2 ^ (32 * n)
def encS (I : mw_I) : Nat := ndE I 720
def mkS (S : Nat) (F G : Nat → Int32) : mw_I := fun k j => if k = 5 then F j else if k = 6 then G j else if k < 40 ∧ j < 18 then nI (S / 2 ^ (32 * (18 * k + j)) % 2 ^ 32) else 0
theorem cnt_hi {k : Nat} (h : 40 ≤ k) : cnt k = 0 := by
  unfold cnt
  rw [List.getD_eq_getElem?_getD, List.getElem?_eq_none h]
  rfl
theorem cnt_le (k : Nat) : cnt k ≤ 18 := by
  have h : ∀ k, k < 40 → cnt k ≤ 18 := by decide
  rcases Nat.lt_or_ge k 40 with q | q
  · exact h k q
  · rw [cnt_hi q]; exact Nat.zero_le _
theorem ndV_lt (I : mw_I) (n : Nat) : ndV I n < 2 ^ 32 := by
  unfold ndV
  split
  · exact (I (n / 18) (n % 18)).toBitVec.isLt
  · decide
theorem nd_pw (n : Nat) : 2 ^ (32 * (n + 1)) = 2 ^ 32 * 2 ^ (32 * n) := by
  rw [← Nat.pow_add]
  congr 1
  omega
theorem ndE_lt (I : mw_I) : ∀ n, ndE I n < 2 ^ (32 * n)
  | 0 => Nat.one_pos
  | n + 1 => by
    have h1 := ndE_lt I n
    have h2 := ndV_lt I n
    rw [nd_pw]
    show ndE I n + ndV I n * 2 ^ (32 * n) < 2 ^ 32 * 2 ^ (32 * n)
    have h3 : (ndV I n + 1) * 2 ^ (32 * n) ≤ 2 ^ 32 * 2 ^ (32 * n) := Nat.mul_le_mul_right _ h2
    rw [Nat.add_mul, Nat.one_mul] at h3
    generalize ndV I n * 2 ^ (32 * n) = x at *
    generalize 2 ^ 32 * 2 ^ (32 * n) = z at *
    generalize 2 ^ (32 * n) = w at *
    omega
theorem ndE_dig (I : mw_I) (n : Nat) : ∀ N, n < N → ndE I N / 2 ^ (32 * n) % 2 ^ 32 = ndV I n
  | 0, h => absurd h (Nat.not_lt_zero n)
  | N + 1, h => by
    show (ndE I N + ndV I N * 2 ^ (32 * N)) / 2 ^ (32 * n) % 2 ^ 32 = ndV I n
    rcases Nat.lt_or_ge n N with q | q
    · have e : ndV I N * 2 ^ (32 * N) = (ndV I N * 2 ^ (32 * (N - n - 1)) * 2 ^ 32) * 2 ^ (32 * n) := by
        rw [Nat.mul_assoc, Nat.mul_assoc, ← Nat.pow_add, ← Nat.pow_add]
        congr 2
        omega
      rw [e, Nat.add_mul_div_right _ _ (Nat.two_pow_pos _), Nat.add_mul_mod_self_right]
      exact ndE_dig I n N q
    · have e : n = N := by omega
      rw [e, Nat.add_mul_div_right _ _ (Nat.two_pow_pos _), Nat.div_eq_of_lt (ndE_lt I N), Nat.zero_add, Nat.mod_eq_of_lt (ndV_lt I N)]
theorem nd_self {I : mw_I} (hP : ndP I) : I = mkS (encS I) (I 5) (I 6) := by
  funext k j
  unfold mkS
  by_cases h5 : k = 5
  · rw [if_pos h5, h5]
  · rw [if_neg h5]
    by_cases h6 : k = 6
    · rw [if_pos h6, h6]
    · rw [if_neg h6]
      by_cases h : k < 40 ∧ j < 18
      · rw [if_pos h]
        unfold encS
        have hd : (18 * k + j) / 18 = k := by omega
        have hm : (18 * k + j) % 18 = j := by omega
        rw [ndE_dig I _ _ (by omega)]
        unfold ndV
        rw [hd, hm]
        by_cases hc : j < cnt k
        · rw [if_pos hc]
          apply Int32.toBitVec_inj.mp
          show _ = BitVec.ofNat 32 (I k j).toBitVec.toNat
          rw [BitVec.ofNat_toNat, BitVec.setWidth_eq]
        · rw [if_neg hc, hP k j h5 h6 (by omega)]
          rfl
      · rw [if_neg h]
        refine hP k j h5 h6 ?_
        rcases (by omega : 40 ≤ k ∨ (k < 40 ∧ 18 ≤ j)) with q | q
        · rw [cnt_hi q]; exact Nat.zero_le _
        · exact Nat.le_trans (cnt_le k) q.2
theorem ndE_cong {I J : mw_I} (h : ∀ k, k ≠ 5 → k ≠ 6 → I k = J k) : ∀ n, ndE I n = ndE J n
  | 0 => rfl
  | n + 1 => by
    show ndE I n + ndV I n * 2 ^ (32 * n) = ndE J n + ndV J n * 2 ^ (32 * n)
    have e : ndV I n = ndV J n := by
      unfold ndV
      by_cases h5 : n / 18 = 5
      · rw [h5, if_neg (show ¬ n % 18 < cnt 5 from Nat.not_lt_zero _), if_neg (show ¬ n % 18 < cnt 5 from Nat.not_lt_zero _)]
      · by_cases h6 : n / 18 = 6
        · rw [h6, if_neg (show ¬ n % 18 < cnt 6 from Nat.not_lt_zero _), if_neg (show ¬ n % 18 < cnt 6 from Nat.not_lt_zero _)]
        · rw [h _ h5 h6]
    rw [ndE_cong h n, e]
theorem nd_to {J : mw_I} {S : Nat} {F G : Nat → Int32} (hP : ndP J) (h5 : J 5 = F) (h6 : J 6 = G) (he : encS J = S) : J = mkS S F G := by
  rw [← h5, ← h6, ← he]
  exact nd_self hP
theorem nd_up {I : mw_I} {k j : Nat} {x : Int32} (hP : ndP I) (h : j < cnt k) : ndP (mw_up I k j x) := by
  intro a i h5 h6 hc
  rw [mw_up_ap]
  split
  · rename_i e
    obtain ⟨rfl, rfl⟩ := e
    omega
  · exact hP a i h5 h6 hc
theorem nd_lpN {f : Nat → mw_I → mw_I} {I : mw_I} (n : Nat) (hf : ∀ k, k < n → ∀ J, ndP J → ndP (f k J)) (hI : ndP I) : ndP (lpN f n I) := lpN_inv (P := ndP) n hf hI
section
variable {i : Nat}
theorem cn_0 (hi : i < 3) : cnt (7 + 11 * i) = 16 := by
  have h : ∀ i, i < 3 → cnt (7 + 11 * i) = 16 := by decide
  exact h i hi
theorem cn_1 (hi : i < 3) : cnt (7 + 11 * i + 1) = 2 := by
  have h : ∀ i, i < 3 → cnt (7 + 11 * i + 1) = 2 := by decide
  exact h i hi
theorem cn_2 (hi : i < 3) : cnt (7 + 11 * i + 2) = 2 := by
  have h : ∀ i, i < 3 → cnt (7 + 11 * i + 2) = 2 := by decide
  exact h i hi
theorem cn_3 (hi : i < 3) : cnt (7 + 11 * i + 3) = 2 := by
  have h : ∀ i, i < 3 → cnt (7 + 11 * i + 3) = 2 := by decide
  exact h i hi
theorem cn_5 (hi : i < 3) {o : Nat} (ho : o < 2) : cnt (7 + 11 * i + 5 + o) = 6 := by
  have h : ∀ i, i < 3 → ∀ o, o < 2 → cnt (7 + 11 * i + 5 + o) = 6 := by decide
  exact h i hi o ho
theorem cn_8 (hi : i < 3) {o : Nat} (ho : o < 2) : cnt (7 + 11 * i + 8 + o) = 9 := by
  have h : ∀ i, i < 3 → ∀ o, o < 2 → cnt (7 + 11 * i + 8 + o) = 9 := by decide
  exact h i hi o ho
theorem cn_10 (hi : i < 3) : cnt (7 + 11 * i + 10) = 17 := by
  have h : ∀ i, i < 3 → cnt (7 + 11 * i + 10) = 17 := by decide
  exact h i hi
variable {I : mw_I}
theorem nd_cut (hi : i < 3) (t : Int32) (hP : ndP I) : ndP (cutI I (7 + 11 * i) t) := by
  have h0 : 0 < cnt (7 + 11 * i + 3) := by rw [cn_3 hi]; decide
  have h1 : 1 < cnt (7 + 11 * i + 3) := by rw [cn_3 hi]; decide
  unfold cutI
  split
  · exact nd_up (nd_up hP h1) h0
  · exact nd_up (nd_up hP h0) h1
theorem nd_parts (hi : i < 3) (v : Int32) (hP : ndP I) : ndP (partsI I (7 + 11 * i) v) := by
  have h0 : 0 < cnt (7 + 11 * i + 3) := by rw [cn_3 hi]; decide
  have h1 : 1 < cnt (7 + 11 * i + 3) := by rw [cn_3 hi]; decide
  have hm : ∀ K : mw_I, moreV K (7 + 11 * i) < cnt (7 + 11 * i + 3) := fun K => by rw [cn_3 hi]; exact moreV_lt K _
  have hA : ndP (partA I (7 + 11 * i)) := nd_up (nd_up hP h0) h1
  have hB : ndP (partB (partA I (7 + 11 * i)) (7 + 11 * i)) := by
    unfold partB
    split
    · exact hA
    · exact nd_up hA (hm _)
  unfold partsI partC
  split
  · exact hB
  · exact nd_cut hi _ hB
theorem nd_go (hi : i < 3) (hP : ndP I) : ndP (letGoI I (7 + 11 * i)) := by
  have hc : ∀ j, j < 16 → j < cnt (7 + 11 * i) := fun j hj => by rw [cn_0 hi]; exact hj
  have h0 : 0 < cnt (7 + 11 * i + 2) := by rw [cn_2 hi]; decide
  have h1 : 1 < cnt (7 + 11 * i + 2) := by rw [cn_2 hi]; decide
  have hp := nd_parts hi (waterV I (7 + 11 * i)) hP
  have hA : ∀ J, ndP J → ndP (goA J (7 + 11 * i)) := fun J hJ => by
    unfold goA
    split
    · exact hJ
    · exact nd_up hJ (hc _ (by decide))
  exact nd_up (nd_up (nd_up (nd_up (hA _ hp) (hc _ (by decide))) (hc _ (by decide))) h0) h1
theorem nd_spill (hi : i < 3) (hP : ndP I) : ndP (spillI I (7 + 11 * i)) := by
  have h2 : moreV I (7 + 11 * i) < cnt (7 + 11 * i + 2) := by rw [cn_2 hi]; exact moreV_lt I _
  have h3 : moreV I (7 + 11 * i) < cnt (7 + 11 * i + 3) := by rw [cn_3 hi]; exact moreV_lt I _
  have hc : 12 < cnt (7 + 11 * i) := by rw [cn_0 hi]; decide
  unfold spillI
  dsimp only
  split
  · exact hP
  · exact nd_up (nd_up (nd_up hP h2) h3) hc
theorem nd_recv (hi : i < 3) {h o : Nat} (ho : o < 2) (hP : ndP I) : ndP (recvI I (7 + 11 * i) h o) := by
  have h5 : h % 6 < cnt (7 + 11 * i + 5 + o) := by rw [cn_5 hi ho]; omega
  have h2 : o < cnt (7 + 11 * i + 2) := by rw [cn_2 hi]; exact ho
  have h9 : o < cnt 2 := ho
  exact nd_up (nd_up (nd_up hP h5) h2) h9
theorem nd_send (hi : i < 3) {h t o : Nat} (ho : o < 2) (hP : ndP I) : ndP (sendI I i h t o) := by
  unfold sendI
  split
  · rename_i g
    exact nd_up hP (by rw [cn_5 g ho]; omega)
  · exact nd_up hP (show o < cnt 3 from ho)
theorem nd_plant (hi : i < 3) {h t : Nat} (hP : ndP I) : ndP (runPlantI I i h t) := nd_lpN 2 (fun o ho J hJ => nd_send hi ho hJ) (nd_spill hi (nd_go hi (nd_lpN 2 (fun o ho J hJ => nd_recv hi ho hJ) hP)))
theorem nd_hour {tt : Nat → Nat} {h : Nat} (hP : ndP I) : ndP (hourI tt h I) := nd_up (nd_lpN 3 (fun _ hi _ hJ => nd_plant hi hJ) hP) (show 6 < cnt 0 by decide)
theorem nd_run {tt : Nat → Nat} {h q : Nat} (hP : ndP I) : ndP (runI tt h q I) := nd_lpN q (fun _ _ _ hJ => nd_hour hJ) hP
theorem nd_mix (hi : i < 3) (hP : ndP I) : ndP (mixI I (7 + 11 * i)) := by
  have hc : ∀ j, j < 17 → j < cnt (7 + 11 * i + 10) := fun j hj => by rw [cn_10 hi]; exact hj
  exact nd_lpN 16 (fun k hk J hJ => nd_up hJ (hc _ (by omega))) (nd_lpN 9 (fun a ha J hJ => nd_lpN 9 (fun c hc9 J hJ => nd_up hJ (hc _ (by omega))) hJ) (nd_lpN 17 (fun k hk J hJ => nd_up hJ (hc _ hk)) hP))
theorem nd_lend (hi : i < 3) {o q : Nat} (ho : o < 2) (hq : q < 2) (a : Int32) (hP : ndP I) : ndP (lendI I (7 + 11 * i) o q a) := by
  have h2 : ∀ o, o < 2 → o < cnt (7 + 11 * i + 2) := fun o ho => by rw [cn_2 hi]; exact ho
  exact nd_up (nd_up (nd_up (nd_up hP (h2 _ ho)) (h2 _ hq)) (show o < cnt 4 from ho)) (show q < cnt 4 from hq)
theorem nd_plI (hi : i < 3) (hP : ndP I) : ndP (plI I (7 + 11 * i)) := by
  have hc : ∀ j, j < 16 → j < cnt (7 + 11 * i) := fun j hj => by rw [cn_0 hi]; exact hj
  have h8 : ∀ j, j < 9 → ∀ o, o < 2 → j < cnt (7 + 11 * i + 8 + o) := fun j hj o ho => by rw [cn_8 hi ho]; exact hj
  exact nd_mix hi (nd_lpN 9 (fun k hk J hJ => nd_up (nd_up hJ (h8 _ hk 0 (by decide))) (h8 _ hk 1 (by decide))) (nd_up (nd_up (nd_up (nd_up hP (hc _ (by decide))) (hc _ (by decide))) (hc _ (by decide))) (hc _ (by decide))))
end
theorem nd_wb {I : mw_I} (m : Nat) (hP : ndP I) : ndP (wbI m I) := fun k j h5 h6 hc => by
  rw [fr_wb h5 h6]
  exact hP k j h5 h6 hc
theorem enc_wb {I : mw_I} (m : Nat) : encS (wbI m I) = encS I := ndE_cong (fun _ h5 h6 => fr_wb h5 h6) 720
/-- the names 5 and 6 through an hour -/
theorem hour_n {I : mw_I} {tt : Nat → Nat} {h a : Nat} (ha : a = 5 ∨ a = 6) : hourI tt h I a = I a := by
  unfold hourI
  rw [mw_up_ne (by omega)]
  exact lpN_inv (P := fun (J : mw_I) => J a = I a) 3 (fun i hi y hy => (show runPlantI y i h (tt i) a = y a from fr_mid (Nat.le_refl 2) (by omega) (by omega) (by omega) (by omega)).trans hy) rfl
theorem run_n {I : mw_I} {tt : Nat → Nat} {h q a : Nat} (ha : a = 5 ∨ a = 6) : runI tt h q I a = I a := lpN_inv (P := fun (J : mw_I) => J a = I a) q (fun _ _ _ hy => (hour_n ha).trans hy) rfl
/-- hours on numbers -/
def fcN (f : Nat → Nat) : Nat → Nat
  | 0 => f 0
  | p + 1 => f (p + 1)
theorem fcN_eq (f : Nat → Nat) (x : Nat) : fcN f x = f x := by cases x <;> rfl
def hrsN (F G : Nat → Int32) (tt : Nat → Nat) : Nat → Nat → Nat → Nat
  | 0, _, S => S
  | n + 1, h, S => fcN (hrsN F G tt n (h + 1)) (encS (hourI tt h (mkS S F G)))
theorem hrsN_s {F G : Nat → Int32} {tt : Nat → Nat} (n h S : Nat) : hrsN F G tt (n + 1) h S = hrsN F G tt n (h + 1) (encS (hourI tt h (mkS S F G))) := fcN_eq _ _
theorem lpN_front {α : Type} (g : Nat → α → α) (h : Nat) : ∀ (n : Nat) (x : α), lpN (fun k J => g (h + k) J) (n + 1) x = lpN (fun k J => g (h + 1 + k) J) n (g h x)
  | 0, _ => rfl
  | n + 1, x => by
    rw [lpN_succ, lpN_front g h n x, lpN_succ, show h + (n + 1) = h + 1 + n by omega]
theorem hrs_eq {F G : Nat → Int32} {tt : Nat → Nat} : ∀ (n h S : Nat), ndP (mkS S F G) → runI tt h n (mkS S F G) = mkS (hrsN F G tt n h S) F G
  | 0, _, _, _ => rfl
  | n + 1, h, S, hP => by
    have e := nd_to (S := encS (hourI tt h (mkS S F G))) (F := F) (G := G) (nd_hour (tt := tt) (h := h) hP) (hour_n (Or.inl rfl)) (hour_n (Or.inr rfl)) rfl
    have hP2 := nd_hour (tt := tt) (h := h) hP
    have h1 : runI tt h (n + 1) (mkS S F G) = runI tt (h + 1) n (hourI tt h (mkS S F G)) := lpN_front (hourI tt) h n _
    rw [h1, hrsN_s]
    rw [e] at hP2 ⊢
    rw [hrs_eq n (h + 1) _ hP2, ← e]
theorem wc_P : ndP wcI := nd_plI (i := 2) (by decide) (nd_plI (i := 1) (by decide) (nd_plI (i := 0) (by decide) (fun _ _ _ _ _ => rfl)))
