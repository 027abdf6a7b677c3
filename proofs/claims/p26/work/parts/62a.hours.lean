/-! an hour on numbers: each cell that changes, changed in the number -/
def upD (S p v : Nat) : Nat := S + v * 2 ^ (32 * p) - S / 2 ^ (32 * p) % 2 ^ 32 * 2 ^ (32 * p)
theorem dg_lo {M B p q : Nat} (h : q < p) : (M * 2 ^ (32 * p) + B) / 2 ^ (32 * q) % 2 ^ 32 = B / 2 ^ (32 * q) % 2 ^ 32 := by
  have e : M * 2 ^ (32 * p) = (M * 2 ^ (32 * (p - q - 1)) * 2 ^ 32) * 2 ^ (32 * q) := by
    rw [Nat.mul_assoc, Nat.mul_assoc, ← Nat.pow_add, ← Nat.pow_add]
    congr 2
    omega
  rw [e, Nat.add_comm, Nat.add_mul_div_right _ _ (Nat.two_pow_pos _), Nat.add_mul_mod_self_right]
theorem dg_hi {A r p q : Nat} (h : p < q) (hr : r < 2 ^ (32 * (p + 1))) : (A * 2 ^ (32 * (p + 1)) + r) / 2 ^ (32 * q) = A / 2 ^ (32 * (q - p - 1)) := by
  have e : 2 ^ (32 * q) = 2 ^ (32 * (p + 1)) * 2 ^ (32 * (q - p - 1)) := by
    rw [← Nat.pow_add]
    congr 1
    omega
  rw [e, ← Nat.div_div_eq_div_mul, Nat.add_comm, Nat.add_mul_div_right _ _ (Nat.two_pow_pos _), Nat.div_eq_of_lt hr, Nat.zero_add]
theorem dg_parts (S p : Nat) : ∃ A B, B < 2 ^ (32 * p) ∧ S = A * 2 ^ (32 * (p + 1)) + (S / 2 ^ (32 * p) % 2 ^ 32 * 2 ^ (32 * p) + B) := by
  refine ⟨S / 2 ^ (32 * p) / 2 ^ 32, S % 2 ^ (32 * p), Nat.mod_lt _ (Nat.two_pow_pos _), ?_⟩
  have h1 := Nat.div_add_mod S (2 ^ (32 * p))
  have h2 := Nat.div_add_mod (S / 2 ^ (32 * p)) (2 ^ 32)
  rw [nd_pw, ← Nat.mul_assoc, ← Nat.add_assoc, ← Nat.add_mul, Nat.mul_comm (S / 2 ^ (32 * p) / 2 ^ 32) (2 ^ 32), h2, Nat.mul_comm]
  exact h1.symm
theorem dg_r {p v B : Nat} (hv : v < 2 ^ 32) (hB : B < 2 ^ (32 * p)) : v * 2 ^ (32 * p) + B < 2 ^ (32 * (p + 1)) := by
  have h3 : (v + 1) * 2 ^ (32 * p) ≤ 2 ^ 32 * 2 ^ (32 * p) := Nat.mul_le_mul_right _ hv
  rw [nd_pw]
  rw [Nat.add_mul, Nat.one_mul] at h3
  omega
theorem upD_dig {S p v q : Nat} (hv : v < 2 ^ 32) : upD S p v / 2 ^ (32 * q) % 2 ^ 32 = if q = p then v else S / 2 ^ (32 * q) % 2 ^ 32 := by
  obtain ⟨A, B, hB, hS⟩ := dg_parts S p
  have hd : S / 2 ^ (32 * p) % 2 ^ 32 < 2 ^ 32 := Nat.mod_lt _ (by decide)
  have hU : upD S p v = A * 2 ^ (32 * (p + 1)) + (v * 2 ^ (32 * p) + B) := by
    unfold upD
    generalize S / 2 ^ (32 * p) % 2 ^ 32 * 2 ^ (32 * p) = d at *
    generalize A * 2 ^ (32 * (p + 1)) = a at *
    generalize v * 2 ^ (32 * p) = c at *
    omega
  generalize S / 2 ^ (32 * p) % 2 ^ 32 = d at hS hd
  have e1 : ∀ z, A * 2 ^ (32 * (p + 1)) + (z * 2 ^ (32 * p) + B) = (A * 2 ^ 32 + z) * 2 ^ (32 * p) + B := fun z => by
    rw [nd_pw, ← Nat.mul_assoc, ← Nat.add_assoc, ← Nat.add_mul]
  rw [hU]
  by_cases hq : q = p
  · subst hq
    rw [if_pos rfl, e1, Nat.add_comm, Nat.add_mul_div_right _ _ (Nat.two_pow_pos _), Nat.div_eq_of_lt hB, Nat.zero_add, Nat.add_comm, Nat.add_mul_mod_self_right, Nat.mod_eq_of_lt hv]
  · rw [if_neg hq, hS]
    rcases Nat.lt_or_ge q p with g | g
    · rw [e1, e1, dg_lo g, dg_lo g]
    · have g2 : p < q := by omega
      rw [dg_hi g2 (dg_r hv hB), dg_hi g2 (dg_r hd hB)]
def upN (S k j : Nat) (x : Int32) : Nat := upD S (18 * k + j) x.toBitVec.toNat
theorem up_mk {S k j : Nat} {F G : Nat → Int32} {x : Int32} (hk : k < 40) (h5 : k ≠ 5) (h6 : k ≠ 6) (hj : j < 18) : mw_up (mkS S F G) k j x = mkS (upN S k j x) F G := by
  funext a i
  rw [mw_up_ap]
  unfold mkS upN
  by_cases g5 : a = 5
  · rw [if_neg (by omega), if_pos g5, if_pos g5]
  · rw [if_neg g5, if_neg g5]
    by_cases g6 : a = 6
    · rw [if_neg (by omega), if_pos g6, if_pos g6]
    · rw [if_neg g6, if_neg g6]
      by_cases g : a < 40 ∧ i < 18
      · rw [if_pos g, if_pos g, upD_dig x.toBitVec.isLt]
        by_cases e : a = k ∧ i = j
        · rw [if_pos e, if_pos (by omega)]
          apply Int32.toBitVec_inj.mp
          show _ = BitVec.ofNat 32 x.toBitVec.toNat
          rw [BitVec.ofNat_toNat, BitVec.setWidth_eq]
        · rw [if_neg e, if_neg (by omega)]
      · rw [if_neg g, if_neg g, if_neg (by omega)]
section
variable (F G : Nat → Int32)
def n_recv (b h o S : Nat) : Nat := fcN (fun S1 => fcN (fun S2 => upN S2 2 o (mkS S2 F G 2 o + inflowV (mkS S F G) b o)) (upN S1 (b + 2) o (mkS S F G (b + 2) o + (mkS S F G (b + 5 + o) (h % 6) + inflowV (mkS S F G) b o)))) (upN S (b + 5 + o) (h % 6) 0)
def n_partA (b S : Nat) : Nat := fcN (fun S1 => upN S1 (b + 3) 1 (mkS S1 F G (b + 1) 1)) (upN S (b + 3) 0 (mkS S F G (b + 1) 0))
def n_partB (b S : Nat) : Nat := if lackV (mkS S F G) b ≤ 0 then S else upN S (b + 3) (moreV (mkS S F G) b) (mkS S F G (b + 3) (moreV (mkS S F G) b) + lackV (mkS S F G) b)
def n_cutF (b : Nat) (t : Int32) (f g S : Nat) : Nat := fcN (fun S1 => upN S1 (b + 3) g (mkS S1 F G (b + 3) g - (t - (if mkS S F G (b + 3) f < t then mkS S F G (b + 3) f else t)))) (upN S (b + 3) f (mkS S F G (b + 3) f - (if mkS S F G (b + 3) f < t then mkS S F G (b + 3) f else t)))
def n_cut (b : Nat) (t : Int32) (S : Nat) : Nat := if mkS S F G (b + 2) 1 - mkS S F G (b + 3) 1 ≤ mkS S F G (b + 2) 0 - mkS S F G (b + 3) 0 then n_cutF F G b t 1 0 S else n_cutF F G b t 0 1 S
def n_partC (b : Nat) (v : Int32) (S : Nat) : Nat := if mkS S F G (b + 3) 0 + mkS S F G (b + 3) 1 - v ≤ 0 then S else n_cut F G b (mkS S F G (b + 3) 0 + mkS S F G (b + 3) 1 - v) S
def n_parts (b : Nat) (v : Int32) (S : Nat) : Nat := fcN (n_partC F G b v) (fcN (n_partB F G b) (n_partA F G b S))
def n_goA (b S : Nat) : Nat := if mkS S F G b 3 ≤ mkS S F G (b + 3) 0 + mkS S F G (b + 3) 1 then S else upN S b 13 (mkS S F G b 13 + 1)
def n_goB (b : Nat) (v p : Int32) (S : Nat) : Nat := fcN (fun S2 => fcN (fun S3 => fcN (fun S4 => upN S4 (b + 2) 1 (mkS S4 F G (b + 2) 1 - mkS S4 F G (b + 3) 1)) (upN S3 (b + 2) 0 (mkS S3 F G (b + 2) 0 - mkS S3 F G (b + 3) 0))) (upN S2 b 15 (mkS S2 F G b 15 + energyV (mkS S2 F G) b v (mkS S2 F G b 14)))) (upN S b 14 (if 16 < p then 16 else p))
def n_goC (b : Nat) (v : Int32) (S : Nat) : Nat := fcN (n_goB F G b v (mkS S F G (b + 3) 0 + mkS S F G (b + 3) 1)) (n_goA F G b S)
def n_go (b S : Nat) : Nat := fcN (n_goC F G b (waterV (mkS S F G) b)) (n_parts F G b (waterV (mkS S F G) b) S)
def n_spill (b S : Nat) : Nat := if waterV (mkS S F G) b - mkS S F G b 0 ≤ 0 then S else fcN (fun S1 => fcN (fun S2 => upN S2 b 12 (mkS S2 F G b 12 + (waterV (mkS S F G) b - mkS S F G b 0))) (upN S1 (b + 3) (moreV (mkS S F G) b) (mkS S1 F G (b + 3) (moreV (mkS S F G) b) + (waterV (mkS S F G) b - mkS S F G b 0)))) (upN S (b + 2) (moreV (mkS S F G) b) (mkS S F G (b + 2) (moreV (mkS S F G) b) - (waterV (mkS S F G) b - mkS S F G b 0)))
def n_send (i h t o S : Nat) : Nat := if i + 1 < 3 then upN S (7 + 11 * (i + 1) + 5 + o) ((h + t) % 6) (mkS S F G (7 + 11 * (i + 1) + 5 + o) ((h + t) % 6) + mkS S F G (7 + 11 * i + 3) o) else upN S 3 o (mkS S F G 3 o + mkS S F G (7 + 11 * i + 3) o)
def n_plant (i h t S : Nat) : Nat := fcN (n_send F G i h t 1) (fcN (n_send F G i h t 0) (fcN (n_spill F G (7 + 11 * i)) (fcN (n_go F G (7 + 11 * i)) (fcN (n_recv F G (7 + 11 * i) h 1) (n_recv F G (7 + 11 * i) h 0 S)))))
def n_hour (tt : Nat → Nat) (h S : Nat) : Nat := fcN (fun S1 => upN S1 0 6 (mkS S1 F G 0 6 + 1)) (fcN (n_plant F G 2 h (tt 2)) (fcN (n_plant F G 1 h (tt 1)) (n_plant F G 0 h (tt 0) S)))
def n_hrs (tt : Nat → Nat) : Nat → Nat → Nat → Nat
  | 0, _, S => S
  | n + 1, h, S => fcN (n_hrs tt n (h + 1)) (n_hour F G tt h S)
end
section
variable {F G : Nat → Int32} {S i : Nat}
theorem q_recv (hi : i < 3) {h o : Nat} (ho : o < 2) : recvI (mkS S F G) (7 + 11 * i) h o = mkS (n_recv F G (7 + 11 * i) h o S) F G := by
  unfold recvI n_recv
  dsimp only
  rw [fcN_eq, fcN_eq, up_mk, up_mk, up_mk] <;> omega
theorem q_partA (hi : i < 3) : partA (mkS S F G) (7 + 11 * i) = mkS (n_partA F G (7 + 11 * i) S) F G := by
  unfold partA n_partA
  dsimp only
  rw [fcN_eq, up_mk, up_mk] <;> omega
theorem q_partB (hi : i < 3) : partB (mkS S F G) (7 + 11 * i) = mkS (n_partB F G (7 + 11 * i) S) F G := by
  have hm := moreV_lt (mkS S F G) (7 + 11 * i)
  unfold partB n_partB
  split
  · rfl
  · rw [up_mk] <;> omega
theorem q_cutF (hi : i < 3) {t : Int32} {f g : Nat} (hf : f < 2) (hg : g < 2) : cutF (mkS S F G) (7 + 11 * i) t f g = mkS (n_cutF F G (7 + 11 * i) t f g S) F G := by
  unfold cutF n_cutF
  dsimp only
  rw [fcN_eq, up_mk, up_mk] <;> omega
theorem q_cut (hi : i < 3) {t : Int32} : cutI (mkS S F G) (7 + 11 * i) t = mkS (n_cut F G (7 + 11 * i) t S) F G := by
  unfold cutI n_cut
  split
  · exact q_cutF hi (by decide) (by decide)
  · exact q_cutF hi (by decide) (by decide)
theorem q_partC (hi : i < 3) {v : Int32} : partC (mkS S F G) (7 + 11 * i) v = mkS (n_partC F G (7 + 11 * i) v S) F G := by
  unfold partC n_partC
  split
  · rfl
  · exact q_cut hi
theorem q_parts (hi : i < 3) {v : Int32} : partsI (mkS S F G) (7 + 11 * i) v = mkS (n_parts F G (7 + 11 * i) v S) F G := by
  unfold partsI n_parts
  rw [fcN_eq, fcN_eq, q_partA hi, q_partB hi, q_partC hi]
theorem q_goA (hi : i < 3) : goA (mkS S F G) (7 + 11 * i) = mkS (n_goA F G (7 + 11 * i) S) F G := by
  unfold goA n_goA
  split
  · rfl
  · rw [up_mk] <;> omega
theorem q_goB (hi : i < 3) {v p : Int32} : goB (mkS S F G) (7 + 11 * i) v p = mkS (n_goB F G (7 + 11 * i) v p S) F G := by
  unfold goB n_goB
  dsimp only
  rw [fcN_eq, fcN_eq, fcN_eq, up_mk, up_mk, up_mk, up_mk] <;> omega
theorem q_go (hi : i < 3) : letGoI (mkS S F G) (7 + 11 * i) = mkS (n_go F G (7 + 11 * i) S) F G := by
  unfold letGoI goC n_go n_goC
  rw [fcN_eq, fcN_eq, q_parts hi, q_goA hi, q_goB hi]
theorem q_spill (hi : i < 3) : spillI (mkS S F G) (7 + 11 * i) = mkS (n_spill F G (7 + 11 * i) S) F G := by
  have hm := moreV_lt (mkS S F G) (7 + 11 * i)
  unfold spillI n_spill
  dsimp only
  split
  · rfl
  · rw [fcN_eq, fcN_eq, up_mk, up_mk, up_mk] <;> omega
theorem q_send (hi : i < 3) {h t o : Nat} (ho : o < 2) : sendI (mkS S F G) i h t o = mkS (n_send F G i h t o S) F G := by
  unfold sendI n_send
  split
  · rw [up_mk] <;> omega
  · rw [up_mk] <;> omega
theorem lp_2 {α : Type} (f : Nat → α → α) (x : α) : lpN f 2 x = f 1 (f 0 x) := rfl
theorem lp_3 {α : Type} (f : Nat → α → α) (x : α) : lpN f 3 x = f 2 (f 1 (f 0 x)) := rfl
theorem q_plant (hi : i < 3) {h t : Nat} : runPlantI (mkS S F G) i h t = mkS (n_plant F G i h t S) F G := by
  unfold runPlantI n_plant
  rw [lp_2, lp_2]
  rw [fcN_eq, fcN_eq, fcN_eq, fcN_eq, fcN_eq, q_recv hi (by decide), q_recv hi (by decide), q_go hi, q_spill hi, q_send hi (by decide), q_send hi (by decide)]
theorem q_hour {tt : Nat → Nat} {h : Nat} : hourI tt h (mkS S F G) = mkS (n_hour F G tt h S) F G := by
  have e : lpN (fun i J => runPlantI J i h (tt i)) 3 (mkS S F G) = mkS (n_plant F G 2 h (tt 2) (n_plant F G 1 h (tt 1) (n_plant F G 0 h (tt 0) S))) F G := by
    rw [lp_3]
    rw [q_plant (by decide), q_plant (by decide), q_plant (by decide)]
  unfold hourI n_hour
  rw [e, fcN_eq, fcN_eq, fcN_eq, up_mk] <;> omega
end
theorem q_hrs {F G : Nat → Int32} {tt : Nat → Nat} : ∀ (n h S : Nat), runI tt h n (mkS S F G) = mkS (n_hrs F G tt n h S) F G
  | 0, _, _ => rfl
  | n + 1, h, S => by
    have h1 : runI tt h (n + 1) (mkS S F G) = runI tt (h + 1) n (hourI tt h (mkS S F G)) := lpN_front (hourI tt) h n _
    rw [h1, q_hour, q_hrs n (h + 1)]
    exact congrArg (fun z => mkS z F G) (fcN_eq _ _).symm
theorem run_to2 {S S2 : Nat} {F G : Nat → Int32} {tt : Nat → Nat} {h n : Nat} (he : n_hrs F G tt n h S = S2) : runI tt h n (mkS S F G) = mkS S2 F G := by
  rw [q_hrs n h S, he]
