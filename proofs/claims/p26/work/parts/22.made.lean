/-! layouts that grow: lists of shapes and references -/
abbrev mw_B : Type := (Nat × Nat) × List (Option Nat)
def mw_d : mw_B := ((0, 0), [])
def mw_yl (l : List mw_B) : mw_Y := (l.length, fun k => (l.getD k mw_d).1, fun k j => (l.getD k mw_d).2.getD j none)
def mw_L0 : mw_L := fun _ _ => 0
def mw_I0 : mw_I := fun _ _ => 0
theorem mw_relay {X : mw_X} {pc : Nat} {ls : List (Option Value)} {st : List Value} {y y' : mw_Y} {I : mw_I} {L : mw_L} {n k : Nat} (h0 : y.1 = y'.1) (h1 : ∀ k, k < y.1 → y.2.1 k = y'.2.1 k ∧ y.2.2 k = y'.2.2 k) (kk : mw_G X pc ls st y' I L n k) : mw_G X pc ls st y I L n k := by
  obtain ⟨p, l, e, R, s, m, args, below, meth, c, Q, D, cA, ad0, N0⟩ := X
  intro ad H locs lsC hR hL
  have hw : mw_ws cA ad y I L = mw_ws cA ad y' I L := by
    unfold mw_ws
    rw [← h0]
    apply List.map_congr_left
    intro q hq
    have hq' := List.mem_range.mp hq
    rw [mw_en_R (h1 q hq').1 (h1 q hq').2]
  obtain ⟨a1, a2, a3, a4, a5, a6⟩ := hR
  refine kk ad H locs lsC ⟨by rw [← h0]; exact a1, fun q hq => a2 q (by rw [h0]; exact hq), fun q j r hq hr => ?_, by rw [← hw]; exact a4, by rw [← hw]; exact a5, a6⟩ hL
  rw [← h0] at hq ⊢
  exact a3 q j r hq (by rw [(h1 q hq).2]; exact hr)
theorem gy_len {A t : List mw_B} {b : Nat} (hA : A.length = b) : (mw_yl (A ++ t)).1 = b + t.length := by
  show (A ++ t).length = _
  rw [List.length_append, hA]
theorem gy_at {A t : List mw_B} {b i : Nat} (hA : A.length = b) : (A ++ t).getD (b + i) mw_d = t.getD i mw_d := by
  subst hA
  rw [List.getD_eq_getElem?_getD, List.getD_eq_getElem?_getD, List.getElem?_append_right (by omega), Nat.add_sub_cancel_left]
theorem gy_lt {A t : List mw_B} {b i : Nat} (hA : A.length = b) (hi : i < t.length) : b + i < (mw_yl (A ++ t)).1 := by rw [gy_len hA]; omega
theorem gy_sh {A t : List mw_B} {b : Nat} (hA : A.length = b) (i : Nat) {q : Nat × Nat} (hq : (t.getD i mw_d).1 = q) : (mw_yl (A ++ t)).2.1 (b + i) = q := by
  show ((A ++ t).getD (b + i) mw_d).1 = q
  rw [gy_at hA, hq]
theorem gy_rf {A t : List mw_B} {b : Nat} (hA : A.length = b) (i j : Nat) {q : Option Nat} (hq : (t.getD i mw_d).2.getD j none = q) : (mw_yl (A ++ t)).2.2 (b + i) j = q := by
  show ((A ++ t).getD (b + i) mw_d).2.getD j none = q
  rw [gy_at hA, hq]
theorem gy_none (n : Nat) : ∀ j, (List.replicate n (none : Option Nat)).getD j none = none := fun j => by
  rw [List.getD_eq_getElem?_getD, List.getElem?_replicate]
  split <;> rfl
theorem gy_ny {A : List mw_B} {kd : Nat × Nat} {n : Nat} : ∀ k, k < (mw_ny (mw_yl A) kd).1 → (mw_ny (mw_yl A) kd).2.1 k = (mw_yl (A ++ [(kd, List.replicate n none)])).2.1 k ∧ (mw_ny (mw_yl A) kd).2.2 k = (mw_yl (A ++ [(kd, List.replicate n none)])).2.2 k := by
  intro k hk
  have hk2 : k < A.length + 1 := hk
  by_cases e : k = A.length
  · subst e
    have h9 : (A ++ [(kd, List.replicate n none)]).getD A.length mw_d = (kd, List.replicate n none) := by
      have := gy_at (A := A) (t := [(kd, List.replicate n none)]) (i := 0) rfl
      exact this
    refine ⟨?_, ?_⟩
    · show (if A.length = A.length then kd else _) = ((A ++ [(kd, List.replicate n none)]).getD A.length mw_d).1
      rw [if_pos rfl, h9]
    · funext j
      show (if A.length = A.length then (fun _ => none) else _ : Nat → Option Nat) j = ((A ++ [(kd, List.replicate n none)]).getD A.length mw_d).2.getD j none
      rw [if_pos rfl, h9]
      exact (gy_none n j).symm
  · have h9 : (A ++ [(kd, List.replicate n none)]).getD k mw_d = A.getD k mw_d := by
      rw [List.getD_eq_getElem?_getD, List.getD_eq_getElem?_getD, List.getElem?_append_left (by omega)]
    refine ⟨?_, ?_⟩
    · show (if k = A.length then kd else (A.getD k mw_d).1) = ((A ++ [(kd, List.replicate n none)]).getD k mw_d).1
      rw [if_neg e, h9]
    · funext j
      show (if k = A.length then (fun _ => none) else fun j => (A.getD k mw_d).2.getD j none : Nat → Option Nat) j = ((A ++ [(kd, List.replicate n none)]).getD k mw_d).2.getD j none
      rw [if_neg e, h9]
theorem gy_gs {α : Type} {l : List α} {j : Nat} {x d : α} (h : j < l.length) : (l.set j x).getD j d = x := by
  rw [List.getD_eq_getElem?_getD, List.getElem?_set_self h]
  rfl
theorem gy_gn {α : Type} {l : List α} {j i : Nat} {x d : α} (h : i ≠ j) : (l.set j x).getD i d = l.getD i d := by
  rw [List.getD_eq_getElem?_getD, List.getElem?_set_ne (Ne.symm h), List.getD_eq_getElem?_getD]
theorem gy_pr {A : List mw_B} {a j r : Nat} (ha : a < A.length) (hj : j < (A.getD a mw_d).2.length) : ∀ k, k < (mw_pr (mw_yl A) a j r).1 → (mw_pr (mw_yl A) a j r).2.1 k = (mw_yl (A.set a ((A.getD a mw_d).1, (A.getD a mw_d).2.set j (some r)))).2.1 k ∧ (mw_pr (mw_yl A) a j r).2.2 k = (mw_yl (A.set a ((A.getD a mw_d).1, (A.getD a mw_d).2.set j (some r)))).2.2 k := by
  intro k hk
  by_cases e : k = a
  · subst e
    have h9 : (A.set k ((A.getD k mw_d).1, (A.getD k mw_d).2.set j (some r))).getD k mw_d = ((A.getD k mw_d).1, (A.getD k mw_d).2.set j (some r)) := by
      rw [List.getD_eq_getElem?_getD, List.getElem?_set_self ha]
      rfl
    refine ⟨?_, ?_⟩
    · show (A.getD k mw_d).1 = ((A.set k _).getD k mw_d).1
      rw [h9]
    · funext i
      show (if k = k then va_up (fun j => (A.getD k mw_d).2.getD j none) j (some r) else _ : Nat → Option Nat) i = ((A.set k _).getD k mw_d).2.getD i none
      rw [if_pos rfl, h9]
      show va_up _ j (some r) i = ((A.getD k mw_d).2.set j (some r)).getD i none
      by_cases ei : i = j
      · subst ei
        rw [gy_gs hj]
        simp [va_up]
      · rw [gy_gn ei]
        exact if_neg ei
  · have h9 : ∀ w, (A.set a w).getD k mw_d = A.getD k mw_d := fun w => by
      rw [List.getD_eq_getElem?_getD, List.getElem?_set_ne (Ne.symm e), List.getD_eq_getElem?_getD]
    refine ⟨?_, ?_⟩
    · show (A.getD k mw_d).1 = ((A.set a _).getD k mw_d).1
      rw [h9]
    · funext i
      show (if k = a then _ else fun j => (A.getD k mw_d).2.getD j none : Nat → Option Nat) i = ((A.set a _).getD k mw_d).2.getD i none
      rw [if_neg e, h9]
theorem gy_set {A t : List mw_B} {b i : Nat} (hA : A.length = b) {w : mw_B} : (A ++ t).set (b + i) w = A ++ t.set i w := by
  subst hA
  induction A with
  | nil => rw [List.nil_append, List.nil_append, List.length_nil, Nat.zero_add]
  | cons x A ih => rw [List.cons_append, List.length_cons, Nat.add_right_comm, List.set_cons_succ, ih, List.cons_append]
theorem gy_zI {I : mw_I} {a : Nat} (h : I a = fun _ => 0) : mw_zI I a = I := by
  funext q
  unfold mw_zI
  split
  · rename_i e
    rw [e, h]
  · rfl
theorem gy_zL (a : Nat) : mw_zL mw_L0 a = mw_L0 := by
  funext q
  unfold mw_zL mw_L0
  split <;> rfl
theorem gy_z3 {I : mw_I} {a : Nat} (h : I (a + 1) = fun _ => 0) (h2 : I (a + 2) = fun _ => 0) : mw_z3 I a = I := by
  funext q
  unfold mw_z3
  split
  · rename_i e
    rw [e, h]
  · split
    · rename_i e
      rw [e, h2]
    · rfl
theorem oS_nil {a b : Nat} : ∀ v, v ∈ ([] : List Value) → mw_ok a b v := fun v h => absurd h List.not_mem_nil
theorem oS_cons {a b : Nat} {v : Value} {st : List Value} (h : mw_ok a b v) (t : ∀ v, v ∈ st → mw_ok a b v) : ∀ w, w ∈ v :: st → mw_ok a b w := fun w hw => by
  rcases List.mem_cons.mp hw with rfl | hw
  · exact h
  · exact t w hw
theorem oL_nil {a b : Nat} : ∀ v, some v ∈ ([] : List (Option Value)) → mw_ok a b v := fun v h => absurd h List.not_mem_nil
theorem oL_none {a b : Nat} {ls : List (Option Value)} (t : ∀ v, some v ∈ ls → mw_ok a b v) : ∀ w, some w ∈ none :: ls → mw_ok a b w := fun w hw => by
  rcases List.mem_cons.mp hw with h | hw
  · cases h
  · exact t w hw
theorem oL_some {a b : Nat} {v : Value} {ls : List (Option Value)} (h : mw_ok a b v) (t : ∀ v, some v ∈ ls → mw_ok a b v) : ∀ w, some w ∈ some v :: ls → mw_ok a b w := fun w hw => by
  rcases List.mem_cons.mp hw with h2 | hw
  · cases h2; exact h
  · exact t w hw
section
variable {own : String} {cc : ByteArray} {D0 CM SM : Nat} {X : mw_X} {pc : Nat} {ls : List (Option Value)} {st : List Value} {I : mw_I} {n k : Nat} {A t t' : List mw_B} {b : Nat}
theorem gy_app {kd : Nat × Nat} {z : Nat} {L : mw_L} (ht : t' = t ++ [(kd, List.replicate z none)]) (kk : mw_G X pc ls st (mw_yl (A ++ t')) I L n k) : mw_G X pc ls st (mw_ny (mw_yl (A ++ t)) kd) I L n k := by
  subst ht
  rw [← List.append_assoc] at kk
  exact mw_relay (by show (A ++ t).length + 1 = (A ++ t ++ [_]).length; rw [List.length_append (as := A ++ t)]; rfl) gy_ny kk
theorem gy_newI (hX : mw_Ok own cc D0 CM SM X) (hA : A.length = b) {i : Int32} {N a : Nat} (d : decode cc pc = .ok (.newarray .int, 2)) (hi : i = nI N) (hN : N < 10000) (hn : n + 1 ≤ CM) (hk : k + N ≤ SM) (ha : b + t.length = a) (hls : ∀ v, some v ∈ ls → mw_ok a (a + 1) v) (hst : ∀ v, v ∈ st → mw_ok a (a + 1) v) (hz : I a = fun _ => 0) (ht : t' = t ++ [((0, N), [])])
    (kk : mw_G X (pc + 2) ls (.ref a :: st) (mw_yl (A ++ t')) I mw_L0 (n + 1) (k + N)) : mw_G X pc ls (.int i :: st) (mw_yl (A ++ t)) I mw_L0 n k := by
  have e : (mw_yl (A ++ t)).1 = a := (gy_len hA).trans ha
  refine mw_newI hX d wq_int hi hN hn hk (by rw [e]; exact hls) (by rw [e]; exact hst) ?_
  rw [e, gy_zL, gy_zI hz]
  exact gy_app (z := 0) ht kk
theorem gy_newP (hX : mw_Ok own cc D0 CM SM X) (hA : A.length = b) {i : Int32} {N a idx : Nat} (d : decode cc pc = .ok (.anewarray idx, 3)) (hw : Cond.classLink own idx RX0 ∈ mw_bg) (hi : i = nI N) (hN : N < 10000) (hn : n + 1 ≤ CM) (hk : k + N ≤ SM) (ha : b + t.length = a) (hls : ∀ v, some v ∈ ls → mw_ok a (a + 1) v) (hst : ∀ v, v ∈ st → mw_ok a (a + 1) v) (hz : I a = fun _ => 0) (ht : t' = t ++ [((2, N), List.replicate N none)])
    (kk : mw_G X (pc + 3) ls (.ref a :: st) (mw_yl (A ++ t')) I mw_L0 (n + 1) (k + N)) : mw_G X pc ls (.int i :: st) (mw_yl (A ++ t)) I mw_L0 n k := by
  have e : (mw_yl (A ++ t)).1 = a := (gy_len hA).trans ha
  refine mw_newP hX d hw hi hN hn hk (by rw [e]; exact hls) (by rw [e]; exact hst) ?_
  rw [e, gy_zL, gy_zI hz]
  exact gy_app (z := N) ht kk
theorem gy_new (hX : mw_Ok own cc D0 CM SM X) (hA : A.length = b) {q idx a : Nat} (hq : q < 2) (d : decode cc pc = .ok (.new idx, 3)) (hw : Cond.classLink own idx (mw_Cn q) ∈ mw_bg ∧ Cond.instantiable (mw_Cn q) (mw_nf q) ∈ mw_bg ∧ Cond.initialized (mw_Cn q) ∈ mw_bg) (hn : n + 1 ≤ CM) (hk : k + mw_nf q ≤ SM) (ha : b + t.length = a) (hls : ∀ v, some v ∈ ls → mw_ok a (a + 1) v) (hst : ∀ v, v ∈ st → mw_ok a (a + 1) v) (hz : I a = fun _ => 0) (ht : t' = t ++ [((q + 4, 0), List.replicate (mw_nf q) none)])
    (kk : mw_G X (pc + 3) ls (.ref a :: st) (mw_yl (A ++ t')) I mw_L0 (n + 1) (k + mw_nf q)) : mw_G X pc ls st (mw_yl (A ++ t)) I mw_L0 n k := by
  have e : (mw_yl (A ++ t)).1 = a := (gy_len hA).trans ha
  refine mw_new hX hq d hw hn hk (by rw [e]; exact hls) (by rw [e]; exact hst) ?_
  rw [e, gy_zL, gy_zI hz]
  exact gy_app (z := mw_nf q) ht kk
theorem gy_prS {i j r a : Nat} {L : mw_L} (hA : A.length = b) (ha : b + i = a) (hi : i < t.length) (hj : j < (t.getD i mw_d).2.length) (ht : t' = t.set i ((t.getD i mw_d).1, (t.getD i mw_d).2.set j (some r))) (kk : mw_G X pc ls st (mw_yl (A ++ t')) I L n k) : mw_G X pc ls st (mw_pr (mw_yl (A ++ t)) a j r) I L n k := by
  subst ha
  refine mw_relay (y' := mw_yl ((A ++ t).set (b + i) (((A ++ t).getD (b + i) mw_d).1, ((A ++ t).getD (b + i) mw_d).2.set j (some r)))) ?_ (gy_pr (by rw [List.length_append, hA]; omega) (by rw [gy_at hA]; exact hj)) ?_
  · show (A ++ t).length = ((A ++ t).set _ _).length
    rw [List.length_set]
  · rw [gy_set hA, gy_at hA, ← ht]
    exact kk
theorem gy_putR (hX : mw_Ok own cc D0 CM SM X) (hA : A.length = b) (hnm : mw_nm "<init>" X) {a i q j idx r : Nat} {u : FieldType} (d : decode cc pc = .ok (.putfield idx, 3)) (ha : b + i = a) (hi : i < t.length) (hsh : (t.getD i mw_d).1 = (q + 4, 0)) (hl : mw_fl own idx q j) (ho : own = mw_Cn q) (hu : mw_tyn q j = .array u) (hq : q < 2) (hjn : j < mw_nf q) (hI : mw_isI q j = false) (hr : r < b + t.length) (hj : j < (t.getD i mw_d).2.length) (ht : t' = t.set i ((t.getD i mw_d).1, (t.getD i mw_d).2.set j (some r))) (kk : mw_G X (pc + 3) ls st (mw_yl (A ++ t')) I mw_L0 n k) : mw_G X pc ls (.ref r :: .ref a :: st) (mw_yl (A ++ t)) I mw_L0 n k := by
  refine mw_putR hX hnm (n0 := 0) (t := q) (j := j) d (by subst ha; exact gy_lt hA hi) (by subst ha; exact gy_sh hA i hsh) hl ho hu hq hjn hI (by rw [gy_len hA]; exact hr) ?_
  exact gy_prS hA ha hi hj ht kk
theorem gy_newM (hX : mw_Ok own cc D0 CM SM X) (hA : A.length = b) {i z : Int32} {K a idx : Nat} (d : decode cc pc = .ok (.multianewarray idx 2, 4)) (hw : Cond.classLink own idx ("[" ++ (FieldType.array .int).toString) ∈ mw_bg) (hi : i = nI 2) (hz : z = nI K) (hK : K < 10000) (hn : n + 3 ≤ CM) (hk : k + (2 + 2 * K) ≤ SM) (ha : b + t.length = a) (hls : ∀ v, some v ∈ ls → mw_ok a (a + 3) v) (hst : ∀ v, v ∈ st → mw_ok a (a + 3) v) (h1 : I (a + 1) = fun _ => 0) (h2 : I (a + 2) = fun _ => 0) (ht : t' = t ++ [((3, 2), [some (a + 1), some (a + 2)]), ((0, K), []), ((0, K), [])])
    (kk : mw_G X (pc + 4) ls (.ref a :: st) (mw_yl (A ++ t')) I mw_L0 (n + 3) (k + (2 + 2 * K))) : mw_G X pc ls (.int z :: .int i :: st) (mw_yl (A ++ t)) I mw_L0 n k := by
  have e : (mw_yl (A ++ t)).1 = a := (gy_len hA).trans ha
  have e2 : (A ++ t).length = a := e
  refine mw_newM hX d ⟨hw, wq_int⟩ hi hz hK hn hk (by rw [e]; exact hls) (by rw [e]; exact hst) ?_
  rw [e, gy_z3 h1 h2]
  subst ht
  rw [← List.append_assoc] at kk
  refine mw_relay (y' := mw_yl (A ++ t ++ [((3, 2), [some (a + 1), some (a + 2)]), ((0, K), []), ((0, K), [])])) ?_ ?_ kk
  · show (mw_yl (A ++ t)).1 + 3 = (A ++ t ++ [_, _, _]).length
    rw [List.length_append (as := A ++ t)]
    rfl
  · intro q hq
    have hq2 : q < a + 3 := by
      have : q < (mw_yl (A ++ t)).1 + 3 := hq
      omega
    have g : ∀ i, (A ++ t ++ [((3, 2), [some (a + 1), some (a + 2)]), ((0, K), []), ((0, K), [])]).getD (a + i) mw_d = [((3, 2), [some (a + 1), some (a + 2)]), ((0, K), []), ((0, K), [])].getD i mw_d := fun i => gy_at e2
    rcases (by omega : q < a ∨ q = a ∨ q = a + 1 ∨ q = a + 2) with hlt | rfl | rfl | rfl
    · have n0 : ¬ q = a := by omega
      have n1 : ¬ q = a + 1 := by omega
      have n2 : ¬ q = a + 2 := by omega
      have h9 : (A ++ t ++ [((3, 2), [some (a + 1), some (a + 2)]), ((0, K), []), ((0, K), [])]).getD q mw_d = (A ++ t).getD q mw_d := by
        rw [List.getD_eq_getElem?_getD, List.getD_eq_getElem?_getD, List.getElem?_append_left (by omega)]
      refine ⟨?_, ?_⟩
      · show (if q = (mw_yl (A ++ t)).1 then _ else if q = (mw_yl (A ++ t)).1 + 1 then _ else if q = (mw_yl (A ++ t)).1 + 2 then _ else ((A ++ t).getD q mw_d).1) = ((A ++ t ++ [((3, 2), [some (a + 1), some (a + 2)]), ((0, K), []), ((0, K), [])]).getD q mw_d).1
        rw [e, if_neg n0, if_neg n1, if_neg n2, h9]
      · show (if q = (mw_yl (A ++ t)).1 then _ else if q = (mw_yl (A ++ t)).1 + 1 then _ else if q = (mw_yl (A ++ t)).1 + 2 then _ else fun j => ((A ++ t).getD q mw_d).2.getD j none) = fun j => ((A ++ t ++ [((3, 2), [some (a + 1), some (a + 2)]), ((0, K), []), ((0, K), [])]).getD q mw_d).2.getD j none
        rw [e, if_neg n0, if_neg n1, if_neg n2, h9]
    · have g0 := g 0
      refine ⟨?_, ?_⟩
      · show (if q = (mw_yl (A ++ t)).1 then (3, 2) else _) = ((A ++ t ++ [((3, 2), [some (q + 1), some (q + 2)]), ((0, K), []), ((0, K), [])]).getD (q + 0) mw_d).1
        rw [e, if_pos rfl, g0]
        rfl
      · show (if q = (mw_yl (A ++ t)).1 then (fun j => if j < 2 then some ((mw_yl (A ++ t)).1 + 1 + j) else none) else _) = fun j => ((A ++ t ++ [((3, 2), [some (q + 1), some (q + 2)]), ((0, K), []), ((0, K), [])]).getD (q + 0) mw_d).2.getD j none
        rw [e, if_pos rfl, g0]
        funext j
        rcases (by omega : j = 0 ∨ j = 1 ∨ 2 ≤ j) with rfl | rfl | hj
        · rfl
        · rfl
        · rw [if_neg (by omega)]
          show none = [some (q + 1), some (q + 2)].getD j none
          rw [List.getD_eq_getElem?_getD, List.getElem?_eq_none (by show 2 ≤ j; omega)]
          rfl
    · have g0 := g 1
      have n0 : ¬ a + 1 = a := by omega
      refine ⟨?_, ?_⟩
      · show (if a + 1 = (mw_yl (A ++ t)).1 then _ else if a + 1 = (mw_yl (A ++ t)).1 + 1 then (0, K) else _) = ((A ++ t ++ [((3, 2), [some (a + 1), some (a + 2)]), ((0, K), []), ((0, K), [])]).getD (a + 1) mw_d).1
        rw [e, if_neg n0, if_pos rfl, g0]
        rfl
      · show (if a + 1 = (mw_yl (A ++ t)).1 then _ else if a + 1 = (mw_yl (A ++ t)).1 + 1 then (fun _ => none) else _) = fun j => ((A ++ t ++ [((3, 2), [some (a + 1), some (a + 2)]), ((0, K), []), ((0, K), [])]).getD (a + 1) mw_d).2.getD j none
        rw [e, if_neg n0, if_pos rfl, g0]
        rfl
    · have g0 := g 2
      have n0 : ¬ a + 2 = a := by omega
      have n1 : ¬ a + 2 = a + 1 := by omega
      refine ⟨?_, ?_⟩
      · show (if a + 2 = (mw_yl (A ++ t)).1 then _ else if a + 2 = (mw_yl (A ++ t)).1 + 1 then _ else if a + 2 = (mw_yl (A ++ t)).1 + 2 then (0, K) else _) = ((A ++ t ++ [((3, 2), [some (a + 1), some (a + 2)]), ((0, K), []), ((0, K), [])]).getD (a + 2) mw_d).1
        rw [e, if_neg n0, if_neg n1, if_pos rfl, g0]
        rfl
      · show (if a + 2 = (mw_yl (A ++ t)).1 then _ else if a + 2 = (mw_yl (A ++ t)).1 + 1 then _ else if a + 2 = (mw_yl (A ++ t)).1 + 2 then (fun _ => none) else _) = fun j => ((A ++ t ++ [((3, 2), [some (a + 1), some (a + 2)]), ((0, K), []), ((0, K), [])]).getD (a + 2) mw_d).2.getD j none
        rw [e, if_neg n0, if_neg n1, if_pos rfl, g0]
        rfl
end
theorem mw_mem {X : mw_X} {pc : Nat} {ls : List (Option Value)} {st : List Value} {y : mw_Y} {I J : mw_I} {L : mw_L} {n k : Nat} (h : I = J) (kk : mw_G X pc ls st y J L n k) : mw_G X pc ls st y I L n k := by subst h; exact kk
