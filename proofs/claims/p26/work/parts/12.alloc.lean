/-! cells that come -/
def mw_ny (y : mw_Y) (kd : Nat × Nat) : mw_Y := (y.1 + 1, fun a => if a = y.1 then kd else y.2.1 a, fun a => if a = y.1 then fun _ => none else y.2.2 a)
def mw_zI (I : mw_I) (a : Nat) : mw_I := fun q => if q = a then fun _ => 0 else I q
def mw_zL (L : mw_L) (a : Nat) : mw_L := fun q => if q = a then fun _ => 0 else L q
def mw_aa (ad : Nat → Nat) (a q : Nat) : Nat → Nat := fun k => if k = a then q else ad k
theorem mw_aa_ne {ad : Nat → Nat} {a q k : Nat} (h : k ≠ a) : mw_aa ad a q k = ad k := if_neg h
theorem mw_aa_eq {ad : Nat → Nat} {a q : Nat} : mw_aa ad a q a = q := if_pos rfl
theorem mw_wf_ny {y : mw_Y} {kd : Nat × Nat} (h : mw_wf y) : mw_wf (mw_ny y kd) := by
  intro k j r hk hr
  show r < y.1 + 1
  by_cases e : k = y.1
  · subst e
    simp [mw_ny] at hr
  · have h1 : y.2.2 k j = some r := by simpa [mw_ny, e] using hr
    have h2 : k < y.1 := by
      have : k < y.1 + 1 := hk
      omega
    exact Nat.lt_succ_of_lt (h k j r h2 h1)
/-- a layout that agrees with y on y's names; contents too -/
def mw_ext (y y' : mw_Y) (I I' : mw_I) (L L' : mw_L) : Prop := ∀ k, k < y.1 → y'.2.1 k = y.2.1 k ∧ y'.2.2 k = y.2.2 k ∧ I' k = I k ∧ L' k = L k
theorem mw_en_ext {cA : Nat → ClassId} {ad ad' : Nat → Nat} {y y' : mw_Y} {I I' : mw_I} {L L' : mw_L} {k : Nat} (hw : mw_wf y) (h : mw_ext y y' I I' L L') (ha : ∀ r, r < y.1 → ad' r = ad r) (hk : k < y.1) : mw_en cA ad' y' I' L' k = mw_en cA ad y I L k := by
  obtain ⟨h1, h2, h3, h4⟩ := h k hk
  rw [mw_en_I (I := I) (L := L) h3 h4, mw_en_R (y := y) h1 h2]
  exact mw_en_ad hw hk ha
theorem mw_ws_push {cA : Nat → ClassId} {ad ad' : Nat → Nat} {y y' : mw_Y} {I I' : mw_I} {L L' : mw_L} (hw : mw_wf y) (hy : y'.1 = y.1 + 1) (h : mw_ext y y' I I' L L') (ha : ∀ r, r < y.1 → ad' r = ad r) : mw_ws cA ad' y' I' L' = mw_ws cA ad y I L ++ [(ad' y.1, mw_en cA ad' y' I' L' y.1)] := by
  unfold mw_ws
  rw [hy, List.range_succ, List.map_append]
  congr 1
  apply List.map_congr_left
  intro k hk
  have hk' : k < y.1 := List.mem_range.mp hk
  rw [ha k hk', mw_en_ext hw h ha hk']
theorem mw_ext_ny {y : mw_Y} {kd : Nat × Nat} {I : mw_I} {L : mw_L} : mw_ext y (mw_ny y kd) I (mw_zI I y.1) L (mw_zL L y.1) := fun k hk => by
  have e : ¬ k = y.1 := by omega
  exact ⟨if_neg e, if_neg e, if_neg e, if_neg e⟩
theorem mw_Rl.push {D : va_G} {cA : Nat → ClassId} {ad0 : Nat → Nat} {N0 : Nat} {s : State} {ad : Nat → Nat} {y : mw_Y} {I : mw_I} {L : mw_L} {H H1 : Heap} {locs locs1 : List Loc} {q : Nat} {kd : Nat × Nat} {e : va_E} (h : mw_Rl D cA ad0 N0 s ad y I L H locs) (he : mw_en cA (mw_aa ad y.1 q) (mw_ny y kd) (mw_zI I y.1) (mw_zL L y.1) y.1 = e) (hP : va_P D mw_cl (mw_ws cA ad y I L ++ [(q, e)]) H1) (hD : va_D (mw_AA ad0 N0 s.heap.size) (mw_ws cA ad y I L ++ [(q, e)])) (hS : va_S (mw_AA ad0 N0 s.heap.size) s.heap H1 locs1) : mw_Rl D cA ad0 N0 s (mw_aa ad y.1 q) (mw_ny y kd) (mw_zI I y.1) (mw_zL L y.1) H1 locs1 := by
  have hw : mw_ws cA (mw_aa ad y.1 q) (mw_ny y kd) (mw_zI I y.1) (mw_zL L y.1) = mw_ws cA ad y I L ++ [(q, e)] := by
    rw [mw_ws_push (ad := ad) (y := y) (I := I) (L := L) h.2.2.1 rfl mw_ext_ny (fun r hr => mw_aa_ne (by omega)), he, mw_aa_eq]
  rw [← hw] at hP hD
  refine ⟨Nat.le_succ_of_le h.1, fun k hk => ?_, mw_wf_ny h.2.2.1, hP, hD, hS⟩
  have h1 := h.1
  have hk2 : k < N0 ∨ y.1 + 1 ≤ k := hk
  rw [mw_aa_ne (by omega)]
  exact h.2.1 k (by omega)
theorem mw_add_aa {ad : Nat → Nat} {y : mw_Y} {q : Nat} : ∀ k, (k < y.1 ∨ y.1 + 1 ≤ k) → mw_aa ad y.1 q k = ad k := fun k hk => mw_aa_ne (by omega)
section MWN
variable {own : String} {cc : ByteArray} {D0 CM SM : Nat} {X : mw_X} {pc : Nat} {ls : List (Option Value)} {st : List Value} {y : mw_Y} {I : mw_I} {L : mw_L} {n k : Nat}
theorem mw_fs0 (ad : Nat → Nat) {t : Nat} (ht : t < 2) {y : mw_Y} {n0 : Nat} {I : mw_I} : ∀ j, j < mw_nf t → defaultValue (mw_tyn t j) = vp_V (mw_fs ad t (mw_ny y (t + 4, n0)) (mw_zI I y.1) y.1) j := by
  intro j hj
  rw [mw_dflt t ht j hj]
  unfold vp_V
  rw [List.getD_eq_getElem?_getD, mw_fs_get hj]
  simp only [Option.getD_some, mw_fv, mw_zI, mw_ny, if_pos]
  rfl
theorem mw_new (hX : mw_Ok own cc D0 CM SM X) {t idx : Nat} (ht : t < 2) (d : decode cc pc = .ok (.new idx, 3)) (hw : Cond.classLink own idx (mw_Cn t) ∈ mw_bg ∧ Cond.instantiable (mw_Cn t) (mw_nf t) ∈ mw_bg ∧ Cond.initialized (mw_Cn t) ∈ mw_bg) (hn : n + 1 ≤ CM) (hk : k + mw_nf t ≤ SM) (hls : ∀ v, some v ∈ ls → mw_ok y.1 (y.1 + 1) v) (hst : ∀ v, v ∈ st → mw_ok y.1 (y.1 + 1) v)
    (kk : mw_G X (pc + 3) ls (.ref y.1 :: st) (mw_ny y (t + 4, 0)) (mw_zI I y.1) (mw_zL L y.1) (n + 1) (k + mw_nf t)) : mw_G X pc ls st y I L n k := by
  obtain ⟨p, l, e, R, s, m, args, below, meth, c, Q, D, cA, ad0, N0⟩ := X
  obtain ⟨hx, hb, hown, hts, hK, hZ, hl, hr1, hr2, hr3, hr4⟩ := hX
  intro ad H locs lsC hR hL
  have hfs : ∀ q, mw_en cA (mw_aa ad y.1 q) (mw_ny y (t + 4, 0)) (mw_zI I y.1) (mw_zL L y.1) y.1 = .inr (t, mw_fs ad t (mw_ny y (t + 4, 0)) (mw_zI I y.1) y.1) := by
    intro q
    rw [mw_eo (t := t) (n0 := 0) (if_pos rfl)]
    refine congrArg (fun z => Sum.inr (t, z)) ?_
    unfold mw_fs
    apply List.map_congr_left
    intro j _
    simp [mw_fv, mw_ny]
  refine va_new (ci := t) (fs := mw_fs ad t (mw_ny y (t + 4, 0)) (mw_zI I y.1) y.1) hx hb hts (mw_uws ht) (mw_tyn t) (mw_tys ht) hown (hts _ hw.1) (hts _ hw.2.1) (hts _ hw.2.2) hK hR.2.2.2.1 hR.2.2.2.2.1 hR.2.2.2.2.2 (fun q h => Or.inr h) (mw_cl_t ht) (mw_fs0 ad ht) (by omega) (by omega) d (fun q H1 hP hD hS => ?_)
  have h9 := kk (mw_aa ad y.1 q) H1 locs lsC (hR.push (hfs q) hP hD hS) (hL.ad mw_add_aa hls)
  rw [List.map_cons, mw_st_ad mw_add_aa st hst] at h9
  have e9 : mw_tr (mw_aa ad y.1 q) (.ref y.1) = .ref q := congrArg Value.ref mw_aa_eq
  rw [e9] at h9
  exact h9
theorem mw_newI (hX : mw_Ok own cc D0 CM SM X) {i : Int32} {N : Nat} (d : decode cc pc = .ok (.newarray .int, 2)) (hw : Cond.arrayClass .int ∈ mw_bg) (hi : i = nI N) (hN : N < 10000) (hn : n + 1 ≤ CM) (hk : k + N ≤ SM) (hls : ∀ v, some v ∈ ls → mw_ok y.1 (y.1 + 1) v) (hst : ∀ v, v ∈ st → mw_ok y.1 (y.1 + 1) v)
    (kk : mw_G X (pc + 2) ls (.ref y.1 :: st) (mw_ny y (0, N)) (mw_zI I y.1) (mw_zL L y.1) (n + 1) (k + N)) : mw_G X pc ls (.int i :: st) y I L n k := by
  obtain ⟨p, l, e, R, s, m, args, below, meth, c, Q, D, cA, ad0, N0⟩ := X
  obtain ⟨hx, hb, hown, hts, hK, hZ, hl, hr1, hr2, hr3, hr4⟩ := hX
  intro ad H locs lsC hR hL
  subst hi
  refine va_newa (atype := .int) (ty := .int) (a0 := (N, .inl (fun _ => 0))) hx hb (hts _ hw) rfl hK hR.2.2.2.1 hR.2.2.2.2.1 hR.2.2.2.2.2 (fun q h => Or.inr h) (fun cA => rfl) (nI_pos (by omega)) (nI_clamp (by omega)) (by show N * 4 ≤ 536870912; omega) (by omega) (by omega) d (fun q cA1 H1 hK1 hP hD hS => ?_)
  have h1 := (hK1.2 4 (cA1, .int) rfl).2
  have h2 := (hK.2 0 (cA 0, .int) rfl).2
  have h3 : cA1 = cA 0 := Option.some.inj (Eq.trans (Eq.symm h1) h2)
  subst h3
  have he : mw_en cA (mw_aa ad y.1 q) (mw_ny y (0, N)) (mw_zI I y.1) (mw_zL L y.1) y.1 = .inl (cA 0, N, .inl (fun _ => 0)) := by
    rw [mw_e0 (n0 := N) (if_pos rfl)]
    simp [mw_zI]
  have h9 := kk (mw_aa ad y.1 q) H1 locs lsC (hR.push he hP hD hS) (hL.ad mw_add_aa hls)
  rw [List.map_cons, mw_st_ad mw_add_aa st hst] at h9
  have e9 : mw_tr (mw_aa ad y.1 q) (.ref y.1) = .ref q := congrArg Value.ref mw_aa_eq
  rw [e9] at h9
  exact h9
theorem mw_newP (hX : mw_Ok own cc D0 CM SM X) {i : Int32} {N idx : Nat} (d : decode cc pc = .ok (.anewarray idx, 3)) (hw : Cond.classLink own idx RX0 ∈ mw_bg) (hi : i = nI N) (hN : N < 10000) (hn : n + 1 ≤ CM) (hk : k + N ≤ SM) (hls : ∀ v, some v ∈ ls → mw_ok y.1 (y.1 + 1) v) (hst : ∀ v, v ∈ st → mw_ok y.1 (y.1 + 1) v)
    (kk : mw_G X (pc + 3) ls (.ref y.1 :: st) (mw_ny y (2, N)) (mw_zI I y.1) (mw_zL L y.1) (n + 1) (k + N)) : mw_G X pc ls (.int i :: st) y I L n k := by
  obtain ⟨p, l, e, R, s, m, args, below, meth, c, Q, D, cA, ad0, N0⟩ := X
  obtain ⟨hx, hb, hown, hts, hK, hZ, hl, hr1, hr2, hr3, hr4⟩ := hX
  intro ad H locs lsC hR hL
  subst hi
  refine va_newq (C := RX0) hx hb hown (hts _ hw) hZ.2.2.2.2.2.2.2.2.2.1 hK hR.2.2.2.1 hR.2.2.2.2.1 hR.2.2.2.2.2 (fun q h => Or.inr h) (nI_pos (by omega)) (nI_clamp (by omega)) (by omega) (by omega) (by omega) d (fun q cA1 H1 hK1 hP hD hS => ?_)
  obtain ⟨-, -, -, -, -, h1⟩ := (hK1.2 4 (cA1, .object RX0) rfl).2
  obtain ⟨-, -, -, -, -, h2⟩ := (hK.2 2 (cA 2, .object RX0) rfl).2
  have h3 : cA1 = cA 2 := Option.some.inj (Eq.trans (Eq.symm h1) h2)
  subst h3
  have he : mw_en cA (mw_aa ad y.1 q) (mw_ny y (2, N)) (mw_zI I y.1) (mw_zL L y.1) y.1 = .inl (cA 2, N, .inr (.inr (.inr (.inr (fun _ => none))))) := by
    rw [mw_e2 (n0 := N) (if_pos rfl)]
    simp [mw_ny]
  have h9 := kk (mw_aa ad y.1 q) H1 locs lsC (hR.push he hP hD hS) (hL.ad mw_add_aa hls)
  rw [List.map_cons, mw_st_ad mw_add_aa st hst] at h9
  have e9 : mw_tr (mw_aa ad y.1 q) (.ref y.1) = .ref q := congrArg Value.ref mw_aa_eq
  rw [e9] at h9
  exact h9
theorem mw_wf_pr {y : mw_Y} {a j r : Nat} (h : mw_wf y) (hr : r < y.1) : mw_wf (mw_pr y a j r) := by
  intro k i q hk hq
  by_cases e : k = a
  · subst e
    have h1 : va_up (y.2.2 k) j (some r) i = some q := by simpa [mw_pr] using hq
    by_cases ei : i = j
    · subst ei
      have : r = q := by simpa [va_up] using h1
      subst this
      exact hr
    · have : y.2.2 k i = some q := by simpa [va_up, ei] using h1
      exact h k i q hk this
  · have h1 : y.2.2 k i = some q := by simpa [mw_pr, e] using hq
    exact h k i q hk h1
theorem mw_putR (hX : mw_Ok own cc D0 CM SM X) (hnm : mw_nm "<init>" X) {a t j idx n0 r : Nat} {u : FieldType} (d : decode cc pc = .ok (.putfield idx, 3)) (ha : a < y.1) (hsh : y.2.1 a = (t + 4, n0)) (hl : mw_fl own idx t j) (ho : own = mw_Cn t) (hu : mw_tyn t j = .array u) (ht : t < 2) (hj : j < mw_nf t) (hi : mw_isI t j = false) (hr : r < y.1) (kk : mw_G X (pc + 3) ls st (mw_pr y a j r) I L n k) : mw_G X pc ls (.ref r :: .ref a :: st) y I L n k := by
  obtain ⟨p, l, e, R, s, m, args, below, meth, c, Q, D, cA, ad0, N0⟩ := X
  obtain ⟨hx, hb, hown, hts, hK, -⟩ := hX
  intro ad H locs lsC hR hL
  have he : (mw_ws cA ad y I L)[a]? = some (ad a, .inr (t, mw_fs ad t y I a)) := by rw [mw_get ha, mw_eo hsh]
  obtain ⟨hf, hdc⟩ := mw_refs t ht j hj hi
  refine va_putF (ci := t) (v := .ref (ad r)) (ty := .array u) hx hb hts (mw_uws ht) (mw_tyn t) (mw_tys ht) (mw_nms ht) hown hK hR.2.2.2.1 hR.2.2.2.2.1 hR.2.2.2.2.2 a he (mw_cl_t ht) j hj (hts _ hl) (fun _ h => h) hf hnm (hdc.trans ho.symm) (by rw [mw_tys ht j hj, hu]) rfl rfl (by rw [mw_fs_len]; exact hj) d (fun H1 locs1 hP hD hS => kk ad H1 locs1 lsC ?_ hL)
  have hset : (mw_ws cA ad y I L).set a (ad a, .inr (t, (mw_fs ad t y I a).set j (.ref (ad r)))) = mw_ws cA ad (mw_pr y a j r) I L := by
    refine mw_set ha rfl ?_ (fun i hi2 => mw_en_R rfl (if_neg hi2))
    rw [mw_eo (y := mw_pr y a j r) hsh, mw_fs_setR hj hi]
  rw [hset] at hP hD
  exact ⟨hR.1, hR.2.1, mw_wf_pr hR.2.2.1 hr, hP, hD, hS⟩
theorem mw_aastore (hX : mw_Ok own cc D0 CM SM X) {a N j r n0 : Nat} {i : Int32} (d : decode cc pc = .ok (.aastore, 1)) (ha : a < y.1) (hsh : y.2.1 a = (2, N)) (hi : i = nI j) (hj : j < N) (hN : N < 2 ^ 31) (hr : r < y.1) (hs2 : y.2.1 r = (0 + 4, n0)) (kk : mw_G X (pc + 1) ls st (mw_pr y a j r) I L n k) : mw_G X pc ls (.ref r :: .int i :: .ref a :: st) y I L n k := by
  obtain ⟨p, l, e, R, s, m, args, below, meth, c, Q, D, cA, ad0, N0⟩ := X
  obtain ⟨hx, hb, hown, hts, hK, -⟩ := hX
  intro ad H locs lsC hR hL
  subst hi
  have he : (mw_ws cA ad y I L)[a]? = some (ad a, .inl (cA 2, N, .inr (.inr (.inr (.inr (fun j => (y.2.2 a j).map ad)))))) := by rw [mw_get ha, mw_e2 hsh]
  have hv : (mw_ws cA ad y I L)[r]? = some (ad r, .inr (0, mw_fs ad 0 y I r)) := by rw [mw_get hr, mw_eo hs2]
  refine va_astq (r := (RX0, TX0, 16)) hx hb hK hR.2.2.2.1 hR.2.2.2.2.1 hR.2.2.2.2.2 a 2 r 0 he rfl hv rfl (vp_in_nI hj hN) d (fun H1 locs1 hP hD hS => kk ad H1 locs1 lsC ?_ hL)
  have hset : (mw_ws cA ad y I L).set a (ad a, .inl (cA 2, N, .inr (.inr (.inr (.inr (va_up (fun j => (y.2.2 a j).map ad) (nI j).toNatClampNeg (some (ad r)))))))) = mw_ws cA ad (mw_pr y a j r) I L := by
    refine mw_set ha rfl ?_ (fun i hi2 => mw_en_R rfl (if_neg hi2))
    rw [mw_e2 (y := mw_pr y a j r) hsh, nI_clamp (by omega)]
    have hfn : (fun q => ((mw_pr y a j r).2.2 a q).map ad) = va_up (fun q => (y.2.2 a q).map ad) j (some (ad r)) := by
      funext q
      by_cases hq : q = j
      · subst hq
        simp [mw_pr, va_up]
      · simp [mw_pr, va_up, hq]
    rw [hfn]
  rw [hset] at hP hD
  exact ⟨hR.1, hR.2.1, mw_wf_pr hR.2.2.1 hr, hP, hD, hS⟩
theorem mw_obj (hX : mw_Ok own cc D0 CM SM X) {a idx : Nat} (d : decode cc pc = .ok (.invokespecial idx, 3)) (hw : Cond.methodLink own idx objectInit ∈ mw_bg ∧ Cond.instanceMethod objectInit ∈ mw_bg ∧ Cond.code objectInit ⟨#[0xb1]⟩ 1 none ∈ mw_bg) (hst : (st.map fun v => v.category).sum ≤ 8) (kk : mw_G X (pc + 3) ls st y I L n k) : mw_G X pc ls (.ref a :: st) y I L n k := by
  obtain ⟨p, l, e, R, s, m, args, below, meth, c, Q, D, cA, ad0, N0⟩ := X
  obtain ⟨hx, hb, hown, hts, hK, hZ, hl, hr1, hr2, hr3, hr4⟩ := hX
  intro ad H locs lsC hR hL
  refine W.objInit hx hb hown (hts _ hw.1) (hts _ hw.2.1) (hts _ hw.2.2) rfl hL.1 rfl d (by omega) ?_ (W.eq (g2 := F0 m (pc + 3) lsC (st.map (mw_tr ad))) rfl (kk ad H locs lsC hR hL))
  have h9 : ((st.map (mw_tr ad)).map fun v => v.category).sum ≤ 8 := by rw [mw_st_cat]; exact hst
  show 2 * 0 + ((st.map (mw_tr ad)).map fun v => v.category).sum + 12 ≤ R.locals
  omega
/-- new int[2][K] -/
def mw_nm2 (y : mw_Y) (K : Nat) : mw_Y := (y.1 + 3, fun a => if a = y.1 then (3, 2) else if a = y.1 + 1 then (0, K) else if a = y.1 + 2 then (0, K) else y.2.1 a, fun a => if a = y.1 then (fun j => if j < 2 then some (y.1 + 1 + j) else none) else if a = y.1 + 1 then fun _ => none else if a = y.1 + 2 then fun _ => none else y.2.2 a)
def mw_z3 (I : mw_I) (a : Nat) : mw_I := fun q => if q = a + 1 then fun _ => 0 else if q = a + 2 then fun _ => 0 else I q
def mw_a3 (ad : Nat → Nat) (a q : Nat) (r : Nat → Nat) : Nat → Nat := fun k => if k = a then q else if k = a + 1 then r 0 else if k = a + 2 then r 1 else ad k
theorem mw_newM (hX : mw_Ok own cc D0 CM SM X) {i z : Int32} {K idx : Nat} (d : decode cc pc = .ok (.multianewarray idx 2, 4)) (hw : Cond.classLink own idx ("[" ++ (FieldType.array .int).toString) ∈ mw_bg ∧ Cond.arrayClass .int ∈ mw_bg) (hi : i = nI 2) (hz : z = nI K) (hK0 : K < 10000) (hn : n + 3 ≤ CM) (hk : k + (2 + 2 * K) ≤ SM) (hls : ∀ v, some v ∈ ls → mw_ok y.1 (y.1 + 3) v) (hst : ∀ v, v ∈ st → mw_ok y.1 (y.1 + 3) v)
    (kk : mw_G X (pc + 4) ls (.ref y.1 :: st) (mw_nm2 y K) (mw_z3 I y.1) L (n + 3) (k + (2 + 2 * K))) : mw_G X pc ls (.int z :: .int i :: st) y I L n k := by
  obtain ⟨p, l, e, R, s, m, args, below, meth, c, Q, D, cA, ad0, N0⟩ := X
  obtain ⟨hx, hb, hown, hts, hK, hZ, hl, hr1, hr2, hr3, hr4⟩ := hX
  intro ad H locs lsC hR hL
  subst hi
  subst hz
  have hcy : s.vm.findClass (FieldType.array .int).toString = some (cA 0) := (hK.2 0 (cA 0, .int) rfl).2
  refine va_mna (X := mw_ws cA ad y I L) (L := []) (f := fun _ => .inr (0, [])) (ty := .int) (cy := cA 0) (N' := 2) (K' := K) (z := (K, .inl (fun _ => 0))) hx hb hown (hts _ hw.1) hZ.2.2.2.2.2.2.2.2.2.2.1 (hts _ hw.2) hcy hK (by show va_P D mw_cl (mw_ws cA ad y I L ++ []) H; rw [List.append_nil]; exact hR.2.2.2.1) (by show va_D _ (mw_ws cA ad y I L ++ []); rw [List.append_nil]; exact hR.2.2.2.2.1) hR.2.2.2.2.2 (fun q h => Or.inr h) (by decide) (nI_pos (by omega)) (by decide) (nI_clamp (by omega)) (by decide) (by show K * 4 ≤ 536870912; omega) (by omega) rfl rfl (by omega) (by omega) (fun c => ?_) d (fun q r cA1 H1 hinj _ hK1 hP hD hS => ?_)
  · rw [vp_cell_i, ← arrV_new]
    rfl
  · have h1 := (hK1.2 4 (cA1, .array .int) rfl).2
    have h2 := (hK.2 3 (cA 3, .array .int) rfl).2
    have h3 : cA1 = cA 3 := Option.some.inj (Eq.trans (Eq.symm h1) h2)
    subst h3
    have hpl : va_pl ([] ++ (List.range 2).map r) (vr_up (fun _ => .inr (0, [])) ((List.range 2).map r) (.inl (cA 0, (K, .inl (fun _ => 0))))) = [(r 0, .inl (cA 0, (K, .inl (fun _ => 0)))), (r 1, .inl (cA 0, (K, .inl (fun _ => 0))))] := by
      simp [va_pl, vr_up, List.range_succ]
    have hext : mw_ext y (mw_nm2 y K) I (mw_z3 I y.1) L L := fun j hj => by
      have e0 : ¬ j = y.1 := by omega
      have e1 : ¬ j = y.1 + 1 := by omega
      have e2 : ¬ j = y.1 + 2 := by omega
      refine ⟨?_, ?_, ?_, rfl⟩
      · simp [mw_nm2, e0, e1, e2]
      · simp [mw_nm2, e0, e1, e2]
      · simp [mw_z3, e1, e2]
    have had : ∀ j, (j < y.1 ∨ y.1 + 3 ≤ j) → mw_a3 ad y.1 q r j = ad j := fun j hj => by
      have e0 : ¬ j = y.1 := by omega
      have e1 : ¬ j = y.1 + 1 := by omega
      have e2 : ¬ j = y.1 + 2 := by omega
      simp [mw_a3, e0, e1, e2]
    have a0 : mw_a3 ad y.1 q r y.1 = q := if_pos rfl
    have a1 : mw_a3 ad y.1 q r (y.1 + 1) = r 0 := by simp [mw_a3]
    have a2 : mw_a3 ad y.1 q r (y.1 + 2) = r 1 := by simp [mw_a3]
    have n0 : mw_en cA (mw_a3 ad y.1 q r) (mw_nm2 y K) (mw_z3 I y.1) L y.1 = .inl (cA 3, 2, .inr (.inr (.inr (.inr (fun i => if i < 2 then some (r i) else none))))) := by
      rw [mw_e3 (n0 := 2) (by simp [mw_nm2])]
      have hfn : (fun j => ((mw_nm2 y K).2.2 y.1 j).map (mw_a3 ad y.1 q r)) = (fun i => if i < 2 then some (r i) else none) := by
        funext j
        rcases (by omega : j = 0 ∨ j = 1 ∨ 2 ≤ j) with rfl | rfl | hj
        · simp [mw_nm2, a1]
        · simp [mw_nm2, a2]
        · simp [mw_nm2, Nat.not_lt.mpr hj]
      rw [hfn]
    have n1 : mw_en cA (mw_a3 ad y.1 q r) (mw_nm2 y K) (mw_z3 I y.1) L (y.1 + 1) = .inl (cA 0, K, .inl (fun _ => 0)) := by
      rw [mw_e0 (n0 := K) (by simp [mw_nm2])]
      simp [mw_z3]
    have n2 : mw_en cA (mw_a3 ad y.1 q r) (mw_nm2 y K) (mw_z3 I y.1) L (y.1 + 2) = .inl (cA 0, K, .inl (fun _ => 0)) := by
      rw [mw_e0 (n0 := K) (by simp [mw_nm2])]
      simp [mw_z3]
    have hws : mw_ws cA (mw_a3 ad y.1 q r) (mw_nm2 y K) (mw_z3 I y.1) L = (mw_ws cA ad y I L ++ [(q, .inl (cA 3, 2, .inr (.inr (.inr (.inr (fun i => if i < 2 then some (r i) else none))))))]) ++ [(r 0, .inl (cA 0, (K, .inl (fun _ => 0)))), (r 1, .inl (cA 0, (K, .inl (fun _ => 0))))] := by
      have e3 : (List.range (y.1 + 3)) = List.range y.1 ++ [y.1] ++ [y.1 + 1, y.1 + 2] := by simp [List.range_succ]
      unfold mw_ws
      rw [show (mw_nm2 y K).1 = y.1 + 3 from rfl, e3, List.map_append, List.map_append]
      congr 1
      · congr 1
        · apply List.map_congr_left
          intro j hj
          have hj' : j < y.1 := List.mem_range.mp hj
          rw [had j (Or.inl hj'), mw_en_ext hR.2.2.1 hext (fun x hx => had x (Or.inl hx)) hj']
        · simp [a0, n0]
      · simp [a1, a2, n1, n2]
    rw [hpl, ← hws] at hP hD
    have hwf : mw_wf (mw_nm2 y K) := by
      intro a j x ha hx
      show x < y.1 + 3
      by_cases e0 : a = y.1
      · subst e0
        have hx2 : (if j < 2 then some (y.1 + 1 + j) else none) = some x := by simpa [mw_nm2] using hx
        split at hx2
        · cases hx2; omega
        · cases hx2
      · by_cases hlt : a < y.1
        · have e1 : ¬ a = y.1 + 1 := by omega
          have e2 : ¬ a = y.1 + 2 := by omega
          have hx2 : y.2.2 a j = some x := by simpa [mw_nm2, e0, e1, e2] using hx
          have := hR.2.2.1 a j x hlt hx2
          omega
        · have ha3 : a < y.1 + 3 := ha
          rcases (by omega : a = y.1 + 1 ∨ a = y.1 + 2) with rfl | rfl
          · simp [mw_nm2] at hx
          · simp [mw_nm2] at hx
    have h9 := kk (mw_a3 ad y.1 q r) H1 locs lsC ⟨Nat.le_trans hR.1 (by show y.1 ≤ y.1 + 3; omega), fun j hj => ?_, hwf, hP, hD, hS⟩ (hL.ad had hls)
    · rw [List.map_cons, mw_st_ad had st hst] at h9
      have e9 : mw_tr (mw_a3 ad y.1 q r) (.ref y.1) = .ref q := congrArg Value.ref a0
      rw [e9] at h9
      rw [show n + 1 + 2 = n + 3 by omega, show k + 2 + 2 * K = k + (2 + 2 * K) by omega]
      exact h9
    · have h1 := hR.1
      have hj2 : j < N0 ∨ y.1 + 3 ≤ j := hj
      rw [had j (by omega)]
      exact hR.2.1 j (by omega)
end MWN
