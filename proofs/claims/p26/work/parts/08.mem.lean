/-! rows that read and write cells -/
def mw_Cn : Nat → String
  | 0 => RX0
  | 1 => RX1
  | _ => RX2
def mw_Tn : Nat → u_T
  | 0 => TX0
  | 1 => TX1
  | _ => TX2
def mw_tyn : Nat → Nat → FieldType
  | 0 => tyX0
  | 1 => tyX1
  | _ => tyX2
theorem mw_cl_t : ∀ {t : Nat}, t < 2 → mw_cl[t]? = some (mw_Cn t, mw_Tn t, mw_nf t)
  | 0, _ => rfl
  | 1, _ => rfl
  | t + 2, h => absurd h (by omega)
theorem mw_u0 : ∀ w ∈ u_ws RX0 TX0 16, w ∈ lw_tbl := by decide +kernel
theorem mw_u1 : ∀ w ∈ u_ws RX1 TX1 7, w ∈ lw_tbl := by decide +kernel
theorem mw_g0 : ∀ w ∈ u_ws RX0 TX0 16, goodWord w = true := by decide +kernel
theorem mw_g1 : ∀ w ∈ u_ws RX1 TX1 7, goodWord w = true := by decide +kernel
theorem mw_uws : ∀ {t : Nat}, t < 2 → ∀ w ∈ u_ws (mw_Cn t) (mw_Tn t) (mw_nf t), w ∈ mw_bg
  | 0, _ => fun w h => mw_in (mw_u0 w h) (mw_g0 w h)
  | 1, _ => fun w h => mw_in (mw_u1 w h) (mw_g1 w h)
  | t + 2, h => absurd h (by omega)
theorem mw_nms : ∀ {t : Nat}, t < 2 → ∀ a, a < mw_nf t → ∀ b, b < mw_nf t → a ≠ b → (mw_Tn t a).2.1 ≠ (mw_Tn t b).2.1
  | 0, _ => nmX0
  | 1, _ => nmX1
  | t + 2, h => absurd h (by omega)
theorem mw_tys : ∀ {t : Nat}, t < 2 → ∀ k, k < mw_nf t → parseFieldDescriptor (mw_Tn t k).2.2.1 = some (mw_tyn t k)
  | 0, _ => tyX0_ok
  | 1, _ => tyX1_ok
  | t + 2, h => absurd h (by omega)
theorem mw_ints : ∀ t, t < 2 → ∀ j, j < mw_nf t → mw_isI t j = true → (mw_Tn t j).2.2.2 = false ∧ mw_tyn t j = .int := by decide +kernel
theorem mw_refs : ∀ t, t < 2 → ∀ j, j < mw_nf t → mw_isI t j = false → (mw_Tn t j).2.2.2 = true ∧ (mw_Tn t j).1 = mw_Cn t := by decide +kernel
theorem mw_dflt : ∀ t, t < 2 → ∀ j, j < mw_nf t → defaultValue (mw_tyn t j) = if mw_isI t j = true then .int 0 else .null := by decide +kernel
/-- a field's link -/
def mw_fl (own : String) (idx t j : Nat) : Prop := Cond.fieldLink own idx (mw_Tn t j).1 (mw_Tn t j).2.1 (mw_Tn t j).2.2.1 ∈ mw_bg
theorem mw_eo {cA : Nat → ClassId} {ad : Nat → Nat} {y : mw_Y} {I : mw_I} {L : mw_L} {a t n0 : Nat} (h : y.2.1 a = (t + 4, n0)) : mw_en cA ad y I L a = .inr (t, mw_fs ad t y I a) := by
  unfold mw_en
  rw [h]
theorem mw_e0 {cA : Nat → ClassId} {ad : Nat → Nat} {y : mw_Y} {I : mw_I} {L : mw_L} {a n0 : Nat} (h : y.2.1 a = (0, n0)) : mw_en cA ad y I L a = .inl (cA 0, n0, .inl (I a)) := by
  unfold mw_en
  rw [h]
theorem mw_e1 {cA : Nat → ClassId} {ad : Nat → Nat} {y : mw_Y} {I : mw_I} {L : mw_L} {a n0 : Nat} (h : y.2.1 a = (1, n0)) : mw_en cA ad y I L a = .inl (cA 1, n0, .inr (.inl (L a))) := by
  unfold mw_en
  rw [h]
theorem mw_e2 {cA : Nat → ClassId} {ad : Nat → Nat} {y : mw_Y} {I : mw_I} {L : mw_L} {a n0 : Nat} (h : y.2.1 a = (2, n0)) : mw_en cA ad y I L a = .inl (cA 2, n0, .inr (.inr (.inr (.inr (fun j => (y.2.2 a j).map ad))))) := by
  unfold mw_en
  rw [h]
theorem mw_e3 {cA : Nat → ClassId} {ad : Nat → Nat} {y : mw_Y} {I : mw_I} {L : mw_L} {a n0 : Nat} (h : y.2.1 a = (3, n0)) : mw_en cA ad y I L a = .inl (cA 3, n0, .inr (.inr (.inr (.inr (fun j => (y.2.2 a j).map ad))))) := by
  unfold mw_en
  rw [h]
theorem mw_Rl.I {D : va_G} {cA : Nat → ClassId} {ad0 : Nat → Nat} {N0 : Nat} {s : State} {ad : Nat → Nat} {y : mw_Y} {I I' : mw_I} {L L' : mw_L} {H H1 : Heap} {locs locs1 : List Loc} {a : Nat} {e : va_E} (h : mw_Rl D cA ad0 N0 s ad y I L H locs) (he : (mw_ws cA ad y I L).set a (ad a, e) = mw_ws cA ad y I' L') (hP : va_P D mw_cl ((mw_ws cA ad y I L).set a (ad a, e)) H1) (hD : va_D (mw_AA ad0 N0 s.heap.size) ((mw_ws cA ad y I L).set a (ad a, e))) (hS : va_S (mw_AA ad0 N0 s.heap.size) s.heap H1 locs1) : mw_Rl D cA ad0 N0 s ad y I' L' H1 locs1 := by
  rw [he] at hP hD
  exact ⟨h.1, h.2.1, h.2.2.1, hP, hD, hS⟩
section MWM
variable {own : String} {cc : ByteArray} {D0 CM SM : Nat} {X : mw_X} {pc : Nat} {ls : List (Option Value)} {st : List Value} {y : mw_Y} {I : mw_I} {L : mw_L} {n k : Nat}
theorem mw_getI (hX : mw_Ok own cc D0 CM SM X) {a t j idx n0 : Nat} (d : decode cc pc = .ok (.getfield idx, 3)) (ha : a < y.1) (hsh : y.2.1 a = (t + 4, n0)) (hl : mw_fl own idx t j) (ht : t < 2) (hj : j < mw_nf t) (hi : mw_isI t j = true) (kk : mw_G X (pc + 3) ls (.int (I a j) :: st) y I L n k) : mw_G X pc ls (.ref a :: st) y I L n k := by
  obtain ⟨p, l, e, R, s, m, args, below, meth, c, Q, D, cA, ad0, N0⟩ := X
  obtain ⟨hx, hb, hown, hts, hK, -⟩ := hX
  intro ad H locs lsC hR hL
  have he : (mw_ws cA ad y I L)[a]? = some (ad a, .inr (t, mw_fs ad t y I a)) := by rw [mw_get ha, mw_eo hsh]
  refine va_get (ci := t) (v := .int (I a j)) hx hb hts (mw_uws ht) hown hK hR.2.2.2.1 a he (mw_cl_t ht) j hj (hts _ hl) (fun _ h => h) ?_ d (kk ad H locs lsC hR hL)
  rw [mw_fs_get hj]
  simp [mw_fv, hi]
theorem mw_getR (hX : mw_Ok own cc D0 CM SM X) {a t j idx n0 r : Nat} (d : decode cc pc = .ok (.getfield idx, 3)) (ha : a < y.1) (hsh : y.2.1 a = (t + 4, n0)) (hl : mw_fl own idx t j) (ht : t < 2) (hj : j < mw_nf t) (hi : mw_isI t j = false) (hr : y.2.2 a j = some r) (kk : mw_G X (pc + 3) ls (.ref r :: st) y I L n k) : mw_G X pc ls (.ref a :: st) y I L n k := by
  obtain ⟨p, l, e, R, s, m, args, below, meth, c, Q, D, cA, ad0, N0⟩ := X
  obtain ⟨hx, hb, hown, hts, hK, -⟩ := hX
  intro ad H locs lsC hR hL
  have he : (mw_ws cA ad y I L)[a]? = some (ad a, .inr (t, mw_fs ad t y I a)) := by rw [mw_get ha, mw_eo hsh]
  refine va_get (ci := t) (v := .ref (ad r)) hx hb hts (mw_uws ht) hown hK hR.2.2.2.1 a he (mw_cl_t ht) j hj (hts _ hl) (fun _ h => h) ?_ d (kk ad H locs lsC hR hL)
  rw [mw_fs_get hj]
  simp [mw_fv, hi, hr, va_rf]
theorem mw_putI (hX : mw_Ok own cc D0 CM SM X) {a t j idx n0 : Nat} {x : Int32} (d : decode cc pc = .ok (.putfield idx, 3)) (ha : a < y.1) (hsh : y.2.1 a = (t + 4, n0)) (hl : mw_fl own idx t j) (ht : t < 2) (hj : j < mw_nf t) (hi : mw_isI t j = true) (kk : mw_G X (pc + 3) ls st y (mw_up I a j x) L n k) : mw_G X pc ls (.int x :: .ref a :: st) y I L n k := by
  obtain ⟨p, l, e, R, s, m, args, below, meth, c, Q, D, cA, ad0, N0⟩ := X
  obtain ⟨hx, hb, hown, hts, hK, -⟩ := hX
  intro ad H locs lsC hR hL
  have he : (mw_ws cA ad y I L)[a]? = some (ad a, .inr (t, mw_fs ad t y I a)) := by rw [mw_get ha, mw_eo hsh]
  obtain ⟨hf, hty⟩ := mw_ints t ht j hj hi
  refine va_put (ci := t) (v := .int x) (ty := .int) hx hb hts (mw_uws ht) (mw_tyn t) (mw_tys ht) (mw_nms ht) hown hK hR.2.2.2.1 hR.2.2.2.2.1 hR.2.2.2.2.2 a he (mw_cl_t ht) j hj (hts _ hl) (fun _ h => h) hf (by rw [mw_tys ht j hj, hty]) rfl rfl (by rw [mw_fs_len]; exact hj) d (fun H1 locs1 hP hD hS => kk ad H1 locs1 lsC (hR.I ?_ hP hD hS) hL)
  refine mw_set ha rfl ?_ (fun i hi2 => mw_en_I (mw_up_ne hi2) rfl)
  rw [mw_eo hsh, mw_fs_set hj hi]
theorem mw_iaload (hX : mw_Ok own cc D0 CM SM X) {a N j : Nat} {i : Int32} (d : decode cc pc = .ok (.iaload, 1)) (ha : a < y.1) (hsh : y.2.1 a = (0, N)) (hi : i = nI j) (hj : j < N) (hN : N < 2 ^ 31) (kk : mw_G X (pc + 1) ls (.int (I a j) :: st) y I L n k) : mw_G X pc ls (.int i :: .ref a :: st) y I L n k := by
  obtain ⟨p, l, e, R, s, m, args, below, meth, c, Q, D, cA, ad0, N0⟩ := X
  obtain ⟨hx, hb, hown, hts, hK, -⟩ := hX
  intro ad H locs lsC hR hL
  subst hi
  have he : (mw_ws cA ad y I L)[a]? = some (ad a, .inl (cA 0, N, .inl (I a))) := by rw [mw_get ha, mw_e0 hsh]
  have h9 := kk ad H locs lsC hR hL
  rw [← nI_clamp (n := j) (by omega)] at h9
  exact va_iald hx hb hK hR.2.2.2.1 a 0 he rfl (vp_in_nI hj hN) d h9
theorem mw_iastore (hX : mw_Ok own cc D0 CM SM X) {a N j : Nat} {i x : Int32} (d : decode cc pc = .ok (.iastore, 1)) (ha : a < y.1) (hsh : y.2.1 a = (0, N)) (hi : i = nI j) (hj : j < N) (hN : N < 2 ^ 31) (kk : mw_G X (pc + 1) ls st y (mw_up I a j x) L n k) : mw_G X pc ls (.int x :: .int i :: .ref a :: st) y I L n k := by
  obtain ⟨p, l, e, R, s, m, args, below, meth, c, Q, D, cA, ad0, N0⟩ := X
  obtain ⟨hx, hb, hown, hts, hK, -⟩ := hX
  intro ad H locs lsC hR hL
  subst hi
  have he : (mw_ws cA ad y I L)[a]? = some (ad a, .inl (cA 0, N, .inl (I a))) := by rw [mw_get ha, mw_e0 hsh]
  refine va_iast hx hb hK hR.2.2.2.1 hR.2.2.2.2.1 hR.2.2.2.2.2 a 0 he rfl (vp_in_nI hj hN) d (fun H1 locs1 hP hD hS => kk ad H1 locs1 lsC (hR.I ?_ hP hD hS) hL)
  refine mw_set ha rfl ?_ (fun i hi2 => mw_en_I (mw_up_ne hi2) rfl)
  rw [mw_e0 hsh, mw_up_eq, nI_clamp (by omega)]
theorem mw_aaloadP (hX : mw_Ok own cc D0 CM SM X) {a N j r : Nat} {i : Int32} (d : decode cc pc = .ok (.aaload, 1)) (ha : a < y.1) (hsh : y.2.1 a = (2, N)) (hi : i = nI j) (hj : j < N) (hN : N < 2 ^ 31) (hr : y.2.2 a j = some r) (kk : mw_G X (pc + 1) ls (.ref r :: st) y I L n k) : mw_G X pc ls (.int i :: .ref a :: st) y I L n k := by
  obtain ⟨p, l, e, R, s, m, args, below, meth, c, Q, D, cA, ad0, N0⟩ := X
  obtain ⟨hx, hb, hown, hts, hK, -⟩ := hX
  intro ad H locs lsC hR hL
  subst hi
  have he : (mw_ws cA ad y I L)[a]? = some (ad a, .inl (cA 2, N, .inr (.inr (.inr (.inr (fun j => (y.2.2 a j).map ad)))))) := by rw [mw_get ha, mw_e2 hsh]
  have h9 := kk ad H locs lsC hR hL
  have h8 : va_rf ((y.2.2 a (nI j).toNatClampNeg).map ad) = mw_tr ad (.ref r) := by rw [nI_clamp (by omega), hr]; rfl
  rw [List.map_cons, ← h8] at h9
  exact va_aldq hx hb hK hR.2.2.2.1 a 2 he rfl (vp_in_nI hj hN) d h9
theorem mw_aaloadR (hX : mw_Ok own cc D0 CM SM X) {a N j r : Nat} {i : Int32} (d : decode cc pc = .ok (.aaload, 1)) (ha : a < y.1) (hsh : y.2.1 a = (3, N)) (hi : i = nI j) (hj : j < N) (hN : N < 2 ^ 31) (hr : y.2.2 a j = some r) (kk : mw_G X (pc + 1) ls (.ref r :: st) y I L n k) : mw_G X pc ls (.int i :: .ref a :: st) y I L n k := by
  obtain ⟨p, l, e, R, s, m, args, below, meth, c, Q, D, cA, ad0, N0⟩ := X
  obtain ⟨hx, hb, hown, hts, hK, -⟩ := hX
  intro ad H locs lsC hR hL
  subst hi
  have he : (mw_ws cA ad y I L)[a]? = some (ad a, .inl (cA 3, N, .inr (.inr (.inr (.inr (fun j => (y.2.2 a j).map ad)))))) := by rw [mw_get ha, mw_e3 hsh]
  have h9 := kk ad H locs lsC hR hL
  have h8 : va_rf ((y.2.2 a (nI j).toNatClampNeg).map ad) = mw_tr ad (.ref r) := by rw [nI_clamp (by omega), hr]; rfl
  rw [List.map_cons, ← h8] at h9
  have hlt : (nI j).toNatClampNeg < N := by rw [nI_clamp (by omega)]; exact hj
  exact W.aald (v := va_rf ((y.2.2 a (nI j).toNatClampNeg).map ad)) (ty := .array .int) hx hb (hR.2.2.2.1 a _ he) ((hK.2 3 _ rfl).1 N (fun j => va_rf ((y.2.2 a j).map ad))) rfl (fun q => by cases q) (by show ¬ (nI j < 0 ∨ (arrV _ _ _).slots.size ≤ _); rw [arrV_size]; exact vp_in_nI hj hN) (by show (arrV _ _ _).slots[_]? = _; rw [arrV_read _ _ hlt]) rfl rfl d h9
theorem mw_copy (hX : mw_Ok own cc D0 CM SM X) {a b N M idx : Nat} {i j z : Int32} (d : decode cc pc = .ok (.invokestatic idx, 3)) (hw : Cond.methodLink own idx arraycopyName ∈ mw_bg ∧ Cond.native arraycopyName ∈ mw_bg ∧ Cond.static arraycopyName ∈ mw_bg ∧ Cond.initialized "java/lang/System" ∈ mw_bg) (ha : a < y.1) (hb0 : b < y.1) (hsa : y.2.1 a = (0, N)) (hsb : y.2.1 b = (0, N)) (hi : i = 0) (hj : j = 0) (hz : z = nI M) (hM : M ≤ N) (hN : N < 2 ^ 31) (hst : (st.map fun v => v.category).sum ≤ 8) (kk : mw_G X (pc + 3) ls st y (fun q => if q = b then va_cpy (I a) (I b) 0 0 M else I q) L n k) : mw_G X pc ls (.int z :: .int j :: .ref b :: .int i :: .ref a :: st) y I L n k := by
  obtain ⟨p, l, e, R, s, m, args, below, meth, c, Q, D, cA, ad0, N0⟩ := X
  obtain ⟨hx, hb, hown, hts, hK, -, -, hr1, hr2, -⟩ := hX
  intro ad H locs lsC hR hL
  subst hi
  subst hj
  subst hz
  have hea : (mw_ws cA ad y I L)[a]? = some (ad a, .inl (cA 0, N, .inl (I a))) := by rw [mw_get ha, mw_e0 hsa]
  have heb : (mw_ws cA ad y I L)[b]? = some (ad b, .inl (cA 0, N, .inl (I b))) := by rw [mw_get hb0, mw_e0 hsb]
  have hc : (nI M).toNatClampNeg = M := nI_clamp (by omega)
  have h0 : (0 : Int32).toNatClampNeg = 0 := rfl
  refine va_copyi (ty := .int) hx hb hL.1.symm hown (hts _ hw.1) (hts _ hw.2.1) (hts _ hw.2.2.1) (hts _ hw.2.2.2) hK hR.2.2.2.1 hR.2.2.2.2.1 hR.2.2.2.2.2 a b 0 0 hea heb rfl rfl rfl (by decide) (by decide) (nI_pos (by omega)) (by rw [hc, h0]; omega) (by rw [hc, h0]; omega) (fun _ _ => rfl) (by omega) ?_ d (fun H1 locs1 hP hD hS => kk ad H1 locs1 lsC (hR.I ?_ hP hD hS) hL)
  · rw [mw_st_cat]
    have : nativeFrameWords "java/lang/System" "arraycopy" 5 + 11 ≤ 200 := by decide +kernel
    omega
  · refine mw_set hb0 rfl ?_ (fun i hi2 => mw_en_I (if_neg hi2) rfl)
    rw [mw_e0 hsb, if_pos rfl, hc, h0]
end MWM
