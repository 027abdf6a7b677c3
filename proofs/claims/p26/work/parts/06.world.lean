/-! THE WORLD BY NAMES. A cell has a name (a number); ad says where it lies. A layout: how many names there are; of each its kind and length; which names its references hold. The ints lie in a memory I, the longs in L. -/
abbrev mw_Y : Type := Nat × (Nat → Nat × Nat) × (Nat → Nat → Option Nat)
abbrev mw_I : Type := Nat → Nat → Int32
abbrev mw_L : Type := Nat → Nat → Int64
abbrev mw_cl : List vw_C := [(RX0, TX0, 16), (RX1, TX1, 7)]
def mw_isI : Nat → Nat → Bool
  | 0, j => decide (j < 6) || decide (12 ≤ j)
  | 1, j => j == 6
  | _, j => j == 10 || j == 19
def mw_nf : Nat → Nat
  | 0 => 16
  | 1 => 7
  | _ => 20
def mw_fv (ad : Nat → Nat) (t : Nat) (y : mw_Y) (I : mw_I) (k j : Nat) : Value := if mw_isI t j = true then .int (I k j) else va_rf ((y.2.2 k j).map ad)
def mw_fs (ad : Nat → Nat) (t : Nat) (y : mw_Y) (I : mw_I) (k : Nat) : List Value := (List.range (mw_nf t)).map (mw_fv ad t y I k)
def mw_en (cA : Nat → ClassId) (ad : Nat → Nat) (y : mw_Y) (I : mw_I) (L : mw_L) (k : Nat) : va_E :=
  match y.2.1 k with
  | (0, n) => .inl (cA 0, n, .inl (I k))
  | (1, n) => .inl (cA 1, n, .inr (.inl (L k)))
  | (2, n) => .inl (cA 2, n, .inr (.inr (.inr (.inr (fun j => (y.2.2 k j).map ad)))))
  | (3, n) => .inl (cA 3, n, .inr (.inr (.inr (.inr (fun j => (y.2.2 k j).map ad)))))
  | (t + 4, _) => .inr (t, mw_fs ad t y I k)
def mw_ws (cA : Nat → ClassId) (ad : Nat → Nat) (y : mw_Y) (I : mw_I) (L : mw_L) : va_W := (List.range y.1).map (fun k => (ad k, mw_en cA ad y I L k))
theorem mw_get {cA : Nat → ClassId} {ad : Nat → Nat} {y : mw_Y} {I : mw_I} {L : mw_L} {k : Nat} (h : k < y.1) : (mw_ws cA ad y I L)[k]? = some (ad k, mw_en cA ad y I L k) := by
  simp [mw_ws, List.getElem?_map, List.getElem?_range h]
theorem mw_got {cA : Nat → ClassId} {ad : Nat → Nat} {y : mw_Y} {I : mw_I} {L : mw_L} {k : Nat} {q : Nat × va_E} (h : (mw_ws cA ad y I L)[k]? = some q) : k < y.1 ∧ q = (ad k, mw_en cA ad y I L k) := by
  have hl : k < (mw_ws cA ad y I L).length := (List.getElem?_eq_some_iff.mp h).1
  have hk : k < y.1 := by simpa [mw_ws] using hl
  exact ⟨hk, Option.some.inj (h.symm.trans (mw_get hk))⟩
theorem mw_len {cA : Nat → ClassId} {ad : Nat → Nat} {y : mw_Y} {I : mw_I} {L : mw_L} : (mw_ws cA ad y I L).length = y.1 := by simp [mw_ws]
theorem mw_set {cA : Nat → ClassId} {ad : Nat → Nat} {y y' : mw_Y} {I I' : mw_I} {L L' : mw_L} {k : Nat} {e : va_E} (hk : k < y.1) (hy : y'.1 = y.1) (he : mw_en cA ad y' I' L' k = e) (ho : ∀ j, j ≠ k → mw_en cA ad y' I' L' j = mw_en cA ad y I L j) :
    (mw_ws cA ad y I L).set k (ad k, e) = mw_ws cA ad y' I' L' := by
  apply List.ext_getElem?
  intro i
  by_cases hi : i < y.1
  · by_cases hik : i = k
    · subst hik
      rw [List.getElem?_set_self (by rw [mw_len]; exact hk), mw_get (by rw [hy]; exact hi), he]
    · rw [List.getElem?_set_ne (Ne.symm hik), mw_get hi, mw_get (by rw [hy]; exact hi), ho i hik]
  · rw [List.getElem?_eq_none (by rw [List.length_set, mw_len]; omega), List.getElem?_eq_none (by rw [mw_len, hy]; omega)]
def mw_up (I : mw_I) (k j : Nat) (x : Int32) : mw_I := fun a => if a = k then upd (I k) j x else I a
def mw_upL (L : mw_L) (k j : Nat) (x : Int64) : mw_L := fun a => if a = k then vp_updL (L k) j x else L a
def mw_pr (y : mw_Y) (k j r : Nat) : mw_Y := (y.1, y.2.1, fun a => if a = k then va_up (y.2.2 k) j (some r) else y.2.2 a)
theorem mw_en_I {cA : Nat → ClassId} {ad : Nat → Nat} {y : mw_Y} {I I' : mw_I} {L L' : mw_L} {k : Nat} (h : I' k = I k) (h2 : L' k = L k) : mw_en cA ad y I' L' k = mw_en cA ad y I L k := by
  unfold mw_en
  split <;> simp [h, h2, mw_fs, mw_fv]
theorem mw_en_R {cA : Nat → ClassId} {ad : Nat → Nat} {y y' : mw_Y} {I : mw_I} {L : mw_L} {k : Nat} (h : y'.2.1 k = y.2.1 k) (h2 : y'.2.2 k = y.2.2 k) : mw_en cA ad y' I L k = mw_en cA ad y I L k := by
  unfold mw_en
  rw [h]
  split <;> simp [h2, mw_fs, mw_fv]
theorem mw_up_ne {I : mw_I} {k j a : Nat} {x : Int32} (h : a ≠ k) : mw_up I k j x a = I a := if_neg h
theorem mw_up_eq {I : mw_I} {k j : Nat} {x : Int32} : mw_up I k j x k = upd (I k) j x := if_pos rfl
theorem mw_upL_ne {I : mw_L} {k j a : Nat} {x : Int64} (h : a ≠ k) : mw_upL I k j x a = I a := if_neg h
theorem mw_upL_eq {I : mw_L} {k j : Nat} {x : Int64} : mw_upL I k j x k = vp_updL (I k) j x := if_pos rfl
theorem mw_fs_set {ad : Nat → Nat} {t : Nat} {y : mw_Y} {I : mw_I} {k j : Nat} {x : Int32} (hj : j < mw_nf t) (hi : mw_isI t j = true) : (mw_fs ad t y I k).set j (.int x) = mw_fs ad t y (mw_up I k j x) k := by
  apply List.ext_getElem?
  intro i
  unfold mw_fs
  by_cases h : i < mw_nf t
  · by_cases hij : i = j
    · subst hij
      rw [List.getElem?_set_self (by simpa using h)]
      simp [List.getElem?_range h, mw_fv, hi, mw_up, upd]
    · rw [List.getElem?_set_ne (Ne.symm hij)]
      simp [List.getElem?_range h, mw_fv, mw_up, upd, hij]
  · rw [List.getElem?_eq_none (by simpa using h), List.getElem?_eq_none (by simpa using h)]
theorem mw_fs_setR {ad : Nat → Nat} {t : Nat} {y : mw_Y} {I : mw_I} {k j r : Nat} (hj : j < mw_nf t) (hi : mw_isI t j = false) : (mw_fs ad t y I k).set j (.ref (ad r)) = mw_fs ad t (mw_pr y k j r) I k := by
  apply List.ext_getElem?
  intro i
  unfold mw_fs
  by_cases h : i < mw_nf t
  · by_cases hij : i = j
    · subst hij
      rw [List.getElem?_set_self (by simpa using h)]
      simp [List.getElem?_range h, mw_fv, hi, mw_pr, va_up, va_rf]
    · rw [List.getElem?_set_ne (Ne.symm hij)]
      simp [List.getElem?_range h, mw_fv, mw_pr, va_up, hij]
  · rw [List.getElem?_eq_none (by simpa using h), List.getElem?_eq_none (by simpa using h)]
theorem mw_fs_get {ad : Nat → Nat} {t : Nat} {y : mw_Y} {I : mw_I} {k j : Nat} (hj : j < mw_nf t) : (mw_fs ad t y I k)[j]? = some (mw_fv ad t y I k j) := by
  simp [mw_fs, List.getElem?_range hj]
theorem mw_fs_len {ad : Nat → Nat} {t : Nat} {y : mw_Y} {I : mw_I} {k : Nat} : (mw_fs ad t y I k).length = mw_nf t := by simp [mw_fs]
/-- names in the layout name cells of it -/
def mw_wf (y : mw_Y) : Prop := ∀ k j r, k < y.1 → y.2.2 k j = some r → r < y.1
theorem mw_map_ad {ad ad' : Nat → Nat} {y : mw_Y} {k j : Nat} (hw : mw_wf y) (hk : k < y.1) (h : ∀ r, r < y.1 → ad' r = ad r) : (y.2.2 k j).map ad' = (y.2.2 k j).map ad := by
  cases hr : y.2.2 k j with
  | none => rfl
  | some r => simp [h r (hw k j r hk hr)]
theorem mw_en_ad {cA : Nat → ClassId} {ad ad' : Nat → Nat} {y : mw_Y} {I : mw_I} {L : mw_L} {k : Nat} (hw : mw_wf y) (hk : k < y.1) (h : ∀ r, r < y.1 → ad' r = ad r) : mw_en cA ad' y I L k = mw_en cA ad y I L k := by
  have hm : ∀ j, (y.2.2 k j).map ad' = (y.2.2 k j).map ad := fun j => mw_map_ad hw hk h
  unfold mw_en
  split <;> simp [hm, mw_fs, mw_fv]
theorem mw_ws_ad {cA : Nat → ClassId} {ad ad' : Nat → Nat} {y : mw_Y} {I : mw_I} {L : mw_L} (hw : mw_wf y) (h : ∀ r, r < y.1 → ad' r = ad r) : mw_ws cA ad' y I L = mw_ws cA ad y I L := by
  unfold mw_ws
  apply List.map_congr_left
  intro k hk
  have hk' : k < y.1 := List.mem_range.mp hk
  rw [h k hk', mw_en_ad hw hk' h]
/-- values with names, as values of the machine -/
def mw_tr (ad : Nat → Nat) : Value → Value
  | .ref k => .ref (ad k)
  | v => v
theorem mw_tr_cat (ad : Nat → Nat) (v : Value) : (mw_tr ad v).category = v.category := by cases v <;> rfl
def mw_LR (ad : Nat → Nat) (nL : Nat) (ls : List (Option Value)) (lsC : Array Slot) : Prop := lsC.size = nL ∧ lv_wf lsC ∧ ls.length = nL ∧ ∀ (i : Nat) (v : Value), ls[i]? = some (some v) → v.category = 1 ∧ lsC[i]? = some (.val (mw_tr ad v))
def mw_prs (ad : Nat → Nat) (ls : List (Option Value)) : List (Nat × Value) := (List.range ls.length).filterMap (fun i => match ls[i]? with
  | some (some v) => some (i, mw_tr ad v)
  | _ => none)
theorem mw_prs_mem {ad : Nat → Nat} {ls : List (Option Value)} {q : Nat × Value} : q ∈ mw_prs ad ls ↔ ∃ v, ls[q.1]? = some (some v) ∧ q.2 = mw_tr ad v := by
  unfold mw_prs
  rw [List.mem_filterMap]
  constructor
  · rintro ⟨i, -, h⟩
    split at h
    next v hv => cases h; exact ⟨v, hv, rfl⟩
    next => cases h
  · rintro ⟨v, hv, h2⟩
    refine ⟨q.1, List.mem_range.mpr (List.getElem?_eq_some_iff.mp hv).1, ?_⟩
    obtain ⟨a, b⟩ := q
    simp only at hv h2 ⊢
    rw [hv, h2]
theorem mw_LR.has {ad : Nat → Nat} {nL : Nat} {ls : List (Option Value)} {lsC : Array Slot} (h : mw_LR ad nL ls lsC) : lv_has lsC nL (mw_prs ad ls) := by
  refine ⟨h.1, h.2.1, fun q hq => ?_⟩
  obtain ⟨v, h1, h2⟩ := mw_prs_mem.mp hq
  rw [h2]
  exact (h.2.2.2 q.1 v h1).2
theorem mw_LR.kept {ad : Nat → Nat} {nL : Nat} {ls : List (Option Value)} {lsC lsC' : Array Slot} (h : mw_LR ad nL ls lsC) {i : Nat} {w : Value} (h2 : lv_has lsC' nL ((i, w) :: (mw_prs ad ls).filter (fun q => !(q.1 == i) && !(q.1 + 1 == i && q.2.category == 2)))) {j : Nat} {v : Value} (hj : ls[j]? = some (some v)) (hij : j ≠ i) : v.category = 1 ∧ lsC'[j]? = some (.val (mw_tr ad v)) := by
  obtain ⟨c1, c2⟩ := h.2.2.2 j v hj
  refine ⟨c1, h2.2.2 (j, mw_tr ad v) (List.mem_cons_of_mem _ (List.mem_filter.mpr ⟨mw_prs_mem.mpr ⟨v, hj, rfl⟩, ?_⟩))⟩
  simp [hij, mw_tr_cat, c1]
theorem mw_LR.put {ad : Nat → Nat} {nL : Nat} {ls : List (Option Value)} {lsC lsC' : Array Slot} (h : mw_LR ad nL ls lsC) {i : Nat} {v : Value} (hc : v.category = 1) (h2 : lv_has lsC' nL ((i, mw_tr ad v) :: (mw_prs ad ls).filter (fun q => !(q.1 == i) && !(q.1 + 1 == i && q.2.category == 2)))) : mw_LR ad nL (ls.set i (some v)) lsC' := by
  refine ⟨h2.1, h2.2.1, by rw [List.length_set]; exact h.2.2.1, fun j w hj => ?_⟩
  by_cases hij : j = i
  · subst hij
    have hl : j < ls.length := by
      have := (List.getElem?_eq_some_iff.mp hj).1
      simpa using this
    rw [List.getElem?_set_self hl] at hj
    cases hj
    exact ⟨hc, h2.2.2 (j, mw_tr ad v) List.mem_cons_self⟩
  · rw [List.getElem?_set_ne (Ne.symm hij)] at hj
    exact h.kept h2 hj hij
theorem mw_LR.drop {ad : Nat → Nat} {nL : Nat} {ls : List (Option Value)} {lsC lsC' : Array Slot} (h : mw_LR ad nL ls lsC) {i : Nat} {w : Value} (h2 : lv_has lsC' nL ((i, w) :: (mw_prs ad ls).filter (fun q => !(q.1 == i) && !(q.1 + 1 == i && q.2.category == 2)))) : mw_LR ad nL (ls.set i none) lsC' := by
  refine ⟨h2.1, h2.2.1, by rw [List.length_set]; exact h.2.2.1, fun j v hj => ?_⟩
  by_cases hij : j = i
  · subst hij
    have hl : j < ls.length := by
      have := (List.getElem?_eq_some_iff.mp hj).1
      simpa using this
    rw [List.getElem?_set_self hl] at hj
    cases hj
  · rw [List.getElem?_set_ne (Ne.symm hij)] at hj
    exact h.kept h2 hj hij
/-- a value that names no cell of those that come -/
def mw_ok (a b : Nat) : Value → Prop
  | .ref r => r < a ∨ b ≤ r
  | _ => True
theorem mw_tr_ok {ad ad' : Nat → Nat} {a b : Nat} (h : ∀ k, (k < a ∨ b ≤ k) → ad' k = ad k) {v : Value} (hv : mw_ok a b v) : mw_tr ad' v = mw_tr ad v := by
  cases v <;> first | rfl | exact congrArg Value.ref (h _ hv)
theorem mw_LR.ad {ad ad' : Nat → Nat} {nL a b : Nat} {ls : List (Option Value)} {lsC : Array Slot} (h : mw_LR ad nL ls lsC) (ha : ∀ k, (k < a ∨ b ≤ k) → ad' k = ad k) (hl : ∀ v, some v ∈ ls → mw_ok a b v) : mw_LR ad' nL ls lsC := by
  refine ⟨h.1, h.2.1, h.2.2.1, fun i v hv => ?_⟩
  obtain ⟨c1, c2⟩ := h.2.2.2 i v hv
  exact ⟨c1, by rw [mw_tr_ok ha (hl v (List.mem_of_getElem? hv))]; exact c2⟩
theorem mw_st_ad {ad ad' : Nat → Nat} {a b : Nat} (ha : ∀ k, (k < a ∨ b ≤ k) → ad' k = ad k) : ∀ (st : List Value), (∀ v, v ∈ st → mw_ok a b v) → st.map (mw_tr ad') = st.map (mw_tr ad)
  | [], _ => rfl
  | v :: st, h => by rw [List.map_cons, List.map_cons, mw_tr_ok ha (h v List.mem_cons_self), mw_st_ad ha st (fun w hw => h w (List.mem_cons_of_mem _ hw))]
theorem mw_st_cat (ad : Nat → Nat) (st : List Value) : ((st.map (mw_tr ad)).map fun v => v.category).sum = (st.map fun v => v.category).sum := by
  congr 1
  rw [List.map_map]
  apply List.map_congr_left
  intro v _
  exact mw_tr_cat ad v
