/-! CONTRACTS: from named cells S, with arguments as, the method returns what 'out' says (.inl: a value, the cells behind), or throws (.inr: the name of the exception's type), the cells as they were. -/
abbrev mw_S : Type := mw_Y × mw_I × mw_L
abbrev mw_O : Type := (Option Value × mw_S) ⊕ String
theorem va_AOA.moved {ty : FieldType} {u U : State} (hvm : u.vm.Alike U.vm) (h : va_AOA ty u) : va_AOA ty U := by
  have e := Cond.arrayOver_setVmC (args := #[]) (s := u) (vm' := U.vm) hvm (.array ty)
  have h1 : (Cond.arrayOver (.array ty)).before #[] (u.setVm U.vm) = true := by rw [e]; exact h
  exact h1
def mw_rm (d mc ms : Nat) : Room := { frames := 10 * d + 10, cells := mc, slots := ms, locals := 200 * d + 300 }
theorem mw_room {d0 D0 mc ms maxL F Lo : Nat} (h : d0 < D0) (hF : 10 * D0 + 10 ≤ F) (hL : 200 * D0 + 300 ≤ Lo) (hm : maxL ≤ 181) : (mw_rm d0 mc ms).frames + 1 ≤ F ∧ 8 + (maxL + 11) + (mw_rm d0 mc ms).locals ≤ Lo := by
  unfold mw_rm
  dsimp only
  omega
def mw_Pc (D : va_G) (cA : Nat → ClassId) (ad : Nat → Nat) (sz : Nat) (as : List Value) (S : mw_S) : Array Value → State → Prop := va_Pc (as.map (mw_tr ad)) (fun U => U.heap.size = sz ∧ va_K D mw_cl (mw_ty cA) U ∧ va_P D mw_cl (mw_ws cA ad S.1 S.2.1 S.2.2) U.heap ∧ va_D (fun _ => True) (mw_ws cA ad S.1 S.2.1 S.2.2) ∧ mw_ZZ (mw_AA ad S.1.1 sz) U)
def mw_Qc (D : va_G) (cA : Nat → ClassId) (ad : Nat → Nat) (sz : Nat) (S : mw_S) (out : mw_O) : Array Value → State → Outcome → State → Prop := fun _ st oc t => ∃ (v : Option Value) (y' : mw_Y) (I' : mw_I) (L' : mw_L) (ad' : Nat → Nat), out = .inl (v, y', I', L') ∧ oc = .returned (v.map (mw_tr ad')) ∧ S.1.1 ≤ y'.1 ∧ mw_wf y' ∧ (∀ k, (k < S.1.1 ∨ y'.1 ≤ k) → ad' k = ad k) ∧ va_P D mw_cl (mw_ws cA ad' y' I' L') t.heap ∧ va_D (mw_AA ad S.1.1 sz) (mw_ws cA ad' y' I' L') ∧ va_F (mw_AA ad S.1.1 sz) st t
def mw_XC (D : va_G) (cA : Nat → ClassId) (ad : Nat → Nat) (sz : Nat) (S : mw_S) (out : mw_O) : String → State → State → Prop := fun E st t => out = .inr E ∧ va_P D mw_cl (mw_ws cA ad S.1 S.2.1 S.2.2) t.heap ∧ va_F (mw_AA ad S.1.1 sz) st t
def mw_CT (l : Launch) (yn : MethodName) (code0 : Cond) (d mc ms : Nat) (as : List Value) (S : mw_S) (out : mw_O) : Prop := l.stackTraces = false → ∀ (D : va_G) (cA : Nat → ClassId) (ad : Nat → Nat) (sz : Nat), mw_wf S.1 → vx_Met l yn (code0 :: mw_bg) (mw_rm d mc ms) (mw_Pc D cA ad sz as S) (mw_Qc D cA ad sz S out) (mw_XC D cA ad sz S out) mc ms (mw_AA ad S.1.1 sz)
theorem mw_ZZ.go {A B : Nat → Prop} {s U : State} {H : Heap} {locs : List Loc} (h : mw_ZZ A s) (hS : va_S A s.heap H locs) (hB : ∀ q, B q → A q) (hU : U.heap = H) (hW : s.WarmedH U.vm) : mw_ZZ B U := by
  obtain ⟨h1, h2, ⟨a3, h3⟩, ⟨a4, h4⟩, ⟨a5, h5⟩, h6, h7, h8, h9, h10, h11, h12, h13, h14⟩ := h
  refine ⟨?_, ?_, ⟨a3, h3.warm hW⟩, ⟨a4, h4.warm hW⟩, ⟨a5, h5.warm hW⟩, va_Nw.warmC hW h6, va_Nw.warmC hW h7, h8.moved hW.alike, h9.moved hW.alike, h10.moved hW.alike, h11.moved hW.alike, va_Nw.warmD hW h12, va_Nw.warmD hW h13, va_Nw.warmD hW h14⟩
  · rw [hU]; exact ((h1.kept hS.2.1).moved hW.alike).narrow hB
  · rw [hU]; exact ((h2.kept hS.2.1).moved hW.alike).narrow hB
theorem mw_ZZ.calling {A : Nat → Prop} {U : State} (h : mw_ZZ A U) (g : JFrame) (mk : MethodId) (a : Array Value) : mw_ZZ A (U.calling g mk a) := by
  obtain ⟨h1, h2, ⟨a3, h3⟩, ⟨a4, h4⟩, ⟨a5, h5⟩, h6, h7, h8, h9, h10, h11, h12, h13, h14⟩ := h
  have e : (U.calling g mk a).vm = U.vm := rfl
  have hA : U.vm.Alike (U.calling g mk a).vm := Vm.Alike.refl U.vm
  exact ⟨h1.moved hA, h2.moved hA, ⟨a3, h3.same e⟩, ⟨a4, h4.same e⟩, ⟨a5, h5.same e⟩, va_tabs rfl e.symm h6, va_tabs rfl e.symm h7, h8.moved hA, h9.moved hA, h10.moved hA, h11.moved hA, va_tabs rfl e.symm h12, va_tabs rfl e.symm h13, va_tabs rfl e.symm h14⟩
theorem mw_blind {D : va_G} {cA : Nat → ClassId} {ad : Nat → Nat} {sz : Nat} {as : List Value} {S : mw_S} : FrameBlind (mw_Pc D cA ad sz as S) := fun a U g mk h => ⟨h.1, h.2.1, va_K.moved (u := U) (U := U.calling g mk a) (Vm.Alike.refl U.vm) h.2.2.1, h.2.2.2.1, h.2.2.2.2.1, h.2.2.2.2.2.calling g mk a⟩
theorem mw_sub {D : va_G} {cA : Nat → ClassId} {ad0 : Nat → Nat} {N0 : Nat} {s : State} {ad : Nat → Nat} {y : mw_Y} {I : mw_I} {L : mw_L} {H : Heap} {locs : List Loc} (hR : mw_Rl D cA ad0 N0 s ad y I L H locs) : ∀ q, mw_AA ad y.1 H.size q → mw_AA ad0 N0 s.heap.size q := by
  rintro q (⟨k, hk, rfl⟩ | h)
  · exact hR.2.2.2.2.1.2 k _ (mw_get (I := I) (L := L) hk)
  · exact Or.inr (Nat.le_trans hR.2.2.2.2.2.1 h)
theorem mw_pre {D : va_G} {cA : Nat → ClassId} {ad0 : Nat → Nat} {N0 : Nat} {s : State} {ad : Nat → Nat} {y : mw_Y} {I : mw_I} {L : mw_L} {H : Heap} {locs : List Loc} {as : List Value} (hR : mw_Rl D cA ad0 N0 s ad y I L H locs) (hK : va_K D mw_cl (mw_ty cA) s) (hZ : mw_ZZ (mw_AA ad0 N0 s.heap.size) s) : FrameBlind (mw_Pc D cA ad H.size as (y, I, L)) ∧ ∀ U : State, U.heap = H → s.WarmedH U.vm → mw_Pc D cA ad H.size as (y, I, L) (as.map (mw_tr ad)).toArray U :=
  ⟨mw_blind, fun U hU hW => ⟨rfl, by rw [hU], hK.moved hW.alike, by rw [hU]; exact hR.2.2.2.1, hR.2.2.2.2.1.weaken (fun _ _ _ _ => trivial), hZ.go hR.2.2.2.2.2 (mw_sub hR) hU hW⟩⟩
section MWU
variable {p : Program} {l : Launch} {e : Env} {R : Room} {s : State} {m : MethodId} {args : Array Value} {below : List Frame} {meth : Method} {c : Code} {H : Heap} {locs : List Loc} {n k : Nat} {Q : State → Prop}
variable {D : va_G} {cA : Nat → ClassId} {ad0 : Nat → Nat} {N0 : Nat} {ad : Nat → Nat} {y : mw_Y} {I : mw_I} {L : mw_L} {mc ms pc : Nat} {lsC : Array Slot} {st0 rest : List Value} {out : mw_O} {a : Array Value}
theorem mw_use (hr : vx_Run p l e R s m args below meth c H locs n k mc ms (F0 m pc lsC st0) rest (mw_Qc D cA ad H.size (y, I, L) out a) (mw_XC D cA ad H.size (y, I, L) out) (mw_AA ad y.1 H.size)) (hR : mw_Rl D cA ad0 N0 s ad y I L H locs) {v : Option Value} {y' : mw_Y} {I' : mw_I} {L' : mw_L} (ho : out = .inl (v, y', I', L'))
    (kk : ∀ (ad' : Nat → Nat) (H1 : Heap) (locs1 : List Loc), mw_Rl D cA ad0 N0 s ad' y' I' L' H1 locs1 → (∀ j, (j < y.1 ∨ y'.1 ≤ j) → ad' j = ad j) → W p l e R s m args below meth c H1 locs1 (n + mc) (k + ms) Q (F0 m (pc + 3) lsC ((v.map (mw_tr ad')).toList ++ rest))) : W p l e R s m args below meth c H locs n k Q (F0 m pc lsC st0) := by
  intro T hT X
  rcases hr T hT X with ⟨v9, st₀, t, T', L9, h0, X', hL, e1, e2, ⟨v2, y2, I2, L2, ad', ho2, hv, hle, hwf, hadd, hP, hD, hF⟩, st⟩ | ⟨q, st₀, t, T', L9, E, ce, h0, X', hL, e1, e2, ⟨ho2, -⟩, -⟩
  · have he := Sum.inl.inj (ho2.symm.trans ho)
    simp only [Prod.mk.injEq] at he
    obtain ⟨rfl, rfl, rfl, rfl⟩ := he
    cases hv
    obtain ⟨k1, k2, k3⟩ := vx_keep h0 e1 hR.2.2.2.2.2 (fun q _ h => mw_sub hR q h) (mw_sub hR) hL hF
    have hj9 : ∀ j, (j < N0 ∨ y2.1 ≤ j) → ad' j = ad0 j := by
      intro j hj
      rcases hj with hj | hj
      · rw [hadd j (Or.inl (Nat.lt_of_lt_of_le hj hR.1))]; exact hR.2.1 j (Or.inl hj)
      · rw [hadd j (Or.inr hj)]; exact hR.2.1 j (Or.inr (Nat.le_trans hle hj))
    obtain ⟨t2, a1, b1⟩ := kk ad' T'.heap (locs ++ L9) ⟨Nat.le_trans hR.1 hle, hj9, hwf, by rw [e1]; exact hP, hD.weaken (fun _ q _ h => mw_sub hR q.1 h), k3⟩ hadd T' rfl X'
    exact ⟨t2, st t2 a1, b1⟩
  · rw [ho] at ho2; cases ho2
theorem mw_useX (hr : vx_Run p l e R s m args below meth c H locs n k mc ms (F0 m pc lsC st0) rest (mw_Qc D cA ad H.size (y, I, L) out a) (mw_XC D cA ad H.size (y, I, L) out) (mw_AA ad y.1 H.size)) (hR : mw_Rl D cA ad0 N0 s ad y I L H locs) {E : String} (ho : out = .inr E)
    (kx : ∀ (q : Addr) (ce : Cell) (H1 : Heap) (locs1 : List Loc), mw_Rl D cA ad0 N0 s ad y I L H1 locs1 → H1[q]? = some ce → ce.vm = .none → s.vm.findClass E = some ce.cls → vx_W p l e R s m args below meth c H1 locs1 (n + mc) (k + ms) Q (F0 m pc lsC rest) q) : W p l e R s m args below meth c H locs n k Q (F0 m pc lsC st0) := by
  intro T hT X
  rcases hr T hT X with ⟨v9, st₀, t, T', L9, h0, X', hL, e1, e2, ⟨v2, y2, I2, L2, ad', ho2, -⟩, -⟩ | ⟨q, st₀, t, T', L9, E2, ce, h0, X', hL, e1, e2, ⟨ho2, hP, hF⟩, hce, hcv, hcl, st⟩
  · rw [ho] at ho2; cases ho2
  · cases Sum.inr.inj (ho2.symm.trans ho)
    obtain ⟨k1, k2, k3⟩ := vx_keep h0 e1 hR.2.2.2.2.2 (fun q _ h => mw_sub hR q h) (mw_sub hR) hL hF
    obtain ⟨t2, a1, b1⟩ := kx q ce T'.heap (locs ++ L9) ⟨hR.1, hR.2.1, hR.2.2.1, by rw [e1]; exact hP, hR.2.2.2.2.1, k3⟩ (by rw [e1]; exact hce) hcv hcl T' rfl X'
    exact ⟨t2, st.trans a1, b1⟩
end MWU
/-- the words of a static call; of a virtual one; of a constructor -/
def mw_wS (own : String) (idx : Nat) (yn : MethodName) (bytes : ByteArray) (maxL : Nat) (ret : Option FieldType) (z : Nat) : Prop :=
  (∀ w ∈ va_wsS own idx yn [.code yn bytes maxL ret], w ∈ mw_bg) ∧ (yn.cls ≠ "java/lang/invoke/MethodHandle" ∧ yn.cls ≠ "java/lang/invoke/VarHandle" ∧ (parseMethodDescriptor yn.desc).map (fun d => d.parameters.length) = some z) ∧ maxL ≤ 181
def mw_wV (own : String) (idx t : Nat) (yn : MethodName) (bytes : ByteArray) (maxL : Nat) (ret : Option FieldType) (z : Nat) : Prop :=
  (∀ w ∈ wsV own idx (mw_Cn t) yn [.code yn bytes maxL ret], w ∈ mw_bg) ∧ (yn.cls = mw_Cn t ∧ yn.cls ≠ "java/lang/invoke/MethodHandle" ∧ yn.cls ≠ "java/lang/invoke/VarHandle" ∧ (parseMethodDescriptor yn.desc).map (fun d => d.parameters.length) = some z) ∧ maxL ≤ 181
def mw_wI (own : String) (idx : Nat) (yn : MethodName) (bytes : ByteArray) (maxL z : Nat) : Prop :=
  (∀ w ∈ ([.methodLink own idx yn, .instanceMethod yn, .initialized yn.cls, .code yn bytes maxL none] : List Cond), w ∈ mw_bg) ∧ (yn.cls ≠ "java/lang/invoke/MethodHandle" ∧ yn.cls ≠ "java/lang/invoke/VarHandle" ∧ (parseMethodDescriptor yn.desc).map (fun d => d.parameters.length) = some z) ∧ yn.name = "<init>" ∧ maxL ≤ 181
theorem mw_wcode {w : Cond} (h : w ∈ mw_bg) : ∀ z ∈ w :: mw_bg, z ∈ mw_bg := fun z hz => (List.mem_cons.mp hz).elim (fun e => e ▸ h) id
theorem mw_gS {own : String} {idx : Nat} {yn : MethodName} {w : Cond} (h : ∀ z ∈ va_wsS own idx yn [w], z ∈ mw_bg) : GoodIn mw_bg (va_wsS own idx yn (w :: mw_bg)) := by
  refine mw_bgood' (fun z hz => ?_)
  unfold va_wsS at h hz
  rcases List.mem_append.mp hz with h1 | h1
  · exact h z (List.mem_append_left _ h1)
  · exact mw_wcode (h w (List.mem_append_right _ List.mem_cons_self)) z h1
theorem mw_gV {own C : String} {idx : Nat} {yn : MethodName} {w : Cond} (h : ∀ z ∈ wsV own idx C yn [w], z ∈ mw_bg) : GoodIn mw_bg (wsV own idx C yn (w :: mw_bg)) := by
  refine mw_bgood' (fun z hz => ?_)
  unfold wsV at h hz
  rcases List.mem_append.mp hz with h1 | h1
  · exact h z (List.mem_append_left _ h1)
  · exact mw_wcode (h w (List.mem_append_right _ List.mem_cons_self)) z h1
section MWC
variable {own : String} {cc : ByteArray} {D0 CM SM : Nat} {X : mw_X} {pc : Nat} {ls : List (Option Value)} {st rest : List Value} {y : mw_Y} {I : mw_I} {L : mw_L} {n k : Nat}
theorem mw_rev (ad : Nat → Nat) (as rest : List Value) : (as.reverse ++ rest).map (mw_tr ad) = (as.map (mw_tr ad)).reverse ++ rest.map (mw_tr ad) := by rw [List.map_append, List.map_reverse]
theorem mw_revV (ad : Nat → Nat) (as rest : List Value) (b : Nat) : (as.reverse ++ .ref b :: rest).map (mw_tr ad) = (as.map (mw_tr ad)).reverse ++ .ref (ad b) :: rest.map (mw_tr ad) := by rw [List.map_append, List.map_reverse, List.map_cons]; rfl
theorem mw_back (ad : Nat → Nat) (v : Option Value) (rest : List Value) : (v.map (mw_tr ad)).toList ++ rest.map (mw_tr ad) = (v.toList ++ rest).map (mw_tr ad) := by cases v <;> rfl
/-- a static call that returns, making no cell that lasts -/
theorem mw_cS (hX : mw_Ok own cc D0 CM SM X) {yn : MethodName} {bytes : ByteArray} {maxL : Nat} {ret : Option FieldType} {d0 mc ms idx z : Nat} (as : List Value) {v : Option Value} {I' : mw_I} {L' : mw_L} (w : mw_wS own idx yn bytes maxL ret z) (dg : decode cc pc = .ok (.invokestatic idx, 3)) (hc : mw_CT (mw_l X) yn (.code yn bytes maxL ret) d0 mc ms as (y, I, L) (.inl (v, y, I', L'))) (hz : as.length = z) (hd : d0 < D0) (hn : n + mc ≤ CM) (hk : k + ms ≤ SM) (hst : (rest.map fun v => v.category).sum ≤ 8)
    (kk : mw_G X (pc + 3) ls (v.toList ++ rest) y I' L' (n + mc) (k + ms)) : mw_G X pc ls (as.reverse ++ rest) y I L n k := by
  obtain ⟨p, l, e, R, s, m, args, below, meth, c, Q, D, cA, ad0, N0⟩ := X
  obtain ⟨hx, hb, hown, hts, hK, hZ, hl, hr1, hr2, hr3, hr4⟩ := hX
  intro ad H locs lsC hR hL
  rw [mw_rev]
  have hM := hc hl D cA ad H.size hR.2.2.1
  have hp := mw_pre (as := as) hR hK hZ
  have cw := va_cwS (R := R) (bytes := bytes) (maxL := maxL) (ret := ret) (rm := mw_rm d0 mc ms) (mc := mc) (ms := ms) z hts (mw_gS w.1) rfl rfl rfl w.2.1 (mw_room hd hr1 hr2 w.2.2)
  refine mw_use (vx_runS (nL := c.maxLocals) ⟨hx, hb, rfl, hown, hts⟩ hM cw hp rfl (by rw [List.length_map]; exact hz) hL.1 rfl (lv_room (by rw [mw_st_cat]; exact hst)) dg ⟨by omega, by omega⟩) hR rfl (fun ad' H1 locs1 hR1 hadd => ?_)
  have ha : ∀ j, ad' j = ad j := fun j => hadd j (by omega)
  have hae : ad' = ad := funext ha
  subst hae
  rw [mw_back]
  exact kk ad' H1 locs1 lsC hR1 hL
/-- a call of a method that returns, making no cell that lasts -/
theorem mw_cV (hX : mw_Ok own cc D0 CM SM X) {yn : MethodName} {bytes : ByteArray} {maxL : Nat} {ret : Option FieldType} {d0 mc ms idx z t b n0 : Nat} (as : List Value) {v : Option Value} {I' : mw_I} {L' : mw_L} (w : mw_wV own idx t yn bytes maxL ret z) (dg : decode cc pc = .ok (.invokevirtual idx, 3)) (hc : mw_CT (mw_l X) yn (.code yn bytes maxL ret) d0 mc ms (.ref b :: as) (y, I, L) (.inl (v, y, I', L'))) (hb0 : b < y.1) (hsh : y.2.1 b = (t + 4, n0)) (ht : t < 2) (hz : as.length = z) (hd : d0 < D0) (hn : n + mc ≤ CM) (hk : k + ms ≤ SM) (hst : (rest.map fun v => v.category).sum ≤ 8)
    (kk : mw_G X (pc + 3) ls (v.toList ++ rest) y I' L' (n + mc) (k + ms)) : mw_G X pc ls (as.reverse ++ .ref b :: rest) y I L n k := by
  obtain ⟨p, l, e, R, s, m, args, below, meth, c, Q, D, cA, ad0, N0⟩ := X
  obtain ⟨hx, hb, hown, hts, hK, hZ, hl, hr1, hr2, hr3, hr4⟩ := hX
  intro ad H locs lsC hR hL
  rw [mw_revV]
  have hM := hc hl D cA ad H.size hR.2.2.1
  have hp := mw_pre (as := .ref b :: as) hR hK hZ
  have he : (mw_ws cA ad y I L)[b]? = some (ad b, .inr (t, mw_fs ad t y I b)) := by rw [mw_get hb0, mw_eo hsh]
  have cw := cwV (R := R) (bytes := bytes) (maxL := maxL) (ret := ret) (rm := mw_rm d0 mc ms) (mc := mc) (ms := ms) z hts (mw_gV w.1) rfl rfl rfl w.2.1 (mw_room hd hr1 hr2 w.2.2)
  refine mw_use (vx_runV (nL := c.maxLocals) (b := ad b) (As := as.map (mw_tr ad)) ⟨hx, hb, rfl, hown, hts⟩ hM cw ⟨hp.1, va_recv hK hR.2.2.2.1 (mw_cl_t ht) he, hp.2⟩ rfl (by rw [List.length_map]; exact hz) hL.1 rfl (lv_room (by rw [mw_st_cat]; exact hst)) dg ⟨by omega, by omega⟩) hR rfl (fun ad' H1 locs1 hR1 hadd => ?_)
  have ha : ∀ j, ad' j = ad j := fun j => hadd j (by omega)
  have hae : ad' = ad := funext ha
  subst hae
  rw [mw_back]
  exact kk ad' H1 locs1 lsC hR1 hL
/-- a constructor: cells may come -/
theorem mw_cI (hX : mw_Ok own cc D0 CM SM X) {yn : MethodName} {bytes : ByteArray} {maxL : Nat} {d0 mc ms idx z b : Nat} (as : List Value) {y' : mw_Y} {I' : mw_I} {L' : mw_L} (w : mw_wI own idx yn bytes maxL z) (dg : decode cc pc = .ok (.invokespecial idx, 3)) (hc : mw_CT (mw_l X) yn (.code yn bytes maxL none) d0 mc ms (.ref b :: as) (y, I, L) (.inl (none, y', I', L'))) (hz : as.length = z) (hd : d0 < D0) (hn : n + mc ≤ CM) (hk : k + ms ≤ SM) (hst : (rest.map fun v => v.category).sum ≤ 8)
    (hls : ∀ v, some v ∈ ls → mw_ok y.1 y'.1 v) (hrs : ∀ v, v ∈ rest → mw_ok y.1 y'.1 v)
    (kk : mw_G X (pc + 3) ls rest y' I' L' (n + mc) (k + ms)) : mw_G X pc ls (as.reverse ++ .ref b :: rest) y I L n k := by
  obtain ⟨p, l, e, R, s, m, args, below, meth, c, Q, D, cA, ad0, N0⟩ := X
  obtain ⟨hx, hb, hown, hts, hK, hZ, hl, hr1, hr2, hr3, hr4⟩ := hX
  intro ad H locs lsC hR hL
  rw [mw_revV]
  have hM := hc hl D cA ad H.size hR.2.2.1
  have hp := mw_pre (as := .ref b :: as) hR hK hZ
  have cw := cwI (R := R) (own := own) (index := idx) (bytes := bytes) (maxL := maxL) (rm := mw_rm d0 mc ms) (mc := mc) (ms := ms) z hts (ws := .code yn bytes maxL none :: mw_bg) (mw_bgood' (mw_wcode (w.1 _ (by simp)))) rfl rfl rfl (hts _ (w.1 _ (by simp))) (hts _ (w.1 _ (by simp))) (hts _ (w.1 _ (by simp))) w.2.2.1 w.2.1 (mw_room hd hr1 hr2 w.2.2.2)
  refine mw_use (vx_runI (nL := c.maxLocals) (b := ad b) (As := as.map (mw_tr ad)) ⟨hx, hb, rfl, hown, hts⟩ hM cw hp rfl (by rw [List.length_map]; exact hz) hL.1 rfl (lv_room (by rw [mw_st_cat]; exact hst)) dg ⟨by omega, by omega⟩) hR rfl (fun ad' H1 locs1 hR1 hadd => ?_)
  have h9 := kk ad' H1 locs1 lsC hR1 (hL.ad hadd hls)
  rw [mw_st_ad hadd rest hrs] at h9
  exact h9
/-- what a body owes at its end -/
def mw_End (S0 : mw_S) (out : mw_O) (mc ms : Nat) (ret : Option FieldType) (X : mw_X) : Prop :=
  match X with
  | (p, l, e, R, s, m, args, below, meth, c, Q, D, cA, ad0, N0) => Q = vx_MQ below (mw_Qc D cA ad0 s.heap.size S0 out) (mw_XC D cA ad0 s.heap.size S0 out) args s mc ms (mw_AA ad0 S0.1.1 s.heap.size) ∧ N0 = S0.1.1 ∧ meth.locks = false ∧ meth.sig.returnType = ret
def mw_noT (X : mw_X) : Prop := ∀ x ∈ (mw_code X).exceptionTable.toList, False
variable {S0 : mw_S} {out : mw_O} {mc ms : Nat}
theorem mw_ireturn (hX : mw_Ok own cc D0 CM SM X) (hE : mw_End S0 out mc ms (some .int) X) {v : Int32} (d : decode cc pc = .ok (.ireturn, 1)) (ho : out = .inl (some (.int v), y, I, L)) (hn : n ≤ mc) (hk : k ≤ ms) : mw_G X pc ls [.int v] y I L n k := by
  obtain ⟨p, l, e, R, s, m, args, below, meth, c, Q, D, cA, ad0, N0⟩ := X
  obtain ⟨hx, hb, -⟩ := hX
  obtain ⟨hQ, hN, hlk, hret⟩ := hE
  subst hQ
  subst hN
  intro ad H locs lsC hR hL
  refine W.widen hn hk (vx_ret ?_)
  exact W.iret (v := v) hx hb hret (fun t ht hW => ⟨some (.int v), y, I, L, ad, ho, rfl, hR.1, hR.2.2.1, hR.2.1, by rw [ht]; exact hR.2.2.2.1, hR.2.2.2.2.1, hR.2.2.2.2.2.F ht⟩) hR.2.2.2.2.2.2.2 d hlk
theorem mw_zreturn (hX : mw_Ok own cc D0 CM SM X) (hE : mw_End S0 out mc ms (some .boolean) X) {v : Int32} (d : decode cc pc = .ok (.ireturn, 1)) (ho : out = .inl (some (.int v), y, I, L)) (hv : v = 0 ∨ v = 1) (hn : n ≤ mc) (hk : k ≤ ms) : mw_G X pc ls [.int v] y I L n k := by
  obtain ⟨p, l, e, R, s, m, args, below, meth, c, Q, D, cA, ad0, N0⟩ := X
  obtain ⟨hx, hb, -⟩ := hX
  obtain ⟨hQ, hN, hlk, hret⟩ := hE
  subst hQ
  subst hN
  intro ad H locs lsC hR hL
  refine W.widen hn hk (vx_ret ?_)
  exact W.zret (v := v) hx hb hret (by rcases hv with rfl | rfl <;> rfl) (fun t ht hW => ⟨some (.int v), y, I, L, ad, ho, rfl, hR.1, hR.2.2.1, hR.2.1, by rw [ht]; exact hR.2.2.2.1, hR.2.2.2.2.1, hR.2.2.2.2.2.F ht⟩) hR.2.2.2.2.2.2.2 d hlk
theorem mw_return (hX : mw_Ok own cc D0 CM SM X) (hE : mw_End S0 out mc ms none X) (d : decode cc pc = .ok (.return_, 1)) (ho : out = .inl (none, y, I, L)) (hn : n ≤ mc) (hk : k ≤ ms) : mw_G X pc ls [] y I L n k := by
  obtain ⟨p, l, e, R, s, m, args, below, meth, c, Q, D, cA, ad0, N0⟩ := X
  obtain ⟨hx, hb, -⟩ := hX
  obtain ⟨hQ, hN, hlk, hret⟩ := hE
  subst hQ
  subst hN
  intro ad H locs lsC hR hL
  refine W.widen hn hk (vx_ret ?_)
  exact W.vret hx hb hret (fun t ht hW => ⟨none, y, I, L, ad, ho, rfl, hR.1, hR.2.2.1, hR.2.1, by rw [ht]; exact hR.2.2.2.1, hR.2.2.2.2.1, hR.2.2.2.2.2.F ht⟩) hR.2.2.2.2.2.2.2 d hlk
theorem mw_home {D : va_G} {cA : Nat → ClassId} {ad0 : Nat → Nat} {s : State} {ad : Nat → Nat} {H : Heap} {locs : List Loc} (hR : mw_Rl D cA ad0 y.1 s ad y I L H locs) : mw_ws cA ad y I L = mw_ws cA ad0 y I L := mw_ws_ad hR.2.2.1 (fun r hr => hR.2.1 r (Or.inl hr))
/-- a static call that throws; nobody here catches -/
theorem mw_cSX (hX : mw_Ok own cc D0 CM SM X) {ret0 : Option FieldType} (hE : mw_End (y, I, L) out mc ms ret0 X) (hT : mw_noT X) {yn : MethodName} {bytes : ByteArray} {maxL : Nat} {ret : Option FieldType} {d0 mc0 ms0 idx z : Nat} (as : List Value) {E : String} (w : mw_wS own idx yn bytes maxL ret z) (dg : decode cc pc = .ok (.invokestatic idx, 3)) (hc : mw_CT (mw_l X) yn (.code yn bytes maxL ret) d0 mc0 ms0 as (y, I, L) (.inr E)) (hz : as.length = z) (hd : d0 < D0) (hn : n + mc0 ≤ CM) (hk : k + ms0 ≤ SM) (hst : (rest.map fun v => v.category).sum ≤ 8) (ho : out = .inr E) (hn1 : n + mc0 ≤ mc) (hk1 : k + ms0 ≤ ms) : mw_G X pc ls (as.reverse ++ rest) y I L n k := by
  obtain ⟨p, l, e, R, s, m, args, below, meth, c, Q, D, cA, ad0, N0⟩ := X
  obtain ⟨hx, hb, hown, hts, hK, hZ, hl, hr1, hr2, hr3, hr4⟩ := hX
  obtain ⟨hQ, hN, hlk, hret⟩ := hE
  subst hQ
  subst hN
  intro ad H locs lsC hR hL
  rw [mw_rev]
  have hM := hc hl D cA ad H.size hR.2.2.1
  have hp := mw_pre (as := as) hR hK hZ
  have cw := va_cwS (R := R) (bytes := bytes) (maxL := maxL) (ret := ret) (rm := mw_rm d0 mc0 ms0) (mc := mc0) (ms := ms0) z hts (mw_gS w.1) rfl rfl rfl w.2.1 (mw_room hd hr1 hr2 w.2.2)
  refine mw_useX (vx_runS (nL := c.maxLocals) ⟨hx, hb, rfl, hown, hts⟩ hM cw hp rfl (by rw [List.length_map]; exact hz) hL.1 rfl (lv_room (by rw [mw_st_cat]; exact hst)) dg ⟨by omega, by omega⟩) hR rfl (fun q ce H1 locs1 hR1 hce hcv hcl => ?_)
  refine vx_out (fun x hx => (hT x hx).elim) hlk hce hcv hcl (fun t ht hA => ⟨ho, ?_, hR1.2.2.2.2.2.F ht⟩) hR1.2.2.2.2.2.2.2 hn1 hk1
  rw [ht]
  show va_P D mw_cl (mw_ws cA ad0 y I L) H1
  rw [← mw_home hR1]
  exact hR1.2.2.2.1
end MWC
