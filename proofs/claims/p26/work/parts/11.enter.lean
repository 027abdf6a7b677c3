/-! a body's entry; throws; catches; cells that come -/
theorem mw_args_mem : ∀ (vs : List Value) (b : Nat), (∀ v ∈ vs, v.category = 1) → ∀ (i : Nat) (v : Value), vs[i]? = some v → (b + i, v) ∈ lv_args b vs
  | [], _, _, i, v, h => by simp at h
  | w :: vs, b, hc, 0, v, h => by
    simp only [List.getElem?_cons_zero, Option.some.injEq] at h
    subst h
    exact List.mem_cons_self
  | w :: vs, b, hc, i + 1, v, h => by
    rw [List.getElem?_cons_succ] at h
    have h1 := mw_args_mem vs (b + 1) (fun v hv => hc v (List.mem_cons_of_mem _ hv)) i v h
    have hw : ¬ w.category = 2 := by rw [hc w List.mem_cons_self]; decide
    show (b + (i + 1), v) ∈ (b, w) :: lv_args (if w.category = 2 then b + 2 else b + 1) vs
    rw [if_neg hw, show b + (i + 1) = b + 1 + i by omega]
    exact List.mem_cons_of_mem _ h1
theorem mw_sl_len : ∀ (vs : List Value), (∀ v ∈ vs, v.category = 1) → (lg_sl vs).length = vs.length
  | [], _ => rfl
  | w :: vs, hc => by
    have hw : ¬ w.category = 2 := by rw [hc w List.mem_cons_self]; decide
    have h1 := mw_sl_len vs (fun v hv => hc v (List.mem_cons_of_mem _ hv))
    have h2 : lg_sl (w :: vs) = [.val w] ++ lg_sl vs := by simp [lg_sl, hw]
    rw [h2, List.length_append, h1]
    simp [Nat.add_comm]
theorem mw_LR0 {ad : Nat → Nat} {nL : Nat} {as : List Value} (hc : ∀ v ∈ as, v.category = 1) (hl : as.length ≤ nL) : mw_LR ad nL (as.map some ++ List.replicate (nL - as.length) none) ((lg_sl (as.map (mw_tr ad)) ++ List.replicate (nL - (lg_sl (as.map (mw_tr ad))).length) Slot.unset).toArray) := by
  have hc' : ∀ v ∈ as.map (mw_tr ad), v.category = 1 := by
    intro v hv
    obtain ⟨w, hw, rfl⟩ := List.mem_map.mp hv
    rw [mw_tr_cat]
    exact hc w hw
  have h := lv_entry (as.map (mw_tr ad)) (n := nL) (by rw [mw_sl_len _ hc', List.length_map]; exact hl)
  refine ⟨h.1, h.2.1, by simp; omega, fun i v hv => ?_⟩
  have hi : i < as.length := by
    rcases Nat.lt_or_ge i as.length with q | q
    · exact q
    · rw [List.getElem?_append_right (by simpa using q)] at hv
      have := List.mem_of_getElem? hv
      have := List.eq_of_mem_replicate this
      cases this
  rw [List.getElem?_append_left (by simpa using hi)] at hv
  have hv2 : as[i]? = some v := by
    rw [List.getElem?_map] at hv
    cases ha : as[i]? with
    | none => rw [ha] at hv; cases hv
    | some w => rw [ha] at hv; exact Option.some.inj hv
  refine ⟨hc v (List.mem_of_getElem? hv2), h.2.2 (i, mw_tr ad v) ?_⟩
  have h3 := mw_args_mem (as.map (mw_tr ad)) 0 hc' i (mw_tr ad v) (by rw [List.getElem?_map, hv2]; rfl)
  rw [Nat.zero_add] at h3
  exact h3
def mw_nm (nm : String) (X : mw_X) : Prop := (mw_meth X).name = nm
theorem mw_rm_ok (d mc ms : Nat) : 10 * d + 10 ≤ (mw_rm d mc ms).frames ∧ 200 * d + 300 ≤ (mw_rm d mc ms).locals ∧ mc ≤ (mw_rm d mc ms).cells ∧ ms ≤ (mw_rm d mc ms).slots := by
  unfold mw_rm
  dsimp only
  omega
theorem mw_D0 {cA : Nat → ClassId} {ad : Nat → Nat} {y : mw_Y} {I : mw_I} {L : mw_L} {A : Nat → Prop} {sz : Nat} (h : va_D A (mw_ws cA ad y I L)) : va_D (mw_AA ad y.1 sz) (mw_ws cA ad y I L) := ⟨h.1, fun k q hk => by
  obtain ⟨h1, rfl⟩ := mw_got hk
  exact Or.inl ⟨k, h1, rfl⟩⟩
theorem mw_enter {l : Launch} {yn : MethodName} {bytes : ByteArray} {maxL : Nat} {ret : Option FieldType} {d mc ms : Nat} {as : List Value} {y : mw_Y} {I : mw_I} {L : mw_L} {out : mw_O} (own : String) (ho : yn.cls = own) (hy : plainName yn.cls = true) (hcat : ∀ v ∈ as, v.category = 1) (hlen : as.length ≤ maxL)
    (body : ∀ X : mw_X, mw_Ok own bytes d mc ms X → mw_l X = l → mw_End (y, I, L) out mc ms ret X → mw_noT X → mw_nm yn.name X → mw_G X 0 (as.map some ++ List.replicate (maxL - as.length) none) [] y I L 0 0) : mw_CT l yn (.code yn bytes maxL ret) d mc ms as (y, I, L) out := by
  intro hl D cA ad sz hwf
  refine vx_ofW (cc := bytes) (maxL := maxL) (ret := ret) hy rfl ?_
  intro p e s m args below meth c s₁ B hml htab hv
  obtain ⟨rfl, hsz, hK, hP, hD0, hZ⟩ := hv
  have hts := atoms_spec (ws := .code yn bytes maxL ret :: mw_bg) B.pre
  have hown := findClass_of_methodNamed B.named
  rw [ho] at hown
  subst hsz
  rw [lg_entry_eq]
  have h := body (p, l, e, mw_rm d mc ms, s, m, (as.map (mw_tr ad)).toArray, below, meth, c, vx_MQ below (mw_Qc D cA ad s.heap.size (y, I, L) out) (mw_XC D cA ad s.heap.size (y, I, L) out) (as.map (mw_tr ad)).toArray s mc ms (mw_AA ad y.1 s.heap.size), D, cA, ad, y.1) ⟨B.exec, B.bytes, hown, fun w hw => hts w (List.mem_cons_of_mem _ hw), hK, hZ, hl, mw_rm_ok d mc ms⟩ rfl ⟨rfl, rfl, B.notSynchronized, B.returns⟩ htab (name_of_methodNamed B.named B.method).1
  exact h ad s.heap [] _ ⟨Nat.le_refl _, fun _ _ => rfl, hwf, hP, mw_D0 hD0, va_S.rf⟩ (by rw [hml]; exact mw_LR0 hcat hlen)
/-- .. of a body with handlers -/
theorem mw_enterH {l : Launch} {yn : MethodName} {bytes : ByteArray} {maxL : Nat} {ret : Option FieldType} {hh : List (Nat × Nat × Nat × Nat)} {d mc ms : Nat} {as : List Value} {y : mw_Y} {I : mw_I} {L : mw_L} {out : mw_O} (own : String) (ho : yn.cls = own) (hy : plainName yn.cls = true) (hcat : ∀ v ∈ as, v.category = 1) (hlen : as.length ≤ maxL)
    (body : ∀ X : mw_X, mw_Ok own bytes d mc ms X → mw_l X = l → mw_End (y, I, L) out mc ms ret X → (mw_code X).exceptionTable.toList = tableOf hh → mw_G X 0 (as.map some ++ List.replicate (maxL - as.length) none) [] y I L 0 0) : mw_CT l yn (.codeWith yn bytes maxL ret hh) d mc ms as (y, I, L) out := by
  intro hl D cA ad sz hwf
  refine vx_ofWH (cc := bytes) (maxL := maxL) (ret := ret) (hh := hh) hy rfl ?_
  intro p e s m args below meth c s₁ B hml hv
  obtain ⟨rfl, hsz, hK, hP, hD0, hZ⟩ := hv
  have hts := atoms_spec (ws := .codeWith yn bytes maxL ret hh :: mw_bg) B.pre
  have hown := findClass_of_methodNamed B.named
  rw [ho] at hown
  subst hsz
  rw [lg_entry_eq]
  have h := body (p, l, e, mw_rm d mc ms, s, m, (as.map (mw_tr ad)).toArray, below, meth, c, vx_MQ below (mw_Qc D cA ad s.heap.size (y, I, L) out) (mw_XC D cA ad s.heap.size (y, I, L) out) (as.map (mw_tr ad)).toArray s mc ms (mw_AA ad y.1 s.heap.size), D, cA, ad, y.1) ⟨B.exec, B.bytes, hown, fun w hw => hts w (List.mem_cons_of_mem _ hw), hK, hZ, hl, mw_rm_ok d mc ms⟩ rfl ⟨rfl, rfl, B.notSynchronized, B.returns⟩ (vx_table (x := yn) B (hts _ List.mem_cons_self))
  exact h ad s.heap [] _ ⟨Nat.le_refl _, fun _ _ => rfl, hwf, hP, mw_D0 hD0, va_S.rf⟩ (by rw [hml]; exact mw_LR0 hcat hlen)
abbrev mw_sup : List String := ["java/lang/RuntimeException", "java/lang/Exception"]
def mw_cw (cls : String) : List Cond := [.castable cls cls, .declares mw_dR, .declares mw_dE, .declares mw_dT]
theorem mw_cwT (cls : String) : ∀ w ∈ mw_cw cls, w.onTables = true := by
  intro w hw
  simp only [mw_cw, List.mem_cons, List.not_mem_nil, or_false] at hw
  rcases hw with rfl | rfl | rfl | rfl <;> rfl
theorem mw_cwZ {cls : String} {U : State} (h1 : va_Nw (.castable cls cls) U) (h2 : va_Nw (.declares mw_dR) U ∧ va_Nw (.declares mw_dE) U ∧ va_Nw (.declares mw_dT) U) : ∀ w ∈ mw_cw cls, va_Nw w U := by
  intro w hw
  simp only [mw_cw, List.mem_cons, List.not_mem_nil, or_false] at hw
  rcases hw with rfl | rfl | rfl | rfl
  · exact h1
  · exact h2.1
  · exact h2.2.1
  · exact h2.2.2
/-- what 'throw new cls(text)' in WaterCascade asks of the tables -/
def mw_thr (ik is ic : Nat) (cls text : String) : Prop :=
  Bundle.fit cls = true ∧ Cond.classLink RX1 ik cls ∈ mw_bg ∧ Cond.initialized cls ∈ mw_bg ∧ (∀ w ∈ (vx_atS RX1 ic cls mw_sup).filter goodWord, w ∈ mw_bg) ∧ (∀ w ∈ (vx_atS RX1 ic cls mw_sup).filter (fun w => !goodWord w), w ∈ mw_cw cls) ∧ (∀ w ∈ Cond.classLink RX1 ik cls :: Cond.initialized cls :: vx_atS RX1 ic cls mw_sup, vx_ot w = true) ∧ (∀ (A : Nat → Prop) (U : State), mw_ZZ A U → (∃ sa, vk_R RX1 is text sa U) ∧ ∀ w ∈ mw_cw cls, va_Nw w U)
theorem mw_supfit : ∀ z ∈ mw_sup, Bundle.fit z = true := by decide +kernel
section MWT
variable {own : String} {cc : ByteArray} {D0 CM SM : Nat} {X : mw_X} {pc : Nat} {ls : List (Option Value)} {st rest : List Value} {y : mw_Y} {I : mw_I} {L : mw_L} {n k : Nat} {S0 : mw_S} {out : mw_O} {mc ms : Nat}
theorem mw_throw (hX : mw_Ok RX1 cc D0 CM SM X) {ret0 : Option FieldType} (hE : mw_End (y, I, L) out mc ms ret0 X) (hT : mw_noT X) {ik is ic : Nat} {cls text : String} (hq : mw_thr ik is ic cls text) (d0 : decode cc pc = .ok (.new ik, 3)) (d3 : decode cc (pc + 3) = .ok (.dup, 1)) (d4 : decode cc (pc + 4) = .ok (.ldc is, 2)) (d6 : decode cc (pc + 6) = .ok (.invokespecial ic, 3)) (d9 : decode cc (pc + 9) = .ok (.athrow, 1)) (ho : out = .inr cls) (hn : n + 1 ≤ CM) (hk : k + 6 ≤ SM) (hn1 : n + 1 ≤ mc) (hk1 : k + 6 ≤ ms) (hst : (st.map fun v => v.category).sum ≤ 8) : mw_G X pc ls st y I L n k := by
  obtain ⟨p, l, e, R, s, m, args, below, meth, c, Q, D, cA, ad0, N0⟩ := X
  obtain ⟨hx, hb, hown, hts, hK, hZ, hl, hr1, hr2, hr3, hr4⟩ := hX
  obtain ⟨hQ, hN, hlk, hret⟩ := hE
  subst hQ
  subst hN
  intro ad H locs lsC hR hL
  obtain ⟨q1, q2, q3, q4, q5, q6, q7⟩ := hq
  obtain ⟨⟨sa, hstr⟩, hca⟩ := q7 _ _ hZ
  refine vx_throwS (A := mw_AA ad0 y.1 s.heap.size) (names := mw_sup) hx hb hl hown q1 mw_supfit (hts _ q2) (hts _ q3) hstr (vx_hat (fun w hw => hts w (q4 w hw)) q5 (fun w hw => va_Nw.use (mw_cwT _ w hw) (hca w hw))) q6 hZ.1 hZ.2.1 hR.2.2.2.2.2 hL.1 d0 d3 d4 d6 d9 (fun x hx => (hT x hx).elim) ?_ ?_ (by omega) (by omega) hlk (fun t hA hz hq9 => ⟨ho, ?_, ?_⟩) hR.2.2.2.2.2.2.2 hn1 hk1
  · show 2 + 3 < R.frames
    omega
  · rw [mw_st_cat]
    show _ + (13 * (2 + 1) + 43) ≤ R.locals
    omega
  · show va_P D mw_cl (mw_ws cA ad0 y I L) t.heap
    rw [← mw_home hR]
    exact hR.2.2.2.1.kept (fun j q hj => hq9 q.1 (hR.2.2.2.1 j q hj).lt)
  · exact ⟨Nat.le_trans hR.2.2.2.2.2.1 hz, fun q h1 h2 => (hq9 q (Nat.lt_of_lt_of_le h1 hR.2.2.2.2.2.1)).trans (hR.2.2.2.2.2.2.1 q h1 h2)⟩
def mw_wSH (own : String) (idx : Nat) (yn : MethodName) (bytes : ByteArray) (maxL : Nat) (ret : Option FieldType) (hh : List (Nat × Nat × Nat × Nat)) (z : Nat) : Prop :=
  (∀ w ∈ va_wsS own idx yn [.codeWith yn bytes maxL ret hh], w ∈ mw_bg) ∧ (yn.cls ≠ "java/lang/invoke/MethodHandle" ∧ yn.cls ≠ "java/lang/invoke/VarHandle" ∧ (parseMethodDescriptor yn.desc).map (fun d => d.parameters.length) = some z) ∧ maxL ≤ 181
/-- a static call of a method with handlers that returns -/
theorem mw_cSH (hX : mw_Ok own cc D0 CM SM X) {yn : MethodName} {bytes : ByteArray} {maxL : Nat} {ret : Option FieldType} {hh : List (Nat × Nat × Nat × Nat)} {d0 mc ms idx z : Nat} (as : List Value) {v : Option Value} {I' : mw_I} {L' : mw_L} (w : mw_wSH own idx yn bytes maxL ret hh z) (dg : decode cc pc = .ok (.invokestatic idx, 3)) (hc : mw_CT (mw_l X) yn (.codeWith yn bytes maxL ret hh) d0 mc ms as (y, I, L) (.inl (v, y, I', L'))) (hz : as.length = z) (hd : d0 < D0) (hn : n + mc ≤ CM) (hk : k + ms ≤ SM) (hst : (rest.map fun v => v.category).sum ≤ 8)
    (kk : mw_G X (pc + 3) ls (v.toList ++ rest) y I' L' (n + mc) (k + ms)) : mw_G X pc ls (as.reverse ++ rest) y I L n k := by
  obtain ⟨p, l, e, R, s, m, args, below, meth, c, Q, D, cA, ad0, N0⟩ := X
  obtain ⟨hx, hb, hown, hts, hK, hZ, hl, hr1, hr2, hr3, hr4⟩ := hX
  intro ad H locs lsC hR hL
  rw [mw_rev]
  have hM := hc hl D cA ad H.size hR.2.2.1
  have hp := mw_pre (as := as) hR hK hZ
  have cw := vx_cwSW (R := R) (bytes := bytes) (maxL := maxL) (ret := ret) (hh := hh) (rm := mw_rm d0 mc ms) (mc := mc) (ms := ms) z hts (mw_gS w.1) rfl rfl rfl w.2.1 (mw_room hd hr1 hr2 w.2.2)
  refine mw_use (vx_runSX (nL := c.maxLocals) ⟨hx, hb, rfl, hown, hts⟩ hM cw hp rfl (by rw [List.length_map]; exact hz) hL.1 rfl (lv_room (by rw [mw_st_cat]; exact hst)) dg ⟨by omega, by omega⟩) hR rfl (fun ad' H1 locs1 hR1 hadd => ?_)
  have ha : ∀ j, ad' j = ad j := fun j => hadd j (by omega)
  have hae : ad' = ad := funext ha
  subst hae
  rw [mw_back]
  exact kk ad' H1 locs1 lsC hR1 hL
/-- which of the two an exception's type isn't -/
theorem mw_other {A : Nat → Prop} {U : State} (h : mw_ZZ A U) {E nm : String} (he : (E = mw_IAE ∧ nm = mw_ISE) ∨ (E = mw_ISE ∧ nm = mw_IAE)) : va_Nc E nm U := by
  rcases he with ⟨rfl, rfl⟩ | ⟨rfl, rfl⟩
  · exact h.2.2.2.2.2.2.2.1
  · exact h.2.2.2.2.2.2.2.2.1
theorem mw_self {A : Nat → Prop} {U : State} (h : mw_ZZ A U) {E : String} (he : E = mw_IAE ∨ E = mw_ISE) {args : Array Value} : (Cond.castable E E).before args U = true := by
  rcases he with rfl | rfl
  · exact va_any rfl h.2.2.2.2.2.1
  · exact va_any rfl h.2.2.2.2.2.2.1
/-- a call that throws; a handler here takes it and lays it away -/
theorem mw_cVC (hX : mw_Ok own cc D0 CM SM X) {yn : MethodName} {bytes : ByteArray} {maxL : Nat} {ret : Option FieldType} {d0 mc ms idx z t b n0 : Nat} (as : List Value) {E : String} (w : mw_wV own idx t yn bytes maxL ret z) (dg : decode cc pc = .ok (.invokevirtual idx, 3)) (hc : mw_CT (mw_l X) yn (.code yn bytes maxL ret) d0 mc ms (.ref b :: as) (y, I, L) (.inr E)) (hb0 : b < y.1) (hsh : y.2.1 b = (t + 4, n0)) (ht : t < 2) (hz : as.length = z) (hd : d0 < D0) (hn : n + mc ≤ CM) (hk : k + ms ≤ SM) (hst : (rest.map fun v => v.category).sum ≤ 8)
    (pre : List ExceptionTableEntry) (x : ExceptionTableEntry) (suf : List ExceptionTableEntry) (hT : (mw_code X).exceptionTable.toList = pre ++ x :: suf) (hpass : ∀ z ∈ pre, z.catchType ≠ 0 ∧ ∃ nm : String, Cond.classLink own z.catchType nm ∈ mw_bg ∧ ((E = mw_IAE ∧ nm = mw_ISE) ∨ (E = mw_ISE ∧ nm = mw_IAE))) (hx0 : covers x pc = true) (h0 : x.catchType ≠ 0) (hl0 : Cond.classLink own x.catchType E ∈ mw_bg) (hE : E = mw_IAE ∨ E = mw_ISE) {hp2 i wd : Nat} (hpc : x.handlerPc = hp2) (hi : i < ls.length)
    (da : (∃ f : Fin 4, decode cc hp2 = .ok (.astore_n f, 1) ∧ (f : Nat) = i ∧ wd = 1) ∨ (decode cc hp2 = .ok (.astore i, 2) ∧ wd = 2))
    (kk : mw_G X (hp2 + wd) (ls.set i none) [] y I L (n + mc) (k + ms)) : mw_G X pc ls (as.reverse ++ .ref b :: rest) y I L n k := by
  obtain ⟨p, l, e, R, s, m, args, below, meth, c, Q, D, cA, ad0, N0⟩ := X
  obtain ⟨hx, hb, hown, hts, hK, hZ, hl, hr1, hr2, hr3, hr4⟩ := hX
  intro ad H locs lsC hR hL
  rw [mw_revV]
  have hM := hc hl D cA ad H.size hR.2.2.1
  have hp := mw_pre (as := .ref b :: as) hR hK hZ
  have he : (mw_ws cA ad y I L)[b]? = some (ad b, .inr (t, mw_fs ad t y I b)) := by rw [mw_get hb0, mw_eo hsh]
  have cw := cwV (R := R) (bytes := bytes) (maxL := maxL) (ret := ret) (rm := mw_rm d0 mc ms) (mc := mc) (ms := ms) z hts (mw_gV w.1) rfl rfl rfl w.2.1 (mw_room hd hr1 hr2 w.2.2)
  refine mw_useX (vx_runV (nL := c.maxLocals) (b := ad b) (As := as.map (mw_tr ad)) ⟨hx, hb, rfl, hown, hts⟩ hM cw ⟨hp.1, va_recv hK hR.2.2.2.1 (mw_cl_t ht) he, hp.2⟩ rfl (by rw [List.length_map]; exact hz) hL.1 rfl (lv_room (by rw [mw_st_cat]; exact hst)) dg ⟨by omega, by omega⟩) hR rfl (fun q ce H1 locs1 hR1 hce hcv hcl => ?_)
  refine vx_catch hown pre x suf hT (fun z hz => Or.inr ?_) hx0 h0 (hts _ hl0) (mw_self hZ hE) hce hcv hcl ?_
  · obtain ⟨z0, nm, z1, z2⟩ := hpass z hz
    exact ⟨z0, nm, hts _ z1, mw_other hZ z2⟩
  · rw [hpc]
    rcases da with ⟨f, da, hf, hw⟩ | ⟨da, hw⟩
    · subst hw
      exact lv_astore_n hx hb da hf hL.has (by rw [← hL.2.2.1]; exact hi) rfl (fun ls' h' => kk ad H1 locs1 ls' hR1 (hL.drop h'))
    · subst hw
      exact lv_astore hx hb da hL.has (by rw [← hL.2.2.1]; exact hi) rfl (fun ls' h' => kk ad H1 locs1 ls' hR1 (hL.drop h'))
end MWT
