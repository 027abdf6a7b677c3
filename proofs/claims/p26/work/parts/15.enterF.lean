theorem mw_cat {as : List Value} (h : as.all (fun v => v.category == 1) = true) : ∀ v ∈ as, v.category = 1 := fun v hv => by simpa using List.all_eq_true.mp h v hv
/-- as vx_ofW, for a method whose own name has no native row, whatever its class's name -/
theorem mw_ofWF {l : Launch} {y : MethodName} {ws ws' : List Cond} {rm : Room} {Pc : Array Value → State → Prop} {Qc : Array Value → State → Outcome → State → Prop} {XC : String → State → State → Prop} {mc ms : Nat} {free : Addr → Prop} {cc : ByteArray} {maxL : Nat} {ret : Option FieldType}
    (hy : plainFor y = true) (hw : ws = Cond.code y cc maxL ret :: ws')
    (body : ∀ p e s m args below meth c s₁, BodyLoose p l y (headSpec ws rm) cc maxL ret e s m args below meth c s₁ → c.maxLocals = maxL → (∀ x ∈ c.exceptionTable.toList, False) → Pc args s →
      W p l e (headSpec ws rm).room s m args below meth c s.heap [] 0 0 (vx_MQ below Qc XC args s mc ms free) (entryFrame m args maxL)) : vx_Met l y ws rm Pc Qc XC mc ms free := by
  refine MetFree.of_bodySF (code := cc) (maxLocals := maxL) (ret := ret) hy ?_ ?_
  · intro args s m h hn
    obtain ⟨meth, c, h1, h2, h3, h4, h5, h6, -, -⟩ := Cond.code_spec hn (atoms_spec (ws := ws) h _ (by rw [hw]; exact List.mem_cons_self))
    exact ⟨meth, c, h1, h2, h3, h4, h5, h6⟩
  · intro p e s m args below meth c s₁ B hml hP _
    have hh0 : s₁.heap = s.heap := by rw [B.state]; rfl
    have ht : ∀ x ∈ c.exceptionTable.toList, False := by
      obtain ⟨meth9, c9, h1, h2, -, -, -, -, h7, -⟩ := Cond.code_spec B.named (atoms_spec (ws := ws) B.pre _ (by rw [hw]; exact List.mem_cons_self))
      cases Option.some.inj (h1.symm.trans B.method)
      cases Option.some.inj (h2.symm.trans (Stand.of_body B).code)
      intro x hx
      rw [Array.isEmpty_iff.mp h7] at hx
      cases hx
    obtain ⟨t, a1, o, b1, b2, b3⟩ := body p e s m args below meth c s₁ B hml ht hP s₁ hh0 (Stand.of_body B)
    exact ⟨t, o, a1, b1, b2, b3⟩
theorem mw_enterF {l : Launch} {yn : MethodName} {bytes : ByteArray} {maxL : Nat} {ret : Option FieldType} {d mc ms : Nat} {as : List Value} {y : mw_Y} {I : mw_I} {L : mw_L} {out : mw_O} (own : String) (ho : yn.cls = own) (hy : plainFor yn = true) (hcat : ∀ v ∈ as, v.category = 1) (hlen : as.length ≤ maxL)
    (body : ∀ X : mw_X, mw_Ok own bytes d mc ms X → mw_l X = l → mw_End (y, I, L) out mc ms ret X → mw_noT X → mw_nm yn.name X → mw_G X 0 (as.map some ++ List.replicate (maxL - as.length) none) [] y I L 0 0) : mw_CT l yn (.code yn bytes maxL ret) d mc ms as (y, I, L) out := by
  intro hl D cA ad sz hwf
  refine mw_ofWF (cc := bytes) (maxL := maxL) (ret := ret) hy rfl ?_
  intro p e s m args below meth c s₁ B hml htab hv
  obtain ⟨rfl, hsz, hK, hP, hD0, hZ⟩ := hv
  have hts := atoms_spec (ws := .code yn bytes maxL ret :: mw_bg) B.pre
  have hown := findClass_of_methodNamed B.named
  rw [ho] at hown
  subst hsz
  rw [lg_entry_eq]
  have h := body (p, l, e, mw_rm d mc ms, s, m, (as.map (mw_tr ad)).toArray, below, meth, c, vx_MQ below (mw_Qc D cA ad s.heap.size (y, I, L) out) (mw_XC D cA ad s.heap.size (y, I, L) out) (as.map (mw_tr ad)).toArray s mc ms (mw_AA ad y.1 s.heap.size), D, cA, ad, y.1) ⟨B.exec, B.bytes, hown, fun w hw => hts w (List.mem_cons_of_mem _ hw), hK, hZ, hl, mw_rm_ok d mc ms⟩ rfl ⟨rfl, rfl, B.notSynchronized, B.returns⟩ htab (name_of_methodNamed B.named B.method).1
  exact h ad s.heap [] _ ⟨Nat.le_refl _, fun _ _ => rfl, hwf, hP, mw_D0 hD0, va_S.rf⟩ (by rw [hml]; exact mw_LR0 hcat hlen)
