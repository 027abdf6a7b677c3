theorem lw_kinds {s : State} {args : Array Value} (hts : ∀ w ∈ lw_tbl, w.before args s = true) : ∃ (D : va_G) (cA : Nat → ClassId), va_K D mw_cl (mw_ty cA) s := by
  have tb : ∀ (i : Nat) (w : Cond), tables_1[i]? = some w → w.before args s = true := fun i w h => hts w (List.mem_append_right _ (List.mem_of_getElem? h))
  obtain ⟨c0, i0, h0⟩ := u_known (C := RX0) (T := TX0) (N := 16) (n := 16) hts (mw_u0) (tb 20 _ (by decide +kernel))
  obtain ⟨c1, i1, h1⟩ := u_known (C := RX1) (T := TX1) (N := 7) (n := 7) hts (mw_u1) (tb 11 _ (by decide +kernel))
  obtain ⟨a0, k0, p0, e1, e2, e3⟩ := Cond.arrayClass_spec (type := .int) (tb 98 (.arrayClass .int) (by decide +kernel))
  obtain ⟨p2, a2, k2, g0, -, g1, g2, g3⟩ := Cond.arrayOver_spec (n := RX0) (tb 19 (.arrayOver (.object RX0)) (by decide +kernel))
  obtain ⟨p3, a3, k3, j0, j1, j2, j3⟩ := Cond.arrayOver_specA (t := .int) (tb 26 (.arrayOver (.array .int)) (by decide +kernel))
  refine ⟨(fun c => if c = 0 then c0 else c1, fun c => if c = 0 then i0 else i1), (fun j => if j = 0 then a0 else if j = 1 then a0 else if j = 2 then a2 else a3), ?_, ?_⟩
  · intro c q hc
    have hl : c < 2 := (List.getElem?_eq_some_iff.mp hc).1
    rcases (by omega : c = 0 ∨ c = 1) with rfl | rfl
    · cases hc; exact h0
    · cases hc; exact h1
  · intro c q hc
    have hl : c < 4 := (List.getElem?_eq_some_iff.mp hc).1
    rcases (by omega : c = 0 ∨ c = 1 ∨ c = 2 ∨ c = 3) with rfl | rfl | rfl | rfl
    · cases hc; exact ⟨fun n z => ⟨fun k h => (by cases h), k0, e2, p0, e3⟩, e1⟩
    · cases hc; exact ⟨fun n z => ⟨fun k h => (by cases h), k0, e2, p0, e3⟩, e1⟩
    · cases hc; exact ⟨fun n z => ⟨fun k h => (by cases h), k2, g1, p2, g2⟩, k2, p2, g1, g2, g0, g3⟩
    · cases hc; exact ⟨fun n z => ⟨fun k h => (by cases h), k3, j1, p3, j2⟩, j3⟩
/-! THE CLAIM OUT OF ONE WALK OF THE LAW'S BODY. Your part is whole_start (and what it stands on); all else here is the same for every law, but numbers. -/
def R_law : String := "WaterCascadeLaw"
def lw_P (b : Addr) (xs : List Int32) (args : Array Value) (s : State) : Prop := args = #[.ref b] ∧ s.IntsAt b xs ∧ xs.length ≤ 260 ∧ (Jvm.Cond.and given_1 narrow_1).before args s = true
def lw_Q (_ : Array Value) (s : State) (o : Outcome) (t : State) : Prop := o = .returned (some (.int 1)) ∧ Framed s o t [] 644725 7167449
def lw_Z (below : List Frame) (a : Array Value) (s : State) : State → Prop := fun t => ∃ o, t.status = .running ∧ Ended t below o ∧ lw_Q a s o t
/-- the law's own end, with 1 on the stack, nothing written that was there before, its room as the claim has it -/
theorem lw_ret {p : Program} {l : Launch} {e : Env} {s : State} {m : MethodId} {below : List Frame} {meth : Method} {c : Code} {b : Nat} (hx : p.tables.exec = Jvm.exec) (hb : c.code = code) (hr : meth.sig.returnType = ret) (hlocks : meth.locks = false) {pc : Nat} {H : Heap} {ls : Array Slot} (hdg : decode code pc = .ok (.ireturn, 1)) : W p l e room_1 s m #[Value.ref b] below meth c H [] 644725 7167449 (lw_Z below #[Value.ref b] s) (F0 m pc ls [.int 1]) := by
  intro T hT X
  obtain ⟨fs, hret, hrun, hended, hW, hframe⟩ := X.leave (v := some (.int 1)) (hlocks := hlocks) (fun h => by rw [hr] at h; cases h)
  have hmeth' : T.vm.method? m = some meth := X.method'
  refine ⟨T.setFrames fs, ?_, .returned (some (.int 1)), hrun, hended, rfl, ⟨_, rfl⟩, hW, hframe⟩
  jvm_step X.here [X.here.top, hx, hb, hdg, hmeth', hr, ret, narrow_b1]
  (try refine ⟨rfl, ?_⟩); (try refine ⟨rfl, ?_⟩)
  first | (intro acts; rw [hret _ acts rfl rfl rfl]) | rw [hret _ _ rfl rfl rfl]
  exact Steps.refl _
/-- what holds at the law's entry: the machine, the code, the tables' words (any of lw_tbl by 'hts w (by decide +kernel)'), the script of L ints xs at the cell b, what the Statement gives of the start (any of its parts by flat_of_before) -/
def lw_At (p : Program) (s : State) (m : MethodId) (meth : Method) (c : Code) (b L : Nat) (xs : Nat → Int32) : Prop :=
  p.tables.exec = Jvm.exec ∧ c.code = code ∧ meth.sig.returnType = ret ∧ c.maxLocals = 5 ∧ s.vm.findClass R_law = some m.cls ∧ (∀ w ∈ lw_tbl, w.before #[Value.ref b] s = true) ∧ va_X b L xs s s.heap ∧ b < s.heap.size ∧ meth.locks = false ∧ (Jvm.Cond.and given_1 narrow_1).before #[Value.ref b] s = true
theorem lw_zz {s : State} {b : Nat} (hts : ∀ w ∈ lw_tbl, w.before #[Value.ref b] s = true) (hgv : (Jvm.Cond.and given_1 narrow_1).before #[Value.ref b] s = true) {A : Nat → Prop} (hA : ∀ a : Nat, a < s.heap.size → ¬ A a) : mw_ZZ A s := by
  have tb : ∀ (i : Nat) (w : Cond), tables_1[i]? = some w → w.before #[Value.ref b] s = true := fun i w h => hts w (List.mem_append_right _ (List.mem_of_getElem? h))
  have nw := flat_of_before _ hgv
  have hc : ∃ cur, s.vm.findClass RX1 = some cur := by
    obtain ⟨cC, kC, hfc, -⟩ := Cond.instantiable_spec (tb 11 (.instantiable RX1 7) (by decide +kernel))
    exact ⟨cC, hfc⟩
  obtain ⟨cur, hcur⟩ := hc
  obtain ⟨-, -, -, a1, -, -, -, -, -, q1⟩ := Cond.stringRef_spec hcur (tb 171 (.stringRef RX1 137 "out of range") (by decide +kernel))
  obtain ⟨-, -, -, a2, -, -, -, -, -, q2⟩ := Cond.stringRef_spec hcur (tb 222 (.stringRef RX1 77 "more than 200 hours") (by decide +kernel))
  obtain ⟨-, -, -, a3, -, -, -, -, -, q3⟩ := Cond.stringRef_spec hcur (tb 328 (.stringRef RX1 88 "the account is less than the amount") (by decide +kernel))
  refine ⟨vx_Zqof (args := #[Value.ref b]) (tb 158 _ (by decide +kernel)) (tb 4 _ (by decide +kernel)) (nw (.isRef (.static "java/lang/Throwable" "UNASSIGNED_STACK" "[Ljava/lang/StackTraceElement;")) (by decide +kernel)) hA, vx_Zqof (args := #[Value.ref b]) (tb 160 _ (by decide +kernel)) (tb 4 _ (by decide +kernel)) (nw (.isRef (.static "java/lang/Throwable" "SUPPRESSED_SENTINEL" "Ljava/util/List;")) (by decide +kernel)) hA, ⟨a1, vk_R.of (tb 171 (.stringRef RX1 137 "out of range") (by decide +kernel)) q1⟩, ⟨a2, vk_R.of (tb 222 (.stringRef RX1 77 "more than 200 hours") (by decide +kernel)) q2⟩, ⟨a3, vk_R.of (tb 328 (.stringRef RX1 88 "the account is less than the amount") (by decide +kernel)) q3⟩, ?_, ?_, ?_, ?_, ?_, ?_, ?_, ?_, ?_⟩
  · exact va_Nw.of rfl (tb 133 (.castable mw_IAE mw_IAE) (by decide +kernel))
  · exact va_Nw.of rfl (tb 215 (.castable mw_ISE mw_ISE) (by decide +kernel))
  · exact va_Nc.of (nw (.not (.castable mw_IAE mw_ISE)) (by decide +kernel))
  · exact va_Nc.of (nw (.not (.castable mw_ISE mw_IAE)) (by decide +kernel))
  · exact va_AO.of (tb 19 (.arrayOver (.object RX0)) (by decide +kernel))
  · exact tb 26 (.arrayOver (.array .int)) (by decide +kernel)
  · exact va_Nw.of rfl (tb 135 (.declares mw_dR) (by decide +kernel))
  · exact va_Nw.of rfl (tb 137 (.declares mw_dE) (by decide +kernel))
  · exact va_Nw.of rfl (tb 139 (.declares mw_dT) (by decide +kernel))
/-- from the law's entry to its end -/
theorem whole_start {p : Program} {e : Env} {s : State} {m : MethodId} {below : List Frame} {meth : Method} {c : Code} (l : Launch) (hflags : l.flags = flags0) {b L : Nat} {xs : Nat → Int32} (hL : L ≤ 260) (C0 : lw_At p s m meth c b L xs) : W p l e room_1 s m #[Value.ref b] below meth c s.heap [] 0 0 (lw_Z below #[Value.ref b] s) (entryFrame m ([Value.ref b] : List Value).toArray 5) := by
  obtain ⟨hx, hb, hr, hml, hown, hts, hXs, hbl, hlocks, hgv⟩ := C0
  obtain ⟨D, cA, hK⟩ := lw_kinds hts
  have hst : l.stackTraces = false := by
    unfold Launch.stackTraces
    rw [hflags]
    decide +kernel
  have hZ : mw_ZZ (mw_AA (fun _ => b) 0 s.heap.size) s := lw_zz hts hgv (fun a ha q => by
    rcases q with ⟨j, hj, -⟩ | q
    · omega
    · omega)
  obtain ⟨X, hX0⟩ : ∃ X : mw_X, X = (p, l, e, room_1, s, m, #[Value.ref b], below, meth, c, lw_Z below #[Value.ref b] s, D, cA, fun _ => b, 0) := ⟨_, rfl⟩
  have hX : mw_Ok RL cL_law 16 644725 7167449 X := by
    subst hX0
    exact ⟨hx, hb, hown, fun w hw => hts w (List.mem_filter.mp hw).1, hK, hZ, hst, (Nat.le_of_ble_eq_true rfl), (Nat.le_of_ble_eq_true rfl), (Nat.le_of_ble_eq_true rfl), (Nat.le_of_ble_eq_true rfl)⟩
  have hS : lw_Sc X L xs := by
    subst hX0
    exact ⟨rfl, hXs, hbl⟩
  have hfin : ∀ (n k : Nat) (I : mw_I), n ≤ 644725 → k ≤ 7167449 → mw_G X 197 [some (.ref 1000000), some (.ref 0), some (.int (nI 24)), none, none] [.int (nI 1)] mw_Y0 I mw_L0 n k := by
    subst hX0
    intro n k I hn hk ad H locs lsC hR hLR
    refine va_forget (fun q hq => ?_) ?_
    · rcases hR.2.2.2.2.2.2.2 q hq with ⟨j, hj, -⟩ | h
      · omega
      · exact h
    · refine W.widen hn hk ?_
      exact lw_ret hx hb hr hlocks dL_law_197
  have hgo : mw_G X 0 [some (.ref 1000000), none, none, none, none] [] (mw_yl []) mw_I0 mw_L0 0 0 := by
    have hA : ([] : List mw_B).length = 0 := rfl
    refine mw_cS hX [] ws_L_108 dL_law_0 (l_travels (mw_l X)) rfl (by decide) (Nat.le_of_ble_eq_true rfl) (Nat.le_of_ble_eq_true rfl) (Nat.le_of_ble_eq_true rfl) ?_
    refine mw_if_eq hX (tgt := 18) dL_law_3 (by decide) (fun h => absurd h (by decide)) (fun _ => ?_)
    refine mw_cS hX [] ws_L_112 dL_law_6 (l_cuts (mw_l X)) rfl (by decide) (Nat.le_of_ble_eq_true rfl) (Nat.le_of_ble_eq_true rfl) (Nat.le_of_ble_eq_true rfl) ?_
    refine mw_if_eq hX (tgt := 18) dL_law_9 (by decide) (fun h => absurd h (by decide)) (fun _ => ?_)
    refine mw_cS hX [] ws_L_115 dL_law_12 (l_bests (mw_l X)) rfl (by decide) (Nat.le_of_ble_eq_true rfl) (Nat.le_of_ble_eq_true rfl) (Nat.le_of_ble_eq_true rfl) ?_
    refine mw_if_ne hX (tgt := 20) dL_law_15 (by decide) (fun _ => ?_) (fun h => absurd h (by decide))
    refine mw_le (n' := 5375) (k' := 34141) (Nat.le_of_ble_eq_true rfl) (Nat.le_of_ble_eq_true rfl) ?_
    show mw_G X 20 [some (.ref 1000000), none, none, none, none] [] (mw_yl ([] ++ [])) mw_I0 mw_L0 5375 34141
    refine gy_new hX hA (q := 1) (a := 0) (by decide) dL_law_20 wn_L_8 (Nat.le_of_ble_eq_true rfl) (Nat.le_of_ble_eq_true rfl) rfl (oL_some (Or.inr (by decide)) (oL_none (oL_none (oL_none (oL_none oL_nil))))) oS_nil rfl (t' := [((5, 0), [none, none, none, none, none, none, none])]) rfl ?_
    refine mw_dupR hX dL_law_23 ?_
    refine mw_cI hX [] ws_L_99 dL_law_24 (c_initW (mw_l X)) rfl (by decide) (Nat.le_of_ble_eq_true rfl) (Nat.le_of_ble_eq_true rfl) (Nat.le_of_ble_eq_true rfl) (oL_some (Or.inr (by decide)) (oL_none (oL_none (oL_none (oL_none oL_nil))))) (oS_cons (okr (by decide)) oS_nil) ?_
    refine mw_relay (y' := mw_Y0) rfl gy_end ?_
    refine mw_astore_n hX dL_law_27 rfl (Nat.le_of_ble_eq_true rfl) ?_
    dsimp only [List.set]
    refine mw_ic hX (nI 0) dL_law_28 rfl ?_
    refine mw_istore_n hX dL_law_29 rfl (Nat.le_of_ble_eq_true rfl) ?_
    dsimp only [List.set]
    exact lp_loop hX hS hL hfin 24 0 _ _ _ rfl lp_first (Nat.le_of_ble_eq_true rfl) (Nat.le_of_ble_eq_true rfl)
  subst hX0
  rw [lg_entry_eq]
  have hLR := mw_LR0 (ad := fun _ => b) (nL := 5) (as := [.ref 1000000]) (mw_cat rfl) (by decide)
  refine hgo (fun _ => b) s.heap [] _ ⟨Nat.le_refl _, fun _ _ => rfl, ?_, ?_, ?_, va_S.rf⟩ (by show mw_LR _ c.maxLocals _ _; rw [hml]; exact hLR)
  · intro k j r hk
    exact absurd hk (Nat.not_lt_zero k)
  · intro k q hk
    exact absurd (mw_got hk).1 (Nat.not_lt_zero k)
  · exact ⟨fun i j p q hi => absurd (mw_got hi).1 (Nat.not_lt_zero i), fun k q hk => absurd (mw_got hk).1 (Nat.not_lt_zero k)⟩
