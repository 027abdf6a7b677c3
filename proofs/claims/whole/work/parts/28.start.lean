/-! THE CLAIM OUT OF ONE WALK OF THE LAW'S BODY. Your part is whole_start (and what it stands on); all else here is the same for every law, but numbers. -/
def R_law : String := "WaterCascadeLaw"
def lw_P (b : Addr) (xs : List Int32) (args : Array Value) (s : State) : Prop := args = #[.ref b] ∧ s.IntsAt b xs ∧ xs.length ≤ 2560 ∧ (Jvm.Cond.and given_1 narrow_1).before args s = true
def lw_Q (_ : Array Value) (s : State) (o : Outcome) (t : State) : Prop := o = .returned (some (.int 1)) ∧ Framed s o t [] 601024 7293034
def lw_Z (below : List Frame) (a : Array Value) (s : State) : State → Prop := fun t => ∃ o, t.status = .running ∧ Ended t below o ∧ lw_Q a s o t
/-- the law's own end, with 1 on the stack, nothing written that was there before, its room as the claim has it -/
theorem lw_ret {p : Program} {l : Launch} {e : Env} {s : State} {m : MethodId} {below : List Frame} {meth : Method} {c : Code} {b : Nat} (hx : p.tables.exec = Jvm.exec) (hb : c.code = code) (hr : meth.sig.returnType = ret) (hlocks : meth.locks = false) {pc : Nat} {H : Heap} {ls : Array Slot} (hdg : decode code pc = .ok (.ireturn, 1)) : W p l e room_1 s m #[Value.ref b] below meth c H [] 601024 7293034 (lw_Z below #[Value.ref b] s) (F0 m pc ls [.int 1]) := by
  intro T hT X
  obtain ⟨fs, hret, hrun, hended, hW, hframe⟩ := X.leave (v := some (.int 1)) (hlocks := hlocks) (fun h => by rw [hr] at h; cases h)
  have hmeth' : T.vm.method? m = some meth := X.method'
  refine ⟨T.setFrames fs, ?_, .returned (some (.int 1)), hrun, hended, rfl, ⟨_, rfl⟩, hW, hframe⟩
  jvm_step X.here [X.here.top, hx, hb, hdg, hmeth', hr, ret, narrow_b1]
  (try refine ⟨rfl, ?_⟩); (try refine ⟨rfl, ?_⟩)
  first | (intro acts; rw [hret _ acts rfl rfl rfl]) | rw [hret _ _ rfl rfl rfl]
  exact Steps.refl _
/-- what holds at the law's entry: the machine, the code, the tables' words (any of lw_tbl by 'hts w (by decide +kernel)'), the script of L ints xs at the cell b, what the Statement gives of the start (any of its parts by flat_of_before) -/
def lw_At (p : Program) (s : State) (m : MethodId) (meth : Method) (c : Code) (b L : Nat) (xs : Nat → Int32) : Prop :=
  p.tables.exec = Jvm.exec ∧ c.code = code ∧ meth.sig.returnType = ret ∧ c.maxLocals = 7 ∧ s.vm.findClass R_law = some m.cls ∧ (∀ w ∈ lw_tbl, w.before #[Value.ref b] s = true) ∧ va_X b L xs s s.heap ∧ b < s.heap.size ∧ meth.locks = false ∧ (Jvm.Cond.and given_1 narrow_1).before #[Value.ref b] s = true
theorem lw_zz {s : State} {b : Nat} (hts : ∀ w ∈ lw_tbl, w.before #[Value.ref b] s = true) (hgv : (Jvm.Cond.and given_1 narrow_1).before #[Value.ref b] s = true) {A : Nat → Prop} (hA : ∀ a : Nat, a < s.heap.size → ¬ A a) : mw_ZZ A s := by
  have tb : ∀ (i : Nat) (w : Cond), tables_1[i]? = some w → w.before #[Value.ref b] s = true := fun i w h => hts w (List.mem_append_right _ (List.mem_of_getElem? h))
  have nw := flat_of_before _ hgv
  have hc : ∃ cur, s.vm.findClass RX1 = some cur := by
    obtain ⟨cC, kC, hfc, -⟩ := Cond.instantiable_spec (tb 12 (.instantiable RX1 7) (by decide +kernel))
    exact ⟨cC, hfc⟩
  obtain ⟨cur, hcur⟩ := hc
  obtain ⟨-, -, -, a1, -, -, -, -, -, q1⟩ := Cond.stringRef_spec hcur (tb 180 (.stringRef RX1 137 "out of range") (by decide +kernel))
  obtain ⟨-, -, -, a2, -, -, -, -, -, q2⟩ := Cond.stringRef_spec hcur (tb 256 (.stringRef RX1 77 "more than 200 hours") (by decide +kernel))
  obtain ⟨-, -, -, a3, -, -, -, -, -, q3⟩ := Cond.stringRef_spec hcur (tb 327 (.stringRef RX1 88 "the account is less than the amount") (by decide +kernel))
  refine ⟨vx_Zqof (args := #[Value.ref b]) (tb 167 _ (by decide +kernel)) (tb 5 _ (by decide +kernel)) (nw (.isRef (.static "java/lang/Throwable" "UNASSIGNED_STACK" "[Ljava/lang/StackTraceElement;")) (by decide +kernel)) hA, vx_Zqof (args := #[Value.ref b]) (tb 169 _ (by decide +kernel)) (tb 5 _ (by decide +kernel)) (nw (.isRef (.static "java/lang/Throwable" "SUPPRESSED_SENTINEL" "Ljava/util/List;")) (by decide +kernel)) hA, ⟨a1, vk_R.of (tb 180 (.stringRef RX1 137 "out of range") (by decide +kernel)) q1⟩, ⟨a2, vk_R.of (tb 256 (.stringRef RX1 77 "more than 200 hours") (by decide +kernel)) q2⟩, ⟨a3, vk_R.of (tb 327 (.stringRef RX1 88 "the account is less than the amount") (by decide +kernel)) q3⟩, ?_, ?_, ?_, ?_, ?_, ?_, ?_, ?_, ?_⟩
  · exact va_Nw.of rfl (tb 142 (.castable mw_IAE mw_IAE) (by decide +kernel))
  · exact va_Nw.of rfl (tb 249 (.castable mw_ISE mw_ISE) (by decide +kernel))
  · exact va_Nc.of (nw (.not (.castable mw_IAE mw_ISE)) (by decide +kernel))
  · exact va_Nc.of (nw (.not (.castable mw_ISE mw_IAE)) (by decide +kernel))
  · exact va_AO.of (tb 20 (.arrayOver (.object RX0)) (by decide +kernel))
  · exact tb 27 (.arrayOver (.array .int)) (by decide +kernel)
  · exact va_Nw.of rfl (tb 144 (.declares mw_dR) (by decide +kernel))
  · exact va_Nw.of rfl (tb 146 (.declares mw_dE) (by decide +kernel))
  · exact va_Nw.of rfl (tb 148 (.declares mw_dT) (by decide +kernel))
/-- from the law's entry to its end, over a relation of the two halves -/
theorem whole_start0 {Rel : mw_I → Prop} (hs : st_all Rel) (h0 : Rel (moI wcI)) {p : Program} {e : Env} {s : State} {m : MethodId} {below : List Frame} {meth : Method} {c : Code} (l : Launch) (hflags : l.flags = flags0) {b L : Nat} {xs : Nat → Int32} (hL : L ≤ 2560) (C0 : lw_At p s m meth c b L xs) : W p l e room_1 s m #[Value.ref b] below meth c s.heap [] 0 0 (lw_Z below #[Value.ref b] s) (entryFrame m ([Value.ref b] : List Value).toArray 7) := by
  obtain ⟨hx, hb, hr, hml, hown, hts, hXs, hbl, hlocks, hgv⟩ := C0
  obtain ⟨D, cA, hK⟩ := lw_kinds hts
  have hst : l.stackTraces = false := by
    unfold Launch.stackTraces
    rw [hflags]
    decide +kernel
  have hZ : mw_ZZ (mw_AA (fun _ => b) 0 s.heap.size) s := lw_zz hts hgv (fun a ha q => by
    rcases q with ⟨j, hj, -⟩ | q
    · omega
    · omega)
  obtain ⟨X, hX0⟩ : ∃ X : mw_X, X = (p, l, e, room_1, s, m, #[Value.ref b], below, meth, c, lw_Z below #[Value.ref b] s, D, cA, fun _ => b, 0) := ⟨_, rfl⟩
  have hX : mw_Ok RL cL_law 14 601024 7293034 X := by
    subst hX0
    exact ⟨hx, hb, hown, fun w hw => hts w (List.mem_filter.mp hw).1, hK, hZ, hst, (Nat.le_of_ble_eq_true rfl), (Nat.le_of_ble_eq_true rfl), (Nat.le_of_ble_eq_true rfl), (Nat.le_of_ble_eq_true rfl)⟩
  have hS : lw_Sc X L xs := by
    subst hX0
    exact ⟨rfl, hXs, hbl⟩
  have hfin : ∀ (i n k : Nat) (I : mw_I) (L : mw_L), n ≤ 601024 → k ≤ 7293034 → mw_G X 1592 [some (.ref 1000000), some (.ref 0), some (.ref 40), some (.ref 59), some (.int (nI i)), none, none] [.int 1] mw_Y0 I L n k := by
    subst hX0
    intro i n k I L hn hk ad H locs lsC hR hLR
    refine va_forget (fun q hq => ?_) ?_
    · rcases hR.2.2.2.2.2.2.2 q hq with ⟨j, hj, -⟩ | h
      · omega
      · exact h
    · refine W.widen hn hk ?_
      exact lw_ret hx hb hr hlocks dL_law_1592
  have hgo : mw_G X 0 [some (.ref 1000000), none, none, none, none, none, none] [] (mw_yl ([] ++ [])) mw_I0 mw_L0 0 0 := by
    have hA : ([] : List mw_B).length = 0 := rfl
    have hz40 : ∀ a, 40 ≤ a → wcI a = fun _ => 0 := fun a ha => (fr_plI (by omega) (by omega) (by omega) (by omega)).trans ((fr_plI (by omega) (by omega) (by omega) (by omega)).trans ((fr_plI (by omega) (by omega) (by omega) (by omega)).trans rfl))
    have hz59 : moI wcI 59 = fun _ => 0 := (fr_mo (by decide) (by decide) (by decide) (by decide) (by decide)).trans (hz40 59 (by decide))
    refine gy_new hX hA (q := 1) (a := 0) (by decide) dL_law_0 wn_L_8 (Nat.le_of_ble_eq_true rfl) (Nat.le_of_ble_eq_true rfl) rfl (oL_some (Or.inr (by decide)) (oL_none (oL_none (oL_none (oL_none (oL_none (oL_none oL_nil))))))) oS_nil rfl (t' := [((5, 0), [none, none, none, none, none, none, none])]) rfl ?_
    refine mw_dupR hX dL_law_3 ?_
    refine mw_cI hX [] ws_L_84 dL_law_4 (c_initW (mw_l X)) rfl (by omega) (Nat.le_of_ble_eq_true rfl) (Nat.le_of_ble_eq_true rfl) (Nat.le_of_ble_eq_true rfl) (oL_some (Or.inr (by decide)) (oL_none (oL_none (oL_none (oL_none (oL_none (oL_none oL_nil))))))) (oS_cons (okr (by decide)) oS_nil) ?_
    refine mw_astore_n hX dL_law_7 rfl (Nat.le_of_ble_eq_true rfl) ?_
    dsimp only [List.set]
    refine mw_relay (y' := mw_yl (mw_w3 ++ [])) rfl (fun _ _ => ⟨rfl, rfl⟩) ?_
    refine gy_new hX (A := mw_w3) (b := 40) rfl (q := 2) (a := 40) (by decide) dL_law_8 wn_L_85 (Nat.le_of_ble_eq_true rfl) (Nat.le_of_ble_eq_true rfl) rfl (oL_some (Or.inr (by decide)) (oL_some (okr (by decide)) (oL_none (oL_none (oL_none (oL_none (oL_none oL_nil))))))) oS_nil (hz40 _ (by decide)) (t' := [((6, 0), [none, none, none, none, none, none, none, none, none, none, none, none, none, none, none, none, none, none, none, none])]) rfl ?_
    refine mw_dupR hX dL_law_11 ?_
    refine mw_cI hX [] ws_L_87 dL_law_12 (c_initM (mw_l X) wcI hz40) rfl (by omega) (Nat.le_of_ble_eq_true rfl) (Nat.le_of_ble_eq_true rfl) (Nat.le_of_ble_eq_true rfl) (oL_some (Or.inr (by decide)) (oL_some (okr (by decide)) (oL_none (oL_none (oL_none (oL_none (oL_none oL_nil))))))) (oS_cons (okr (by decide)) oS_nil) ?_
    refine mw_astore_n hX dL_law_15 rfl (Nat.le_of_ble_eq_true rfl) ?_
    dsimp only [List.set]
    refine mw_ic hX 1 dL_law_16 rfl ?_
    refine gy_newJ hX (A := mw_w3) (b := 40) rfl (N := 1) (a := 59) dL_law_17 rfl (by decide) (Nat.le_of_ble_eq_true rfl) (Nat.le_of_ble_eq_true rfl) rfl (oL_some (Or.inr (by decide)) (oL_some (okr (by decide)) (oL_some (okr (by decide)) (oL_none (oL_none (oL_none (oL_none oL_nil))))))) oS_nil hz59 (t' := mw_mE ++ [((1, 1), [])]) rfl ?_
    refine mw_relay (y' := mw_Y0) rfl gy_end ?_
    refine mw_astore_n hX dL_law_19 rfl (Nat.le_of_ble_eq_true rfl) ?_
    dsimp only [List.set]
    refine mw_ic hX 0 dL_law_20 rfl ?_
    refine mw_istore hX dL_law_21 (Nat.le_of_ble_eq_true rfl) ?_
    dsimp only [List.set]
    exact lw_loop hX hS hL hs hfin 513 0 _ _ _ _ h0 (Nat.zero_le _) (by omega) (Nat.le_of_ble_eq_true rfl) (Nat.le_of_ble_eq_true rfl)
  subst hX0
  rw [lg_entry_eq]
  have hLR := mw_LR0 (ad := fun _ => b) (nL := 7) (as := [.ref 1000000]) (mw_cat rfl) (by decide)
  refine hgo (fun _ => b) s.heap [] _ ⟨Nat.le_refl _, fun _ _ => rfl, ?_, ?_, ?_, va_S.rf⟩ (by show mw_LR _ c.maxLocals _ _; rw [hml]; exact hLR)
  · intro k j r hk
    exact absurd hk (Nat.not_lt_zero k)
  · intro k q hk
    exact absurd (mw_got hk).1 (Nat.not_lt_zero k)
  · exact ⟨fun i j p q hi => absurd (mw_got hi).1 (Nat.not_lt_zero i), fun k q hk => absurd (mw_got hk).1 (Nat.not_lt_zero k)⟩
